section
-- ===== PART A: goes FIRST, ahead of the names: the tables' words, and 'selects' of the private methods out of them =====
/-- a private method of a class that the tables say can be made, by its rows of tables_1 -/
def lw_okq (q : MethodName × Nat) : Prop := (q.1.cls ≠ "java/lang/invoke/MethodHandle" ∧ q.1.cls ≠ "java/lang/invoke/VarHandle") ∧ Cond.instantiable q.1.cls q.2 ∈ tables_1 ∧ Cond.privateMethod q.1 ∈ tables_1 ∧ Cond.instanceMethod q.1 ∈ tables_1
theorem lw_p0 : lw_okq (⟨"TuneCatalogue", "priceTunes", "()V"⟩, 7) := ⟨⟨by decide +kernel, by decide +kernel⟩, List.mem_of_getElem? (i := 15) (by decide +kernel), List.mem_of_getElem? (i := 125) (by decide +kernel), List.mem_of_getElem? (i := 126) (by decide +kernel)⟩
theorem lw_p1 : lw_okq (⟨"TuneCatalogue", "knownOrNull", "(I)LTuneCatalogue$Tune;"⟩, 7) := ⟨⟨by decide +kernel, by decide +kernel⟩, List.mem_of_getElem? (i := 15) (by decide +kernel), List.mem_of_getElem? (i := 129) (by decide +kernel), List.mem_of_getElem? (i := 130) (by decide +kernel)⟩
theorem lw_p2 : lw_okq (⟨"TuneCatalogue", "enteredOrNull", "(I)LTuneCatalogue$Tune;"⟩, 7) := ⟨⟨by decide +kernel, by decide +kernel⟩, List.mem_of_getElem? (i := 15) (by decide +kernel), List.mem_of_getElem? (i := 133) (by decide +kernel), List.mem_of_getElem? (i := 134) (by decide +kernel)⟩
theorem lw_p3 : lw_okq (⟨"TuneCatalogue$Matching", "cheapestTo", "(LTuneCatalogue$Tune;II)I"⟩, 5) := ⟨⟨by decide +kernel, by decide +kernel⟩, List.mem_of_getElem? (i := 42) (by decide +kernel), List.mem_of_getElem? (i := 147) (by decide +kernel), List.mem_of_getElem? (i := 148) (by decide +kernel)⟩
theorem lw_p4 : lw_okq (⟨"TuneCatalogue$Matching", "costBy", "(LTuneCatalogue$Tune;IIII)I"⟩, 5) := ⟨⟨by decide +kernel, by decide +kernel⟩, List.mem_of_getElem? (i := 42) (by decide +kernel), List.mem_of_getElem? (i := 151) (by decide +kernel), List.mem_of_getElem? (i := 152) (by decide +kernel)⟩
theorem lw_p5 : lw_okq (⟨"TuneCatalogue$Matching", "tableAt", "(II)I"⟩, 5) := ⟨⟨by decide +kernel, by decide +kernel⟩, List.mem_of_getElem? (i := 42) (by decide +kernel), List.mem_of_getElem? (i := 155) (by decide +kernel), List.mem_of_getElem? (i := 156) (by decide +kernel)⟩
theorem lw_p6 : lw_okq (⟨"TuneCatalogue$Matching", "costOfMove", "(LTuneCatalogue$Tune;IIII)I"⟩, 5) := ⟨⟨by decide +kernel, by decide +kernel⟩, List.mem_of_getElem? (i := 42) (by decide +kernel), List.mem_of_getElem? (i := 162) (by decide +kernel), List.mem_of_getElem? (i := 163) (by decide +kernel)⟩
theorem lw_p7 : lw_okq (⟨"TuneCatalogue$Matching", "setTableAt", "(III)V"⟩, 5) := ⟨⟨by decide +kernel, by decide +kernel⟩, List.mem_of_getElem? (i := 42) (by decide +kernel), List.mem_of_getElem? (i := 180) (by decide +kernel), List.mem_of_getElem? (i := 181) (by decide +kernel)⟩
theorem lw_p8 : lw_okq (⟨"TuneCatalogue$Links", "withPartners", "(I)I"⟩, 1) := ⟨⟨by decide +kernel, by decide +kernel⟩, List.mem_of_getElem? (i := 67) (by decide +kernel), List.mem_of_getElem? (i := 221) (by decide +kernel), List.mem_of_getElem? (i := 222) (by decide +kernel)⟩
theorem lw_p9 : lw_okq (⟨"java/lang/Throwable", "fillInStackTrace", "(I)Ljava/lang/Throwable;"⟩, 6) := ⟨⟨by decide +kernel, by decide +kernel⟩, List.mem_of_getElem? (i := 280) (by decide +kernel), List.mem_of_getElem? (i := 278) (by decide +kernel), List.mem_of_getElem? (i := 279) (by decide +kernel)⟩
theorem lw_p10 : lw_okq (⟨"TuneCatalogue", "knownOrThrow", "(I)LTuneCatalogue$Tune;"⟩, 7) := ⟨⟨by decide +kernel, by decide +kernel⟩, List.mem_of_getElem? (i := 15) (by decide +kernel), List.mem_of_getElem? (i := 365) (by decide +kernel), List.mem_of_getElem? (i := 366) (by decide +kernel)⟩
theorem lw_p11 : lw_okq (⟨"TuneCatalogue", "enteredOrThrow", "(I)LTuneCatalogue$Tune;"⟩, 7) := ⟨⟨by decide +kernel, by decide +kernel⟩, List.mem_of_getElem? (i := 15) (by decide +kernel), List.mem_of_getElem? (i := 425) (by decide +kernel), List.mem_of_getElem? (i := 426) (by decide +kernel)⟩
theorem lw_p12 : lw_okq (⟨"TuneCatalogue$Matching", "cheapestOnward", "(LTuneCatalogue$Tune;III)I"⟩, 5) := ⟨⟨by decide +kernel, by decide +kernel⟩, List.mem_of_getElem? (i := 42) (by decide +kernel), List.mem_of_getElem? (i := 486) (by decide +kernel), List.mem_of_getElem? (i := 487) (by decide +kernel)⟩
theorem lw_p13 : lw_okq (⟨"TuneCatalogue$Matching", "costOnwardBy", "(LTuneCatalogue$Tune;IIIII)I"⟩, 5) := ⟨⟨by decide +kernel, by decide +kernel⟩, List.mem_of_getElem? (i := 42) (by decide +kernel), List.mem_of_getElem? (i := 490) (by decide +kernel), List.mem_of_getElem? (i := 491) (by decide +kernel)⟩
theorem lw_p14 : lw_okq (⟨"TuneCatalogue", "rankByPrice", "(I)I"⟩, 7) := ⟨⟨by decide +kernel, by decide +kernel⟩, List.mem_of_getElem? (i := 15) (by decide +kernel), List.mem_of_getElem? (i := 501) (by decide +kernel), List.mem_of_getElem? (i := 502) (by decide +kernel)⟩
theorem lw_p15 : lw_okq (⟨"TuneCatalogue", "refuseUnlessRunOfHum", "(I)V"⟩, 7) := ⟨⟨by decide +kernel, by decide +kernel⟩, List.mem_of_getElem? (i := 15) (by decide +kernel), List.mem_of_getElem? (i := 513) (by decide +kernel), List.mem_of_getElem? (i := 514) (by decide +kernel)⟩
def lw_privs_1 : List (MethodName × Nat) := [(⟨"TuneCatalogue", "priceTunes", "()V"⟩, 7), (⟨"TuneCatalogue", "knownOrNull", "(I)LTuneCatalogue$Tune;"⟩, 7), (⟨"TuneCatalogue", "enteredOrNull", "(I)LTuneCatalogue$Tune;"⟩, 7), (⟨"TuneCatalogue$Matching", "cheapestTo", "(LTuneCatalogue$Tune;II)I"⟩, 5), (⟨"TuneCatalogue$Matching", "costBy", "(LTuneCatalogue$Tune;IIII)I"⟩, 5), (⟨"TuneCatalogue$Matching", "tableAt", "(II)I"⟩, 5), (⟨"TuneCatalogue$Matching", "costOfMove", "(LTuneCatalogue$Tune;IIII)I"⟩, 5), (⟨"TuneCatalogue$Matching", "setTableAt", "(III)V"⟩, 5), (⟨"TuneCatalogue$Links", "withPartners", "(I)I"⟩, 1), (⟨"java/lang/Throwable", "fillInStackTrace", "(I)Ljava/lang/Throwable;"⟩, 6), (⟨"TuneCatalogue", "knownOrThrow", "(I)LTuneCatalogue$Tune;"⟩, 7), (⟨"TuneCatalogue", "enteredOrThrow", "(I)LTuneCatalogue$Tune;"⟩, 7), (⟨"TuneCatalogue$Matching", "cheapestOnward", "(LTuneCatalogue$Tune;III)I"⟩, 5), (⟨"TuneCatalogue$Matching", "costOnwardBy", "(LTuneCatalogue$Tune;IIIII)I"⟩, 5), (⟨"TuneCatalogue", "rankByPrice", "(I)I"⟩, 7), (⟨"TuneCatalogue", "refuseUnlessRunOfHum", "(I)V"⟩, 7)]
theorem lw_r1 : ∀ q ∈ lw_privs_1, lw_okq q := List.forall_mem_cons.mpr ⟨lw_p0, List.forall_mem_cons.mpr ⟨lw_p1, List.forall_mem_cons.mpr ⟨lw_p2, List.forall_mem_cons.mpr ⟨lw_p3, List.forall_mem_cons.mpr ⟨lw_p4, List.forall_mem_cons.mpr ⟨lw_p5, List.forall_mem_cons.mpr ⟨lw_p6, List.forall_mem_cons.mpr ⟨lw_p7, List.forall_mem_cons.mpr ⟨lw_p8, List.forall_mem_cons.mpr ⟨lw_p9, List.forall_mem_cons.mpr ⟨lw_p10, List.forall_mem_cons.mpr ⟨lw_p11, List.forall_mem_cons.mpr ⟨lw_p12, List.forall_mem_cons.mpr ⟨lw_p13, List.forall_mem_cons.mpr ⟨lw_p14, List.forall_mem_cons.mpr ⟨lw_p15, fun _ h => absurd h List.not_mem_nil⟩⟩⟩⟩⟩⟩⟩⟩⟩⟩⟩⟩⟩⟩⟩⟩
theorem lw_p16 : lw_okq (⟨"TuneCatalogue", "collectPlaces", "(I)V"⟩, 7) := ⟨⟨by decide +kernel, by decide +kernel⟩, List.mem_of_getElem? (i := 15) (by decide +kernel), List.mem_of_getElem? (i := 518) (by decide +kernel), List.mem_of_getElem? (i := 519) (by decide +kernel)⟩
theorem lw_p17 : lw_okq (⟨"TuneCatalogue", "collectPlacesOf", "(ILTuneCatalogue$Row;I)V"⟩, 7) := ⟨⟨by decide +kernel, by decide +kernel⟩, List.mem_of_getElem? (i := 15) (by decide +kernel), List.mem_of_getElem? (i := 522) (by decide +kernel), List.mem_of_getElem? (i := 523) (by decide +kernel)⟩
theorem lw_p18 : lw_okq (⟨"TuneCatalogue", "refuseUnlessEntered", "(II)V"⟩, 7) := ⟨⟨by decide +kernel, by decide +kernel⟩, List.mem_of_getElem? (i := 15) (by decide +kernel), List.mem_of_getElem? (i := 541) (by decide +kernel), List.mem_of_getElem? (i := 542) (by decide +kernel)⟩
theorem lw_p19 : lw_okq (⟨"TuneCatalogueModel", "holds", "(I)Z"⟩, 13) := ⟨⟨by decide +kernel, by decide +kernel⟩, List.mem_of_getElem? (i := 572) (by decide +kernel), List.mem_of_getElem? (i := 633) (by decide +kernel), List.mem_of_getElem? (i := 634) (by decide +kernel)⟩
theorem lw_p20 : lw_okq (⟨"TuneCatalogueModel", "sets", "(IIII)V"⟩, 13) := ⟨⟨by decide +kernel, by decide +kernel⟩, List.mem_of_getElem? (i := 572) (by decide +kernel), List.mem_of_getElem? (i := 637) (by decide +kernel), List.mem_of_getElem? (i := 638) (by decide +kernel)⟩
theorem lw_p21 : lw_okq (⟨"TuneCatalogueModel", "isKnown", "(I)Z"⟩, 13) := ⟨⟨by decide +kernel, by decide +kernel⟩, List.mem_of_getElem? (i := 572) (by decide +kernel), List.mem_of_getElem? (i := 645) (by decide +kernel), List.mem_of_getElem? (i := 646) (by decide +kernel)⟩
theorem lw_p22 : lw_okq (⟨"TuneCatalogueModel", "isTune", "(I)Z"⟩, 13) := ⟨⟨by decide +kernel, by decide +kernel⟩, List.mem_of_getElem? (i := 572) (by decide +kernel), List.mem_of_getElem? (i := 649) (by decide +kernel), List.mem_of_getElem? (i := 650) (by decide +kernel)⟩
theorem lw_p23 : lw_okq (⟨"TuneCatalogueModel", "mayShift", "(II)Z"⟩, 13) := ⟨⟨by decide +kernel, by decide +kernel⟩, List.mem_of_getElem? (i := 572) (by decide +kernel), List.mem_of_getElem? (i := 661) (by decide +kernel), List.mem_of_getElem? (i := 662) (by decide +kernel)⟩
theorem lw_p24 : lw_okq (⟨"TuneCatalogueModel", "stepOf", "(II)I"⟩, 13) := ⟨⟨by decide +kernel, by decide +kernel⟩, List.mem_of_getElem? (i := 572) (by decide +kernel), List.mem_of_getElem? (i := 681) (by decide +kernel), List.mem_of_getElem? (i := 682) (by decide +kernel)⟩
theorem lw_p25 : lw_okq (⟨"TuneCatalogueModel", "alike", "(IIII)I"⟩, 13) := ⟨⟨by decide +kernel, by decide +kernel⟩, List.mem_of_getElem? (i := 572) (by decide +kernel), List.mem_of_getElem? (i := 689) (by decide +kernel), List.mem_of_getElem? (i := 690) (by decide +kernel)⟩
theorem lw_p26 : lw_okq (⟨"TuneCatalogueModel", "costOf", "(I)I"⟩, 13) := ⟨⟨by decide +kernel, by decide +kernel⟩, List.mem_of_getElem? (i := 572) (by decide +kernel), List.mem_of_getElem? (i := 713) (by decide +kernel), List.mem_of_getElem? (i := 714) (by decide +kernel)⟩
theorem lw_p27 : lw_okq (⟨"TuneCatalogueModel", "laid", "(IIIII)I"⟩, 13) := ⟨⟨by decide +kernel, by decide +kernel⟩, List.mem_of_getElem? (i := 572) (by decide +kernel), List.mem_of_getElem? (i := 718) (by decide +kernel), List.mem_of_getElem? (i := 719) (by decide +kernel)⟩
theorem lw_p28 : lw_okq (⟨"TuneCatalogueModel", "costOfNotes", "(III)I"⟩, 13) := ⟨⟨by decide +kernel, by decide +kernel⟩, List.mem_of_getElem? (i := 572) (by decide +kernel), List.mem_of_getElem? (i := 722) (by decide +kernel), List.mem_of_getElem? (i := 723) (by decide +kernel)⟩
theorem lw_p29 : lw_okq (⟨"TuneCatalogueModel", "costOfPitches", "(II)I"⟩, 13) := ⟨⟨by decide +kernel, by decide +kernel⟩, List.mem_of_getElem? (i := 572) (by decide +kernel), List.mem_of_getElem? (i := 726) (by decide +kernel), List.mem_of_getElem? (i := 727) (by decide +kernel)⟩
theorem lw_p30 : lw_okq (⟨"TuneCatalogueModel", "many", "()I"⟩, 13) := ⟨⟨by decide +kernel, by decide +kernel⟩, List.mem_of_getElem? (i := 572) (by decide +kernel), List.mem_of_getElem? (i := 741) (by decide +kernel), List.mem_of_getElem? (i := 742) (by decide +kernel)⟩
theorem lw_p31 : lw_okq (⟨"TuneCatalogueModel", "rank", "(I)I"⟩, 13) := ⟨⟨by decide +kernel, by decide +kernel⟩, List.mem_of_getElem? (i := 572) (by decide +kernel), List.mem_of_getElem? (i := 749) (by decide +kernel), List.mem_of_getElem? (i := 750) (by decide +kernel)⟩
def lw_privs_2 : List (MethodName × Nat) := [(⟨"TuneCatalogue", "collectPlaces", "(I)V"⟩, 7), (⟨"TuneCatalogue", "collectPlacesOf", "(ILTuneCatalogue$Row;I)V"⟩, 7), (⟨"TuneCatalogue", "refuseUnlessEntered", "(II)V"⟩, 7), (⟨"TuneCatalogueModel", "holds", "(I)Z"⟩, 13), (⟨"TuneCatalogueModel", "sets", "(IIII)V"⟩, 13), (⟨"TuneCatalogueModel", "isKnown", "(I)Z"⟩, 13), (⟨"TuneCatalogueModel", "isTune", "(I)Z"⟩, 13), (⟨"TuneCatalogueModel", "mayShift", "(II)Z"⟩, 13), (⟨"TuneCatalogueModel", "stepOf", "(II)I"⟩, 13), (⟨"TuneCatalogueModel", "alike", "(IIII)I"⟩, 13), (⟨"TuneCatalogueModel", "costOf", "(I)I"⟩, 13), (⟨"TuneCatalogueModel", "laid", "(IIIII)I"⟩, 13), (⟨"TuneCatalogueModel", "costOfNotes", "(III)I"⟩, 13), (⟨"TuneCatalogueModel", "costOfPitches", "(II)I"⟩, 13), (⟨"TuneCatalogueModel", "many", "()I"⟩, 13), (⟨"TuneCatalogueModel", "rank", "(I)I"⟩, 13)]
theorem lw_r2 : ∀ q ∈ lw_privs_2, lw_okq q := List.forall_mem_cons.mpr ⟨lw_p16, List.forall_mem_cons.mpr ⟨lw_p17, List.forall_mem_cons.mpr ⟨lw_p18, List.forall_mem_cons.mpr ⟨lw_p19, List.forall_mem_cons.mpr ⟨lw_p20, List.forall_mem_cons.mpr ⟨lw_p21, List.forall_mem_cons.mpr ⟨lw_p22, List.forall_mem_cons.mpr ⟨lw_p23, List.forall_mem_cons.mpr ⟨lw_p24, List.forall_mem_cons.mpr ⟨lw_p25, List.forall_mem_cons.mpr ⟨lw_p26, List.forall_mem_cons.mpr ⟨lw_p27, List.forall_mem_cons.mpr ⟨lw_p28, List.forall_mem_cons.mpr ⟨lw_p29, List.forall_mem_cons.mpr ⟨lw_p30, List.forall_mem_cons.mpr ⟨lw_p31, fun _ h => absurd h List.not_mem_nil⟩⟩⟩⟩⟩⟩⟩⟩⟩⟩⟩⟩⟩⟩⟩⟩
theorem lw_p32 : lw_okq (⟨"TuneCatalogueModel", "isLike", "(I)Z"⟩, 13) := ⟨⟨by decide +kernel, by decide +kernel⟩, List.mem_of_getElem? (i := 572) (by decide +kernel), List.mem_of_getElem? (i := 757) (by decide +kernel), List.mem_of_getElem? (i := 758) (by decide +kernel)⟩
theorem lw_p33 : lw_okq (⟨"TuneCatalogueModel", "errorOfRun", "(I)I"⟩, 13) := ⟨⟨by decide +kernel, by decide +kernel⟩, List.mem_of_getElem? (i := 572) (by decide +kernel), List.mem_of_getElem? (i := 768) (by decide +kernel), List.mem_of_getElem? (i := 769) (by decide +kernel)⟩
theorem lw_p34 : lw_okq (⟨"TuneCatalogueModel", "placesOf", "(I)I"⟩, 13) := ⟨⟨by decide +kernel, by decide +kernel⟩, List.mem_of_getElem? (i := 572) (by decide +kernel), List.mem_of_getElem? (i := 772) (by decide +kernel), List.mem_of_getElem? (i := 773) (by decide +kernel)⟩
theorem lw_p35 : lw_okq (⟨"TuneCatalogueModel", "isRun", "(III)Z"⟩, 13) := ⟨⟨by decide +kernel, by decide +kernel⟩, List.mem_of_getElem? (i := 572) (by decide +kernel), List.mem_of_getElem? (i := 776) (by decide +kernel), List.mem_of_getElem? (i := 777) (by decide +kernel)⟩
theorem lw_p36 : lw_okq (⟨"TuneCatalogueModel", "areLinked", "(II)Z"⟩, 13) := ⟨⟨by decide +kernel, by decide +kernel⟩, List.mem_of_getElem? (i := 572) (by decide +kernel), List.mem_of_getElem? (i := 788) (by decide +kernel), List.mem_of_getElem? (i := 789) (by decide +kernel)⟩
theorem lw_p37 : lw_okq (⟨"TuneCatalogueModel", "familiesOf", "()I"⟩, 13) := ⟨⟨by decide +kernel, by decide +kernel⟩, List.mem_of_getElem? (i := 572) (by decide +kernel), List.mem_of_getElem? (i := 792) (by decide +kernel), List.mem_of_getElem? (i := 793) (by decide +kernel)⟩
theorem lw_p38 : lw_okq (⟨"TuneCatalogueModel", "lowest", "(I)I"⟩, 13) := ⟨⟨by decide +kernel, by decide +kernel⟩, List.mem_of_getElem? (i := 572) (by decide +kernel), List.mem_of_getElem? (i := 796) (by decide +kernel), List.mem_of_getElem? (i := 797) (by decide +kernel)⟩
theorem lw_p39 : lw_okq (⟨"TuneCatalogueModel", "familyOf", "(I)I"⟩, 13) := ⟨⟨by decide +kernel, by decide +kernel⟩, List.mem_of_getElem? (i := 572) (by decide +kernel), List.mem_of_getElem? (i := 800) (by decide +kernel), List.mem_of_getElem? (i := 801) (by decide +kernel)⟩
def lw_privs_3 : List (MethodName × Nat) := [(⟨"TuneCatalogueModel", "isLike", "(I)Z"⟩, 13), (⟨"TuneCatalogueModel", "errorOfRun", "(I)I"⟩, 13), (⟨"TuneCatalogueModel", "placesOf", "(I)I"⟩, 13), (⟨"TuneCatalogueModel", "isRun", "(III)Z"⟩, 13), (⟨"TuneCatalogueModel", "areLinked", "(II)Z"⟩, 13), (⟨"TuneCatalogueModel", "familiesOf", "()I"⟩, 13), (⟨"TuneCatalogueModel", "lowest", "(I)I"⟩, 13), (⟨"TuneCatalogueModel", "familyOf", "(I)I"⟩, 13)]
theorem lw_r3 : ∀ q ∈ lw_privs_3, lw_okq q := List.forall_mem_cons.mpr ⟨lw_p32, List.forall_mem_cons.mpr ⟨lw_p33, List.forall_mem_cons.mpr ⟨lw_p34, List.forall_mem_cons.mpr ⟨lw_p35, List.forall_mem_cons.mpr ⟨lw_p36, List.forall_mem_cons.mpr ⟨lw_p37, List.forall_mem_cons.mpr ⟨lw_p38, List.forall_mem_cons.mpr ⟨lw_p39, fun _ h => absurd h List.not_mem_nil⟩⟩⟩⟩⟩⟩⟩⟩
def lw_privs : List (MethodName × Nat) := lw_privs_1 ++ (lw_privs_2 ++ (lw_privs_3))
def lw_tbl : List Cond := k2_sels lw_privs ++ tables_1
theorem lw_privs_ok : ∀ q ∈ lw_privs, lw_okq q := by
  show ∀ q ∈ lw_privs_1 ++ (lw_privs_2 ++ (lw_privs_3)), lw_okq q
  exact List.forall_mem_append.mpr ⟨lw_r1, List.forall_mem_append.mpr ⟨lw_r2, lw_r3⟩⟩
/-! ===== BEGIN words of one list among another's, by their places ===== -/
theorem goodIn_r {big : List Cond} (ws : List Cond) (ps : List Nat) (hp : ws = ps.filterMap (fun i => big[i]?)) (h : ws.all goodWord = true) : GoodIn big ws := by
  intro w hw
  have h1 := List.all_eq_true.mp h w hw
  rw [hp] at hw
  obtain ⟨i, -, hi⟩ := List.mem_filterMap.mp hw
  have hm : w ∈ big := by first | exact List.mem_of_getElem? hi | exact List.getElem?_mem hi
  exact ⟨hm, good_of_word h1⟩
theorem goodIn_app {big a b : List Cond} (ha : GoodIn big a) (hb : GoodIn big b) : GoodIn big (a ++ b) := fun w h => (List.mem_append.mp h).elim (ha w) (hb w)
theorem goodIn_ca {big a b : List Cond} {c : Cond} (ha : GoodIn big (c :: a)) (hb : GoodIn big b) : GoodIn big (c :: (a ++ b)) := fun w h => (List.mem_cons.mp h).elim (fun e => ha w (List.mem_cons.mpr (Or.inl e))) (fun h => (List.mem_append.mp h).elim (fun h => ha w (List.mem_cons.mpr (Or.inr h))) (hb w))
theorem goodIn_sub {big ws : List Cond} (hm : ∀ w ∈ ws, w ∈ big) (h : ws.all goodWord = true) : GoodIn big ws := fun w hw => ⟨hm w hw, good_of_word (List.all_eq_true.mp h w hw)⟩
/-! ===== END ===== -/

/-! ===== BEGIN exceptions that leave a method, and their catching by the caller (launches without stack traces) ===== -/
section VXA
/-! The laws vx_back, vx_callV, vx_callS, vx_callSW, vx_throw0, vx_throwS follow proofs of the library, with one case more: JvmDerived/Free/Laws.lean (Back.of_free), Shelf42/LK1.lean (callV, callS), Shelf/KitTraced.lean (throwNew0V, throwNewS). -/
/-- where a method has thrown q: the class by its name, the cell, what was written, the world -/
def vx_T (XC : String → State → State → Prop) (st : State) (q : Addr) (t : State) (mc ms : Nat) (free : Addr → Prop) : Prop :=
  ∃ (E : String) (ce : Cell) (L : List Loc), XC E st t ∧ t.heap[q]? = some ce ∧ ce.vm = .none ∧ st.vm.findClass E = some ce.cls ∧ st.WarmedH t.vm ∧ st.sameButNew ({ t with vm := st.vm } : State) L mc ms ∧ ∀ z ∈ L, free z.base
def vx_Q (Qc : Array Value → State → Outcome → State → Prop) (XC : String → State → State → Prop) (mc ms : Nat) (free : Addr → Prop) : Array Value → State → Outcome → State → Prop := fun a st o t =>
  (Qc a st o t ∧ ∃ L, FrameEnd st o t L mc ms ∧ ∀ q ∈ L, free q.base) ∨ ∃ q, o = .threw q ∧ vx_T XC st q t mc ms free
/-- a callee that returns or throws -/
def vx_Met (l : Launch) (y : MethodName) (ws : List Cond) (rm : Room) (Pc : Array Value → State → Prop) (Qc : Array Value → State → Outcome → State → Prop) (XC : String → State → State → Prop) (mc ms : Nat) (free : Addr → Prop) : Prop :=
  MetFree l y (headSpec ws rm) Pc (fun _ _ _ _ _ => True) (vx_Q Qc XC mc ms free)
def vx_Post (XC : String → State → State → Prop) (mc ms : Nat) (free : Addr → Prop) : Pt → Array Value → Addr → Pt → Prop := fun A a q B =>
  ∃ (g : JFrame) (mk : MethodId) (t : State) (L : List Loc) (E : String) (ce : Cell), B.U.heap = t.heap ∧ B.U.vm = t.vm ∧ XC E (A.U.calling g mk a) t ∧ t.heap[q]? = some ce ∧ ce.vm = .none ∧ A.U.vm.findClass E = some ce.cls ∧ B.locs = A.locs ++ L ∧ (∀ z ∈ L, free z.base) ∧ B.cells = A.cells + mc ∧ B.slots = A.slots + ms
def vx_Back (l : Launch) (R : Room) (p : Program) (e : Env) (below : List Frame) (s : State) (sargs : Array Value) (y : MethodName) (len W9 : Nat)
    (Pre : Pt → Array Value → Prop) (Post : Pt → Array Value → Option Value → Pt → Prop) (PostX : Pt → Array Value → Addr → Pt → Prop) : Prop :=
  ∀ (m : MethodId) (meth : Method) (c : Code) (A : Pt) (g : JFrame) (ig : Instr) (mk : MethodId) (a : Array Value),
    Stand p l e R s m sargs below meth c A.U A.locs A.cells A.slots → g.method = m → g.locals.size = c.maxLocals → decode c.code g.pc = .ok (ig, len) →
    2 * g.monitorRoom + (g.stack.map fun v => v.category).sum ≤ W9 → A.U.methodNamed? y = some mk → Pre A a →
    (∃ (v : Option Value) (B : Pt), Stand p l e R s m sargs below meth c B.U B.locs B.cells B.slots ∧ Post A a v B ∧
      Steps p.tables e below (doInvoke e (A.U.setTop g) [] mk a).1 (B.U.setTop { g with pc := g.pc + len, stack := v.toList ++ g.stack })) ∨
    (∃ (q : Addr) (B : Pt), Stand p l e R s m sargs below meth c B.U B.locs B.cells B.slots ∧ PostX A a q B ∧
      Steps p.tables e below (doInvoke e (A.U.setTop g) [] mk a).1 ((B.U.setTop g).pushFrame (.throwing q)))
section Payer
variable {l : Launch} {R : Room} {p : Program} {e : Env} {below : List Frame} {s : State} {sargs : Array Value} {y : MethodName} {len W9 : Nat}
theorem vx_back {ws : List Cond} {rm : Room} {Pc : Array Value → State → Prop} {Qc : Array Value → State → Outcome → State → Prop} {XC : String → State → State → Prop} {mc ms : Nat} {free : Addr → Prop} {bytes : ByteArray} {maxL : Nat} {ret : Option FieldType}
    (hM : vx_Met l y ws rm Pc Qc XC mc ms free) (hblind : FrameBlind Pc) (hrc : rm.cells = mc) (hrs : rm.slots = ms)
    (hframes : rm.frames + 1 ≤ R.frames) (hlocals : W9 + (maxL + 11) + rm.locals ≤ R.locals)
    (hws : ∀ w ∈ ws, ∀ a' U, s.WarmedH U.vm → w.before a' U = true) (hcode : Cond.code y bytes maxL ret ∈ ws) (hinit : ∀ a' U, s.WarmedH U.vm → (Cond.initialized y.cls).before a' U = true) :
    vx_Back l R p e below s sargs y len W9 (PreOf R mc ms Pc) (PostOf Qc mc ms free) (vx_Post XC mc ms free) := by
  intro m meth c A g ig mk a X hg hsize hdg hW hn hp
  have h1 : (headSpec ws rm).pre.before a A.U = true := atoms_intro fun w hw => hws w hw _ _ X.warmed
  have h2 : (Cond.code y bytes maxL ret).before a A.U = true := hws _ hcode _ _ X.warmed
  have h3 : (Cond.initialized y.cls).before a A.U = true := hinit _ _ X.warmed
  have h4 : A.cells + (headSpec ws rm).room.cells ≤ R.cells := by rw [show (headSpec ws rm).room.cells = mc from hrc]; exact hp.1
  have h5 : A.slots + (headSpec ws rm).room.slots ≤ R.slots := by rw [show (headSpec ws rm).room.slots = ms from hrs]; exact hp.2.1
  have hPc : Pc a (A.U.calling g mk a) := hblind _ _ _ _ hp.2.2
  obtain ⟨U, Ls, c0, s0⟩ := A
  dsimp only [Pt.U, Pt.locs, Pt.cells, Pt.slots] at h1 h2 h3 h4 h5 X hn hPc ⊢
  obtain ⟨methY, cY, hmY, hcY, -, hlY, -, -, -, -⟩ := Cond.code_spec hn h2
  obtain ⟨kY, hkY, -⟩ := className_of_methodNamed hn
  have hinitY : kY.init = .initialized := Cond.initialized_spec (findClass_of_methodNamed hn) hkY h3
  have h : At U g.method c below := by rw [hg]; exact X.here
  have hlocals9 : W9 + (maxL + 11) + (headSpec ws rm).room.locals ≤ R.locals := hlocals
  have happ : (headSpec ws rm).appliesLoose y e.platform (U.calling g mk a) = true :=
    Spec.appliesLoose_calling (g := g) h hdg hn hkY hinitY
      (X.room_calling (g := g) (R' := (headSpec ws rm).room) hsize hmY hcY hframes (by rw [hlY]; omega) h4 h5) h1
  obtain ⟨mid, hmid⟩ := h.above
  have hfr : (U.setTop g).frames = (.java g :: mid) ++ below := by rw [State.frames_setTop' g h.top, hmid]; rfl
  obtain ⟨o, s₂, hsteps, -, hend, hq⟩ := Steps.callFree hM p X.admits X.cas X.clock (acts := []) hfr happ hPc trivial
  have hq' : vx_Q Qc XC mc ms free a (U.calling g mk a) o s₂ := hq
  rw [State.frames_setTop' g h.top] at hend
  obtain ⟨g₀, hg0⟩ := Option.isSome_iff_exists.mp h.top
  obtain ⟨r, hr⟩ := State.topJava?_eq_some.mp hg0
  have hr' : (({ U with heap := s₂.heap, slotsUsed := s₂.slotsUsed } : State).setVm s₂.vm).frames = .java g₀ :: r := hr
  rcases hq' with ⟨hqc, L, hfe, hL⟩ | ⟨q, rfl, E, ce, L, hx, hce, hcv, hcl, hW₂, hsm, hL⟩
  · obtain ⟨⟨v, rfl⟩, hW₂, e2, q2, q3, q4, q5, q6⟩ := id hfe
    have e3 : s₂ = ({ (U.calling g mk a).setFrames s₂.frames with heap := s₂.heap, slotsUsed := s₂.slotsUsed } : State).setVm s₂.vm := by
      have : s₂ = ({ s₂ with vm := (U.calling g mk a).vm } : State).setVm s₂.vm := rfl
      rw [e2] at this
      exact this
    obtain ⟨c₂, i₂, len₂, hc₂, hd₂, hf₂⟩ := hend
    have hW' : U.WarmedH s₂.vm := hW₂
    have hcc : c₂ = c := by
      have h1 : s₂.code? g.method = U.code? g.method := by
        rw [State.code?_eq, State.code?_eq, hW'.alike.method?]
      exact Option.some.inj (hc₂.symm.trans (h1.trans h.code))
    subst hcc
    have hlen : len₂ = len := by rw [hdg] at hd₂; cases hd₂; rfl
    subst hlen
    have hs₂ : s₂ = (({ U with heap := s₂.heap, slotsUsed := s₂.slotsUsed } : State).setVm s₂.vm).setTop { g with pc := g.pc + len₂, stack := v.toList ++ g.stack } := by
      refine e3.trans ?_
      rw [hf₂, State.calling_eq h.top, State.setFrames_setFrames, State.setTop_of_frames _ hr', hr]
      rfl
    have hsame : U.sameButNew ({ U with heap := s₂.heap, slotsUsed := s₂.slotsUsed } : State) L mc ms := by
      refine ⟨?_, q2, q3, q4, q5, q6⟩
      obtain ⟨t, ht, -⟩ := State.frames_cons hr
      show ({ U with heap := s₂.heap, slotsUsed := s₂.slotsUsed } : State) = { U.setFrames U.frames with heap := s₂.heap, slotsUsed := s₂.slotsUsed }
      rw [State.setFrames_self ht]
    subst hg
    refine Or.inl ⟨v, ⟨(({ U with heap := s₂.heap, slotsUsed := s₂.slotsUsed } : State).setVm s₂.vm), Ls ++ L, c0 + mc, s0 + ms⟩,
      ⟨X.admits, X.cas, X.clock, X.frames, X.room, X.hears, X.method, X.code, (X.here.setHeapUsed s₂.heap s₂.slotsUsed).setVm hW'.alike, X.tail, State.WarmedH.trans X.warmed hW', X.limits, X.bytes, X.same.trans (hsame.setVm s.vm)⟩,
      ⟨g, mk, s₂, L, rfl, rfl, hqc, rfl, hL, rfl, rfl⟩, ?_⟩
    show Steps p.tables e below _ ((({ U with heap := s₂.heap, slotsUsed := s₂.slotsUsed } : State).setVm s₂.vm).setTop { g with pc := g.pc + len₂, stack := v.toList ++ g.stack })
    rw [← hs₂]
    exact hsteps
  · obtain ⟨e2, q2, q3, q4, q5, q6⟩ := id hsm
    have e3 : s₂ = ({ (U.calling g mk a).setFrames s₂.frames with heap := s₂.heap, slotsUsed := s₂.slotsUsed } : State).setVm s₂.vm := by
      have : s₂ = ({ s₂ with vm := (U.calling g mk a).vm } : State).setVm s₂.vm := rfl
      rw [e2] at this
      exact this
    have hf₂ : s₂.frames = .throwing q :: .java g :: U.frames.tail := hend
    have hW' : U.WarmedH s₂.vm := hW₂
    have hs₂ : s₂ = ((({ U with heap := s₂.heap, slotsUsed := s₂.slotsUsed } : State).setVm s₂.vm).setTop g).pushFrame (.throwing q) := by
      refine e3.trans ?_
      rw [hf₂, State.calling_eq h.top, State.setFrames_setFrames, State.pushFrame, State.frames_setTop _ hr', State.setTop_of_frames _ hr', State.setFrames_setFrames, hr]
      rfl
    have hsame : U.sameButNew ({ U with heap := s₂.heap, slotsUsed := s₂.slotsUsed } : State) L mc ms := by
      refine ⟨?_, q2, q3, q4, q5, q6⟩
      obtain ⟨t, ht, -⟩ := State.frames_cons hr
      show ({ U with heap := s₂.heap, slotsUsed := s₂.slotsUsed } : State) = { U.setFrames U.frames with heap := s₂.heap, slotsUsed := s₂.slotsUsed }
      rw [State.setFrames_self ht]
    subst hg
    refine Or.inr ⟨q, ⟨(({ U with heap := s₂.heap, slotsUsed := s₂.slotsUsed } : State).setVm s₂.vm), Ls ++ L, c0 + mc, s0 + ms⟩,
      ⟨X.admits, X.cas, X.clock, X.frames, X.room, X.hears, X.method, X.code, (X.here.setHeapUsed s₂.heap s₂.slotsUsed).setVm hW'.alike, X.tail, State.WarmedH.trans X.warmed hW', X.limits, X.bytes, X.same.trans (hsame.setVm s.vm)⟩,
      ⟨g, mk, s₂, L, E, ce, rfl, rfl, hx, hce, hcv, hcl, rfl, hL, rfl, rfl⟩, ?_⟩
    show Steps p.tables e below _ (((({ U with heap := s₂.heap, slotsUsed := s₂.slotsUsed } : State).setVm s₂.vm).setTop g).pushFrame (.throwing q))
    rw [← hs₂]
    exact hsteps
end Payer
section Calls
variable {p : Program} {l : Launch} {e : Env} {R : Room} {s : State} {m : MethodId} {args : Array Value} {below : List Frame} {meth : Method} {c : Code} {T : State} {locs : List Loc} {cells slots : Nat}
theorem vx_callV (X : Stand p l e R s m args below meth c T locs cells slots) (hexec : p.tables.exec = Jvm.exec) {own C : String} {index : Nat} {y : MethodName} {bytes : ByteArray} {maxL : Nat} {ret : Option FieldType}
    (hown : s.vm.findClass own = some m.cls) (hlink : (Cond.methodLink own index y).before args s = true) (hinst : (Cond.instanceMethod y).before args s = true) (hsel : (Cond.selects C y y).before args s = true)
    (hcode : (Cond.code y bytes maxL ret).before args s = true) (hy : y.cls ≠ "java/lang/invoke/MethodHandle" ∧ y.cls ≠ "java/lang/invoke/VarHandle")
    {W9 : Nat} {Pre : Pt → Array Value → Prop} {Post : Pt → Array Value → Option Value → Pt → Prop} {PostX : Pt → Array Value → Addr → Pt → Prop} (hK : vx_Back l R p e below s args y 3 W9 Pre Post PostX)
    {b : Addr} {cellB : Cell} (hcell : T.heap[b]? = some cellB) (hobj : cellB.vm.isStatics = false) (hcls : s.vm.findClass C = some cellB.cls)
    {g : JFrame} (hg : g.method = m) (hsize : g.locals.size = c.maxLocals) {argsL rest : List Value} (hlen : ∀ sig, parseMethodDescriptor y.desc = some sig → argsL.length = sig.parameters.length)
    (hstack : g.stack = argsL.reverse ++ .ref b :: rest) (hW : 2 * g.monitorRoom + (rest.map fun v => v.category).sum ≤ W9) (hdg : decode c.code g.pc = .ok (.invokevirtual index, 3))
    (hpre : ∀ vm₁, s.WarmedH vm₁ → Pre ⟨T.setVm vm₁, locs, cells, slots⟩ (Value.ref b :: argsL).toArray) :
    (∃ (v : Option Value) (vm₁ : Vm) (B : Pt), s.WarmedH vm₁ ∧ Stand p l e R s m args below meth c B.U B.locs B.cells B.slots ∧ Post ⟨T.setVm vm₁, locs, cells, slots⟩ (Value.ref b :: argsL).toArray v B ∧
      ∀ target, Steps p.tables e below (B.U.setTop { g with pc := g.pc + 3, stack := v.toList ++ rest }) target → Steps p.tables e below (T.setTop g) target) ∨
    (∃ (q : Addr) (vm₁ : Vm) (B : Pt), s.WarmedH vm₁ ∧ Stand p l e R s m args below meth c B.U B.locs B.cells B.slots ∧ PostX ⟨T.setVm vm₁, locs, cells, slots⟩ (Value.ref b :: argsL).toArray q B ∧
      Steps p.tables e below (T.setTop g) ((B.U.setTop { g with stack := rest }).pushFrame (.throwing q))) := by
  obtain ⟨mk, methM, hnamed, hmethM, hstM, habM⟩ := Cond.instanceMethod_spec hinst
  obtain ⟨methM', cM, hmethM', -, -, -, -, -, -, hsigM⟩ := Cond.code_spec hnamed hcode
  cases hmethM.symm.trans hmethM'
  obtain ⟨c2, r2, m2, q1, q2, q3, q4, kP, hkP, hkPi⟩ := Cond.selects_spec hsel
  cases hcls.symm.trans q1
  cases (State.methodFound?_of_named hnamed hy).symm.trans q2
  cases hnamed.symm.trans q3
  have hselP : selectMethod e.platform s.vm cellB.cls mk = .method mk := by rw [Launch.admits_selectMethod X.admits]; exact q4
  obtain ⟨vm₁, X₁, hstep₁⟩ := X.invokevirtual hexec hown hlink hnamed hmethM hstM hkP hkPi hy (a := b) (cell := cellB) hcell
    (fun z h => by rw [h] at hobj; cases hobj) hselP hmethM habM hkP hkPi (g := g) hg (argsL := argsL) (rest := rest) (hlen _ hsigM) hstack hdg
  rcases hK m meth c ⟨T.setVm vm₁, locs, cells, slots⟩ { g with stack := rest } (.invokevirtual index) mk (Value.ref b :: argsL).toArray X₁ hg hsize hdg hW (X₁.named hnamed) (hpre vm₁ X₁.warmed) with ⟨v, B, X', hpost, hsteps⟩ | ⟨q, B, X', hpost, hsteps⟩
  · exact Or.inl ⟨v, vm₁, B, X₁.warmed, X', hpost, fun target h => hstep₁ _ fun acts => by rw [doInvoke_state]; exact hsteps.trans h⟩
  · exact Or.inr ⟨q, vm₁, B, X₁.warmed, X', hpost, hstep₁ _ fun acts => by rw [doInvoke_state]; exact hsteps⟩
theorem vx_callS (X : Stand p l e R s m args below meth c T locs cells slots) (hexec : p.tables.exec = Jvm.exec) {own : String} {index : Nat} {y : MethodName} {bytes : ByteArray} {maxL : Nat} {ret : Option FieldType}
    (hown : s.vm.findClass own = some m.cls) (hlink : (Cond.methodLink own index y).before args s = true) (hstat : (Cond.static y).before args s = true) (hinit : (Cond.initialized y.cls).before args s = true)
    (hcode : (Cond.code y bytes maxL ret).before args s = true) (hy : y.cls ≠ "java/lang/invoke/MethodHandle" ∧ y.cls ≠ "java/lang/invoke/VarHandle")
    {W9 : Nat} {Pre : Pt → Array Value → Prop} {Post : Pt → Array Value → Option Value → Pt → Prop} {PostX : Pt → Array Value → Addr → Pt → Prop} (hK : vx_Back l R p e below s args y 3 W9 Pre Post PostX)
    {g : JFrame} (hg : g.method = m) (hsize : g.locals.size = c.maxLocals) {argsL rest : List Value} (hlen : ∀ sig, parseMethodDescriptor y.desc = some sig → argsL.length = sig.parameters.length)
    (hstack : g.stack = argsL.reverse ++ rest) (hW : 2 * g.monitorRoom + (rest.map fun v => v.category).sum ≤ W9) (hdg : decode c.code g.pc = .ok (.invokestatic index, 3))
    (hpre : ∀ vm₁, s.WarmedH vm₁ → Pre ⟨T.setVm vm₁, locs, cells, slots⟩ argsL.toArray) :
    (∃ (v : Option Value) (vm₁ : Vm) (B : Pt), s.WarmedH vm₁ ∧ Stand p l e R s m args below meth c B.U B.locs B.cells B.slots ∧ Post ⟨T.setVm vm₁, locs, cells, slots⟩ argsL.toArray v B ∧
      ∀ target, Steps p.tables e below (B.U.setTop { g with pc := g.pc + 3, stack := v.toList ++ rest }) target → Steps p.tables e below (T.setTop g) target) ∨
    (∃ (q : Addr) (vm₁ : Vm) (B : Pt), s.WarmedH vm₁ ∧ Stand p l e R s m args below meth c B.U B.locs B.cells B.slots ∧ PostX ⟨T.setVm vm₁, locs, cells, slots⟩ argsL.toArray q B ∧
      Steps p.tables e below (T.setTop g) ((B.U.setTop { g with stack := rest }).pushFrame (.throwing q))) := by
  obtain ⟨mk, hnamed⟩ := Cond.code_named hcode
  obtain ⟨methM, cM, hmethM, -, -, -, -, -, -, hsigM⟩ := Cond.code_spec hnamed hcode
  have hstatic : methM.isStatic = true := Cond.static_spec hnamed hmethM hstat
  obtain ⟨kP, hkP, -⟩ := className_of_methodNamed hnamed
  have hinitP : kP.init = .initialized := Cond.initialized_spec (findClass_of_methodNamed hnamed) hkP hinit
  obtain ⟨vm₁, X₁, hstep₁⟩ := X.invokestatic hexec hown hlink hnamed hmethM hstatic hkP hinitP hy (g := g) hg (argsL := argsL) (rest := rest) (hlen _ hsigM) hstack hdg
  rcases hK m meth c ⟨T.setVm vm₁, locs, cells, slots⟩ { g with stack := rest } (.invokestatic index) mk argsL.toArray X₁ hg hsize hdg hW (X₁.named hnamed) (hpre vm₁ X₁.warmed) with ⟨v, B, X', hpost, hsteps⟩ | ⟨q, B, X', hpost, hsteps⟩
  · exact Or.inl ⟨v, vm₁, B, X₁.warmed, X', hpost, fun target h => hstep₁ _ fun acts => by rw [doInvoke_state]; exact hsteps.trans h⟩
  · exact Or.inr ⟨q, vm₁, B, X₁.warmed, X', hpost, hstep₁ _ fun acts => by rw [doInvoke_state]; exact hsteps⟩
end Calls
theorem vx_cls {s : State} {T : State} {vm₁ : Vm} {E : String} {k : ClassId} (hW : s.WarmedH vm₁) (h : (T.setVm vm₁).vm.findClass E = some k) : s.vm.findClass E = some k := by
  have h1 : vm₁.findClass E = some k := h
  rw [hW.alike.findClass] at h1
  exact h1
/-- the method's frame g, with q thrown over it -/
def vx_W (p : Program) (l : Launch) (e : Env) (R : Room) (s : State) (m : MethodId) (args : Array Value) (below : List Frame) (meth : Method) (c : Code) (H : Heap) (locs : List Loc) (cells slots : Nat) (Q : State → Prop) (g : JFrame) (q : Addr) : Prop :=
  ∀ T : State, T.heap = H → Stand p l e R s m args below meth c T locs cells slots → ∃ t, Steps p.tables e below ((T.setTop g).pushFrame (.throwing q)) t ∧ Q t
def vx_Run (p : Program) (l : Launch) (e : Env) (R : Room) (s : State) (m : MethodId) (args : Array Value) (below : List Frame) (meth : Method) (c : Code) (H : Heap) (locs : List Loc) (cells slots mc ms : Nat) (g : JFrame) (rest : List Value) (Qa : State → Outcome → State → Prop) (XC : String → State → State → Prop) (free : Addr → Prop) : Prop :=
  ∀ T : State, T.heap = H → Stand p l e R s m args below meth c T locs cells slots →
    (∃ (v : Option Value) (st₀ t T' : State) (L : List Loc), st₀.heap = H ∧ Stand p l e R s m args below meth c T' (locs ++ L) (cells + mc) (slots + ms) ∧ (∀ q ∈ L, free q.base) ∧ T'.heap = t.heap ∧ T'.vm = t.vm ∧ Qa st₀ (.returned v) t ∧
      Goes p e below T g T' { g with pc := g.pc + 3, stack := v.toList ++ rest }) ∨
    (∃ (q : Addr) (st₀ t T' : State) (L : List Loc) (E : String) (ce : Cell), st₀.heap = H ∧ Stand p l e R s m args below meth c T' (locs ++ L) (cells + mc) (slots + ms) ∧ (∀ z ∈ L, free z.base) ∧ T'.heap = t.heap ∧ T'.vm = t.vm ∧ XC E st₀ t ∧ t.heap[q]? = some ce ∧ ce.vm = .none ∧ s.vm.findClass E = some ce.cls ∧
      Steps p.tables e below (T.setTop g) ((T'.setTop { g with stack := rest }).pushFrame (.throwing q)))
def vx_X {S : Type} (px : S → Prop) (B : String → S → State → Prop) (A : Nat → Prop) : String → State → State → Prop := fun E st t => ∃ u : S, px u ∧ B E u t ∧ va_F A st t
section Runs
variable {p : Program} {l : Launch} {e : Env} {R : Room} {s : State} {m : MethodId} {args : Array Value} {below : List Frame} {meth : Method} {c : Code} {H : Heap} {locs : List Loc} {cells slots : Nat}
variable {y : MethodName} {bytes cc : ByteArray} {maxL nL mc ms n index : Nat} {ret : Option FieldType} {ws : List Cond} {rm : Room} {Pc : Array Value → State → Prop} {Qc : Array Value → State → Outcome → State → Prop} {XC : String → State → State → Prop} {free : Addr → Prop} {Ts : List Cond} {own C : String} {b : Addr} {As rest : List Value} {g : JFrame}
theorem vx_callBack (cb : CallB R s args own index y bytes maxL ret ws rm mc ms n) (hM : vx_Met l y ws rm Pc Qc XC mc ms free) (hbl : FrameBlind Pc) : vx_Back l R p e below s args y 3 8 (PreOf R mc ms Pc) (PostOf Qc mc ms free) (vx_Post XC mc ms free) := by
  obtain ⟨hrc, hrs, hfr, hlo, hws, hcw, -, hini, -⟩ := cb
  exact vx_back (bytes := bytes) (maxL := maxL) (ret := ret) hM hbl hrc hrs hfr hlo hws hcw (fun a' U hW => word_at hW (Or.inl (by first | rfl | simp [Cond.onTables, Cond.keeps, Cond.steady])) hini)
theorem vx_runV (S : CallFix p m c cc nL s args Ts own) (hM : vx_Met l y ws rm Pc Qc XC mc ms free) (cw : CallW R s args own C index y bytes maxL ret ws rm mc ms n) (hp : PreV s H C b Pc As)
    (hg : g.method = m) (hn : As.length = n) (hsize : g.locals.size = nL) (hstack : g.stack = As.reverse ++ .ref b :: rest) (hW : 2 * g.monitorRoom + (rest.map fun v => v.category).sum ≤ 8) (hdg : decode cc g.pc = .ok (.invokevirtual index, 3)) (hf : cells + mc ≤ R.cells ∧ slots + ms ≤ R.slots) :
    vx_Run p l e R s m args below meth c H locs cells slots mc ms g rest (Qc (Value.ref b :: As).toArray) XC free := by
  have hK : vx_Back l R p e below s args y 3 8 (PreOf R mc ms Pc) (PostOf Qc mc ms free) (vx_Post XC mc ms free) := vx_callBack cw.1 hM hp.1
  obtain ⟨⟨-, -, -, -, -, -, hcode, -, hy, hlen, hl⟩, hin, hse⟩ := cw
  obtain ⟨hx, hb, hml, ho, -⟩ := S
  obtain ⟨-, ⟨cellB, hcB, hoB, hclB⟩, hPc⟩ := hp
  intro T hT X
  rcases vx_callV X hx (C := C) (bytes := bytes) (maxL := maxL) (ret := ret) ho hl hin hse hcode hy hK (by rw [hT]; exact hcB) hoB hclB hg (hsize.trans hml.symm) (argsL := As) (rest := rest) (fun sig h => hn.trans (hlen sig h)) hstack hW (by rw [hb]; exact hdg)
    (fun vm₁ hW₁ => ⟨hf.1, hf.2, hPc (T.setVm vm₁) hT hW₁⟩) with ⟨v, vm₁, ⟨U', l2, c2, s2⟩, hW₁, X', ⟨g', mk, t, L, e1, e2, hq, h1, hL, h2, h3⟩, st⟩ | ⟨q, vm₁, ⟨U', l2, c2, s2⟩, hW₁, X', ⟨g', mk, t, L, E, ce, e1, e2, hq, hce, hcv, hcl, h1, hL, h2, h3⟩, st⟩
  · dsimp only [Pt.U, Pt.locs, Pt.cells, Pt.slots] at X' e1 e2 h1 h2 h3 st
    subst h1; subst h2; subst h3
    exact Or.inl ⟨v, (T.setVm vm₁).calling g' mk (Value.ref b :: As).toArray, t, U', L, hT, X', hL, e1, e2, hq, st⟩
  · dsimp only [Pt.U, Pt.locs, Pt.cells, Pt.slots] at X' e1 e2 h1 h2 h3 st hcl
    subst h1; subst h2; subst h3
    exact Or.inr ⟨q, (T.setVm vm₁).calling g' mk (Value.ref b :: As).toArray, t, U', L, E, ce, hT, X', hL, e1, e2, hq, hce, hcv, vx_cls hW₁ hcl, st⟩
theorem vx_runS (S : CallFix p m c cc nL s args Ts own) (hM : vx_Met l y ws rm Pc Qc XC mc ms free) (cw : CallB R s args own index y bytes maxL ret ws rm mc ms n ∧ (Cond.static y).before args s = true) (hp : PreS s H Pc As)
    (hg : g.method = m) (hn : As.length = n) (hsize : g.locals.size = nL) (hstack : g.stack = As.reverse ++ rest) (hW : 2 * g.monitorRoom + (rest.map fun v => v.category).sum ≤ 8) (hdg : decode cc g.pc = .ok (.invokestatic index, 3)) (hf : cells + mc ≤ R.cells ∧ slots + ms ≤ R.slots) :
    vx_Run p l e R s m args below meth c H locs cells slots mc ms g rest (Qc As.toArray) XC free := by
  have hK : vx_Back l R p e below s args y 3 8 (PreOf R mc ms Pc) (PostOf Qc mc ms free) (vx_Post XC mc ms free) := vx_callBack cw.1 hM hp.1
  obtain ⟨⟨-, -, -, -, -, -, hcode, hini, hy, hlen, hl⟩, hstt⟩ := cw
  obtain ⟨hx, hb, hml, ho, -⟩ := S
  intro T hT X
  rcases vx_callS X hx (bytes := bytes) (maxL := maxL) (ret := ret) ho hl hstt hini hcode hy hK hg (hsize.trans hml.symm) (argsL := As) (rest := rest) (fun sig h => hn.trans (hlen sig h)) hstack hW (by rw [hb]; exact hdg)
    (fun vm₁ hW₁ => ⟨hf.1, hf.2, hp.2 (T.setVm vm₁) hT hW₁⟩) with ⟨v, vm₁, ⟨U', l2, c2, s2⟩, hW₁, X', ⟨g', mk, t, L, e1, e2, hq, h1, hL, h2, h3⟩, st⟩ | ⟨q, vm₁, ⟨U', l2, c2, s2⟩, hW₁, X', ⟨g', mk, t, L, E, ce, e1, e2, hq, hce, hcv, hcl, h1, hL, h2, h3⟩, st⟩
  · dsimp only [Pt.U, Pt.locs, Pt.cells, Pt.slots] at X' e1 e2 h1 h2 h3 st
    subst h1; subst h2; subst h3
    exact Or.inl ⟨v, (T.setVm vm₁).calling g' mk As.toArray, t, U', L, hT, X', hL, e1, e2, hq, st⟩
  · dsimp only [Pt.U, Pt.locs, Pt.cells, Pt.slots] at X' e1 e2 h1 h2 h3 st hcl
    subst h1; subst h2; subst h3
    exact Or.inr ⟨q, (T.setVm vm₁).calling g' mk As.toArray, t, U', L, E, ce, hT, X', hL, e1, e2, hq, hce, hcv, vx_cls hW₁ hcl, st⟩
end Runs
section Rows
variable {p : Program} {l : Launch} {e : Env} {R : Room} {s : State} {m : MethodId} {args : Array Value} {below : List Frame} {meth : Method} {c : Code} {H : Heap} {locs : List Loc} {cells slots : Nat} {Q : State → Prop}
variable {mc ms : Nat} {free : Addr → Prop} {A0 A1 : Nat → Prop} {H0 : Heap} {a : Array Value} {pc : Nat} {ls : Array Slot} {st0 rest : List Value}
theorem vx_keep {st₀ t T' : State} {L : List Loc} (h0 : st₀.heap = H) (e1 : T'.heap = t.heap) (hS : va_S A0 H0 H locs) (hA : ∀ q, q < H.size → A1 q → A0 q) (hf : ∀ q, free q → A0 q) (hL : ∀ q ∈ L, free q.base) (hF : va_F A1 st₀ t) :
    H.size ≤ T'.heap.size ∧ (∀ q : Nat, q < H.size → ¬ A1 q → T'.heap[q]? = H[q]?) ∧ va_S A0 H0 T'.heap (locs ++ L) := by
  obtain ⟨hz, hk⟩ := hF
  rw [h0] at hz hk
  exact ⟨by rw [e1]; exact hz, fun q h1 h2 => by rw [e1]; exact hk q h1 h2,
    ⟨Nat.le_trans hS.1 (by rw [e1]; exact hz), fun q h1 h2 => by rw [e1, hk q (Nat.lt_of_lt_of_le h1 hS.1) (fun z => h2 (hA q (Nat.lt_of_lt_of_le h1 hS.1) z))]; exact hS.2.1 q h1 h2, fun q hq => by
      rcases List.mem_append.mp hq with h | h
      · exact hS.2.2 q h
      · exact hf _ (hL q h)⟩⟩
theorem vx_calli {S SX : Type} {post : Int32 → S → Prop} {px : SX → Prop} {B : S → State → Prop} {BX : String → SX → State → Prop} {AX : Nat → Prop} (hr : vx_Run p l e R s m args below meth c H locs cells slots mc ms (F0 m pc ls st0) rest (va_Qi post B A1 a) (vx_X px BX AX) free) (hS : va_S A0 H0 H locs) (hA : ∀ q, q < H.size → A1 q → A0 q) (hf : ∀ q, free q → A0 q) (hAX : ∀ q, q < H.size → AX q → A0 q)
    (kx : ∀ (E : String) (ce : Cell) (q9 : Addr) (u : SX) (t : State) (H1 : Heap) (locs1 : List Loc), t.heap = H1 → s.vm.Alike t.vm → px u → BX E u t → H.size ≤ H1.size → (∀ q : Nat, q < H.size → ¬ AX q → H1[q]? = H[q]?) → va_S A0 H0 H1 locs1 → H1[q9]? = some ce → ce.vm = .none → s.vm.findClass E = some ce.cls → vx_W p l e R s m args below meth c H1 locs1 (cells + mc) (slots + ms) Q (F0 m pc ls rest) q9)
    (kk : ∀ (r : Int32) (u : S) (t : State) (H1 : Heap) (locs1 : List Loc), t.heap = H1 → s.vm.Alike t.vm → post r u → B u t → H.size ≤ H1.size → (∀ q : Nat, q < H.size → ¬ A1 q → H1[q]? = H[q]?) → va_S A0 H0 H1 locs1 → W p l e R s m args below meth c H1 locs1 (cells + mc) (slots + ms) Q (F0 m (pc + 3) ls (.int r :: rest))) : W p l e R s m args below meth c H locs cells slots Q (F0 m pc ls st0) := by
  intro T hT X
  rcases hr T hT X with ⟨v, st₀, t, T', L, h0, X', hL, e1, e2, ⟨⟨r, u, hv, hp, hb⟩, hF⟩, st⟩ | ⟨q, st₀, t, T', L, E, ce, h0, X', hL, e1, e2, ⟨u, hp, hb, hF⟩, hce, hcv, hcl, st⟩
  · cases hv
    obtain ⟨k1, k2, k3⟩ := vx_keep h0 e1 hS hA hf hL hF
    obtain ⟨t2, a1, b1⟩ := kk r u t T'.heap (locs ++ L) e1.symm (by rw [← e2]; exact X'.warmed.alike) hp hb k1 k2 k3 T' rfl X'
    exact ⟨t2, st t2 a1, b1⟩
  · obtain ⟨k1, k2, k3⟩ := vx_keep h0 e1 hS hAX hf hL hF
    obtain ⟨t2, a1, b1⟩ := kx E ce q u t T'.heap (locs ++ L) e1.symm (by rw [← e2]; exact X'.warmed.alike) hp hb k1 k2 k3 (by rw [e1]; exact hce) hcv hcl T' rfl X'
    exact ⟨t2, st.trans a1, b1⟩
theorem vx_calll {S SX : Type} {post : Int64 → S → Prop} {px : SX → Prop} {B : S → State → Prop} {BX : String → SX → State → Prop} {AX : Nat → Prop} (hr : vx_Run p l e R s m args below meth c H locs cells slots mc ms (F0 m pc ls st0) rest (va_Ql post B A1 a) (vx_X px BX AX) free) (hS : va_S A0 H0 H locs) (hA : ∀ q, q < H.size → A1 q → A0 q) (hf : ∀ q, free q → A0 q) (hAX : ∀ q, q < H.size → AX q → A0 q)
    (kx : ∀ (E : String) (ce : Cell) (q9 : Addr) (u : SX) (t : State) (H1 : Heap) (locs1 : List Loc), t.heap = H1 → s.vm.Alike t.vm → px u → BX E u t → H.size ≤ H1.size → (∀ q : Nat, q < H.size → ¬ AX q → H1[q]? = H[q]?) → va_S A0 H0 H1 locs1 → H1[q9]? = some ce → ce.vm = .none → s.vm.findClass E = some ce.cls → vx_W p l e R s m args below meth c H1 locs1 (cells + mc) (slots + ms) Q (F0 m pc ls rest) q9)
    (kk : ∀ (r : Int64) (u : S) (t : State) (H1 : Heap) (locs1 : List Loc), t.heap = H1 → s.vm.Alike t.vm → post r u → B u t → H.size ≤ H1.size → (∀ q : Nat, q < H.size → ¬ A1 q → H1[q]? = H[q]?) → va_S A0 H0 H1 locs1 → W p l e R s m args below meth c H1 locs1 (cells + mc) (slots + ms) Q (F0 m (pc + 3) ls (.long r :: rest))) : W p l e R s m args below meth c H locs cells slots Q (F0 m pc ls st0) := by
  intro T hT X
  rcases hr T hT X with ⟨v, st₀, t, T', L, h0, X', hL, e1, e2, ⟨⟨r, u, hv, hp, hb⟩, hF⟩, st⟩ | ⟨q, st₀, t, T', L, E, ce, h0, X', hL, e1, e2, ⟨u, hp, hb, hF⟩, hce, hcv, hcl, st⟩
  · cases hv
    obtain ⟨k1, k2, k3⟩ := vx_keep h0 e1 hS hA hf hL hF
    obtain ⟨t2, a1, b1⟩ := kk r u t T'.heap (locs ++ L) e1.symm (by rw [← e2]; exact X'.warmed.alike) hp hb k1 k2 k3 T' rfl X'
    exact ⟨t2, st t2 a1, b1⟩
  · obtain ⟨k1, k2, k3⟩ := vx_keep h0 e1 hS hAX hf hL hF
    obtain ⟨t2, a1, b1⟩ := kx E ce q u t T'.heap (locs ++ L) e1.symm (by rw [← e2]; exact X'.warmed.alike) hp hb k1 k2 k3 (by rw [e1]; exact hce) hcv hcl T' rfl X'
    exact ⟨t2, st.trans a1, b1⟩
theorem vx_callf {S SX : Type} {post : UInt32 → S → Prop} {px : SX → Prop} {B : S → State → Prop} {BX : String → SX → State → Prop} {AX : Nat → Prop} (hr : vx_Run p l e R s m args below meth c H locs cells slots mc ms (F0 m pc ls st0) rest (va_Qf post B A1 a) (vx_X px BX AX) free) (hS : va_S A0 H0 H locs) (hA : ∀ q, q < H.size → A1 q → A0 q) (hf : ∀ q, free q → A0 q) (hAX : ∀ q, q < H.size → AX q → A0 q)
    (kx : ∀ (E : String) (ce : Cell) (q9 : Addr) (u : SX) (t : State) (H1 : Heap) (locs1 : List Loc), t.heap = H1 → s.vm.Alike t.vm → px u → BX E u t → H.size ≤ H1.size → (∀ q : Nat, q < H.size → ¬ AX q → H1[q]? = H[q]?) → va_S A0 H0 H1 locs1 → H1[q9]? = some ce → ce.vm = .none → s.vm.findClass E = some ce.cls → vx_W p l e R s m args below meth c H1 locs1 (cells + mc) (slots + ms) Q (F0 m pc ls rest) q9)
    (kk : ∀ (r : UInt32) (u : S) (t : State) (H1 : Heap) (locs1 : List Loc), t.heap = H1 → s.vm.Alike t.vm → post r u → B u t → H.size ≤ H1.size → (∀ q : Nat, q < H.size → ¬ A1 q → H1[q]? = H[q]?) → va_S A0 H0 H1 locs1 → W p l e R s m args below meth c H1 locs1 (cells + mc) (slots + ms) Q (F0 m (pc + 3) ls (.float r :: rest))) : W p l e R s m args below meth c H locs cells slots Q (F0 m pc ls st0) := by
  intro T hT X
  rcases hr T hT X with ⟨v, st₀, t, T', L, h0, X', hL, e1, e2, ⟨⟨r, u, hv, hp, hb⟩, hF⟩, st⟩ | ⟨q, st₀, t, T', L, E, ce, h0, X', hL, e1, e2, ⟨u, hp, hb, hF⟩, hce, hcv, hcl, st⟩
  · cases hv
    obtain ⟨k1, k2, k3⟩ := vx_keep h0 e1 hS hA hf hL hF
    obtain ⟨t2, a1, b1⟩ := kk r u t T'.heap (locs ++ L) e1.symm (by rw [← e2]; exact X'.warmed.alike) hp hb k1 k2 k3 T' rfl X'
    exact ⟨t2, st t2 a1, b1⟩
  · obtain ⟨k1, k2, k3⟩ := vx_keep h0 e1 hS hAX hf hL hF
    obtain ⟨t2, a1, b1⟩ := kx E ce q u t T'.heap (locs ++ L) e1.symm (by rw [← e2]; exact X'.warmed.alike) hp hb k1 k2 k3 (by rw [e1]; exact hce) hcv hcl T' rfl X'
    exact ⟨t2, st.trans a1, b1⟩
theorem vx_calld {S SX : Type} {post : UInt64 → S → Prop} {px : SX → Prop} {B : S → State → Prop} {BX : String → SX → State → Prop} {AX : Nat → Prop} (hr : vx_Run p l e R s m args below meth c H locs cells slots mc ms (F0 m pc ls st0) rest (va_Qd post B A1 a) (vx_X px BX AX) free) (hS : va_S A0 H0 H locs) (hA : ∀ q, q < H.size → A1 q → A0 q) (hf : ∀ q, free q → A0 q) (hAX : ∀ q, q < H.size → AX q → A0 q)
    (kx : ∀ (E : String) (ce : Cell) (q9 : Addr) (u : SX) (t : State) (H1 : Heap) (locs1 : List Loc), t.heap = H1 → s.vm.Alike t.vm → px u → BX E u t → H.size ≤ H1.size → (∀ q : Nat, q < H.size → ¬ AX q → H1[q]? = H[q]?) → va_S A0 H0 H1 locs1 → H1[q9]? = some ce → ce.vm = .none → s.vm.findClass E = some ce.cls → vx_W p l e R s m args below meth c H1 locs1 (cells + mc) (slots + ms) Q (F0 m pc ls rest) q9)
    (kk : ∀ (r : UInt64) (u : S) (t : State) (H1 : Heap) (locs1 : List Loc), t.heap = H1 → s.vm.Alike t.vm → post r u → B u t → H.size ≤ H1.size → (∀ q : Nat, q < H.size → ¬ A1 q → H1[q]? = H[q]?) → va_S A0 H0 H1 locs1 → W p l e R s m args below meth c H1 locs1 (cells + mc) (slots + ms) Q (F0 m (pc + 3) ls (.double r :: rest))) : W p l e R s m args below meth c H locs cells slots Q (F0 m pc ls st0) := by
  intro T hT X
  rcases hr T hT X with ⟨v, st₀, t, T', L, h0, X', hL, e1, e2, ⟨⟨r, u, hv, hp, hb⟩, hF⟩, st⟩ | ⟨q, st₀, t, T', L, E, ce, h0, X', hL, e1, e2, ⟨u, hp, hb, hF⟩, hce, hcv, hcl, st⟩
  · cases hv
    obtain ⟨k1, k2, k3⟩ := vx_keep h0 e1 hS hA hf hL hF
    obtain ⟨t2, a1, b1⟩ := kk r u t T'.heap (locs ++ L) e1.symm (by rw [← e2]; exact X'.warmed.alike) hp hb k1 k2 k3 T' rfl X'
    exact ⟨t2, st t2 a1, b1⟩
  · obtain ⟨k1, k2, k3⟩ := vx_keep h0 e1 hS hAX hf hL hF
    obtain ⟨t2, a1, b1⟩ := kx E ce q u t T'.heap (locs ++ L) e1.symm (by rw [← e2]; exact X'.warmed.alike) hp hb k1 k2 k3 (by rw [e1]; exact hce) hcv hcl T' rfl X'
    exact ⟨t2, st.trans a1, b1⟩
theorem vx_callv {S SX : Type} {post : S → Prop} {px : SX → Prop} {B : S → State → Prop} {BX : String → SX → State → Prop} {AX : Nat → Prop} (hr : vx_Run p l e R s m args below meth c H locs cells slots mc ms (F0 m pc ls st0) rest (va_Qv post B A1 a) (vx_X px BX AX) free) (hS : va_S A0 H0 H locs) (hA : ∀ q, q < H.size → A1 q → A0 q) (hf : ∀ q, free q → A0 q) (hAX : ∀ q, q < H.size → AX q → A0 q)
    (kx : ∀ (E : String) (ce : Cell) (q9 : Addr) (u : SX) (t : State) (H1 : Heap) (locs1 : List Loc), t.heap = H1 → s.vm.Alike t.vm → px u → BX E u t → H.size ≤ H1.size → (∀ q : Nat, q < H.size → ¬ AX q → H1[q]? = H[q]?) → va_S A0 H0 H1 locs1 → H1[q9]? = some ce → ce.vm = .none → s.vm.findClass E = some ce.cls → vx_W p l e R s m args below meth c H1 locs1 (cells + mc) (slots + ms) Q (F0 m pc ls rest) q9)
    (kk : ∀ (u : S) (t : State) (H1 : Heap) (locs1 : List Loc), t.heap = H1 → s.vm.Alike t.vm → post u → B u t → H.size ≤ H1.size → (∀ q : Nat, q < H.size → ¬ A1 q → H1[q]? = H[q]?) → va_S A0 H0 H1 locs1 → W p l e R s m args below meth c H1 locs1 (cells + mc) (slots + ms) Q (F0 m (pc + 3) ls (rest))) : W p l e R s m args below meth c H locs cells slots Q (F0 m pc ls st0) := by
  intro T hT X
  rcases hr T hT X with ⟨v, st₀, t, T', L, h0, X', hL, e1, e2, ⟨⟨u, hv, hp, hb⟩, hF⟩, st⟩ | ⟨q, st₀, t, T', L, E, ce, h0, X', hL, e1, e2, ⟨u, hp, hb, hF⟩, hce, hcv, hcl, st⟩
  · cases hv
    obtain ⟨k1, k2, k3⟩ := vx_keep h0 e1 hS hA hf hL hF
    obtain ⟨t2, a1, b1⟩ := kk u t T'.heap (locs ++ L) e1.symm (by rw [← e2]; exact X'.warmed.alike) hp hb k1 k2 k3 T' rfl X'
    exact ⟨t2, st t2 a1, b1⟩
  · obtain ⟨k1, k2, k3⟩ := vx_keep h0 e1 hS hAX hf hL hF
    obtain ⟨t2, a1, b1⟩ := kx E ce q u t T'.heap (locs ++ L) e1.symm (by rw [← e2]; exact X'.warmed.alike) hp hb k1 k2 k3 (by rw [e1]; exact hce) hcv hcl T' rfl X'
    exact ⟨t2, st.trans a1, b1⟩
/-- caught by the row x of this method's table; the rows ahead don't take it -/
theorem vx_catch {own name : String} {E : String} {ce : Cell} {q : Addr} (hown : s.vm.findClass own = some m.cls) (pre : List ExceptionTableEntry) (x : ExceptionTableEntry) (suf : List ExceptionTableEntry) (hsplit : c.exceptionTable.toList = pre ++ x :: suf)
    (hpass : ∀ z ∈ pre, covers z pc = false ∨ (z.catchType ≠ 0 ∧ ∃ nm : String, (Cond.classLink own z.catchType nm).before args s = true ∧ va_Nc E nm s)) (hx : covers x pc = true) (h0 : x.catchType ≠ 0)
    (hlink : (Cond.classLink own x.catchType name).before args s = true) (hcast : (Cond.castable E name).before args s = true) (hcell : H[q]? = some ce) (hv : ce.vm = .none) (hcl : s.vm.findClass E = some ce.cls)
    (kk : W p l e R s m args below meth c H locs cells slots Q (F0 m x.handlerPc ls [.ref q])) : vx_W p l e R s m args below meth c H locs cells slots Q (F0 m pc ls rest) q := by
  intro T hT X
  have hpl : e.platform.magicAccessors = ({} : Platform).magicAccessors := by rw [X.admits.platform]
  obtain ⟨c3, c4, hc3, hc4, hasg⟩ := Cond.castable_spec hcast
  cases Option.some.inj (hc3.symm.trans hcl)
  obtain ⟨c5, hc5, hcl5⟩ := Cond.classLink_spec hown hlink e.platform hpl
  cases Option.some.inj (hc4.symm.trans hc5)
  obtain ⟨vm', X', st⟩ := X.thenCaughtThrough q (g := F0 m pc ls rest) rfl (Steps.refl _) (by rw [hT]; exact hcell) (by rw [hv]; rfl) (by obtain ⟨k9, h9, -⟩ := Vm.findClass_spec hcl; exact ⟨k9, h9⟩) pre x suf hsplit
    (fun z hz => by
      rcases hpass z hz with h | ⟨hz0, nm, hl1, hn1⟩
      · exact Or.inl h
      · obtain ⟨c6, hc6, hcl6⟩ := Cond.classLink_spec hown hl1 e.platform hpl
        obtain ⟨a8, b8, h1, h2, h3⟩ := hn1
        cases Option.some.inj (h1.symm.trans hcl)
        cases Option.some.inj (h2.symm.trans hc6)
        exact Or.inr ⟨hz0, _, hcl6, h3⟩) hx (Or.inr ⟨h0, c4, hcl5, hasg⟩)
  obtain ⟨t, a1, b1⟩ := kk (T.setVm vm') hT X'
  exact ⟨t, st.trans a1, b1⟩
end Rows
section Ends
variable {p : Program} {l : Launch} {e : Env} {R : Room} {s : State} {m : MethodId} {args : Array Value} {below : List Frame} {meth : Method} {c : Code} {H : Heap} {locs : List Loc} {cells slots : Nat} {Q : State → Prop}
variable {mc ms : Nat} {free : Addr → Prop} {A0 A1 : Nat → Prop} {H0 : Heap} {a : Array Value} {ls : Array Slot} {st0 rest : List Value}
variable {Qc : Array Value → State → Outcome → State → Prop} {XC : String → State → State → Prop}
/-- what a body that may throw owes at its end -/
def vx_MQ (below : List Frame) (Qc : Array Value → State → Outcome → State → Prop) (XC : String → State → State → Prop) (a : Array Value) (s : State) (mc ms : Nat) (free : Addr → Prop) : State → Prop := fun t =>
  ∃ o, t.status = .running ∧ Ended t below o ∧ vx_Q Qc XC mc ms free a s o t
theorem vx_ret {g : JFrame} {mc ms : Nat} (k : W p l e R s m args below meth c H locs cells slots (MQ below Qc args s mc ms free) g) : W p l e R s m args below meth c H locs cells slots (vx_MQ below Qc XC args s mc ms free) g := by
  intro T hT X
  obtain ⟨t, a1, o, b1, b2, b3, b4⟩ := k T hT X
  exact ⟨t, a1, o, b1, b2, Or.inl ⟨b3, b4⟩⟩
/-- not caught here: it goes on to the caller -/
theorem vx_widen {g : JFrame} {q : Addr} {k n : Nat} (h1 : cells ≤ k) (h2 : slots ≤ n) (kk : vx_W p l e R s m args below meth c H locs k n Q g q) : vx_W p l e R s m args below meth c H locs cells slots Q g q := fun T hT X => kk T hT (stand_widen X h1 h2)
theorem vx_out {pc : Nat} {E : String} {ce : Cell} {q : Addr} {mc ms : Nat} (hout : ∀ x ∈ c.exceptionTable.toList, covers x pc = false) (hlocks : meth.locks = false) (hcell : H[q]? = some ce) (hv : ce.vm = .none) (hcl : s.vm.findClass E = some ce.cls)
    (hx : ∀ t : State, t.heap = H → s.vm.Alike t.vm → XC E s t) (hf : ∀ z ∈ locs, free z.base) (hc : cells ≤ mc) (hs : slots ≤ ms) :
    vx_W p l e R s m args below meth c H locs cells slots (vx_MQ below Qc XC args s mc ms free) (F0 m pc ls rest) q := by
  intro T hT X
  obtain ⟨st1, hrun, hend, hW, hsm⟩ := X.leaveThrown q (g := F0 m pc ls rest) rfl rfl rfl hout hlocks
  have hcell9 : (T.setFrames (.throwing q :: below)).heap[q]? = some ce := by
    show T.heap[q]? = some ce
    rw [hT]; exact hcell
  exact ⟨_, st1, .threw q, hrun, hend, Or.inr ⟨q, rfl, E, ce, locs, hx _ hT hW.alike, hcell9, hv, hcl, hW, hsm.mono hc hs, hf⟩⟩
theorem vx_frame {U : State} {k n : Nat} (h : s.sameButNew ({ U with vm := s.vm } : State) locs k n) : s.heap.size ≤ U.heap.size ∧ ∀ q : Nat, q < s.heap.size → (∀ z ∈ locs, z.base ≠ q) → U.heap[q]? = s.heap[q]? := by
  obtain ⟨-, h2, -, -, -, h6⟩ := h
  refine ⟨h2, fun q hq hz => ?_⟩
  obtain ⟨c9, e1, e2, e3, e4⟩ := h6 q _ (Array.getElem?_eq_getElem hq)
  have hs : c9.slots = (s.heap[q]).slots := Array.ext_getElem? fun i => e4 i fun hm => hz _ hm rfl
  have h9 : c9 = s.heap[q] := by
    rw [hs] at e2
    exact e2
  have e5 : U.heap[q]? = some c9 := e1
  rw [e5, h9, Array.getElem?_eq_getElem hq]
/-- the words of a throw but the four that speak of the heap -/
def vx_no (w : Cond) : Bool := decide (w ≠ .isRef (.static Bundle.tN "UNASSIGNED_STACK" Bundle.steD)) && decide (w ≠ .isRef (.static Bundle.tN "SUPPRESSED_SENTINEL" Bundle.listD)) && decide (w ≠ .laysStatic Bundle.tN "UNASSIGNED_STACK" Bundle.steD) && decide (w ≠ .laysStatic Bundle.tN "SUPPRESSED_SENTINEL" Bundle.listD)
def vx_at0 (own : String) (ic : Nat) (X : String) (names : List String) : List Cond := (Bundle.ownAtoms0 own ic X names).filter vx_no
def vx_atS (own : String) (ic : Nat) (X : String) (names : List String) : List Cond := (Bundle.ownAtoms own ic X names).filter vx_no
/-- a word that the tables alone decide, or a good one -/
def vx_ot (w : Cond) : Bool := w.onTables || goodWord w
theorem vx_ot_at {args a' : Array Value} {s U : State} {w : Cond} (hW : s.WarmedH U.vm) (hvm : s.vm = U.vm) (hg : vx_ot w = true) (h : w.before args s = true) : w.before a' U = true := by
  simp only [vx_ot, Bool.or_eq_true] at hg
  rcases hg with hg | hg
  · exact va_tabs hg hvm h
  · exact word_at hW (good_of_word hg) h
/-- a list's words: the good ones out of the method's own list, the others by premises of their own -/
theorem vx_hat {args : Array Value} {s : State} {L B : List Cond} (h1 : ∀ w ∈ L.filter goodWord, w.before args s = true) (h2 : ∀ w ∈ L.filter (fun w => !goodWord w), w ∈ B) (h3 : ∀ w ∈ B, w.before args s = true) : ∀ w ∈ L, w.before args s = true := by
  intro w hw
  by_cases g : goodWord w = true
  · exact h1 w (List.mem_filter.mpr ⟨hw, g⟩)
  · refine h3 w (h2 w (List.mem_filter.mpr ⟨hw, ?_⟩))
    show (!goodWord w) = true
    cases hgw : goodWord w
    · rfl
    · exact absurd hgw g
theorem vx_c {args : Array Value} {s : State} {w : Cond} {B : List Cond} (h : w.before args s = true) (t : ∀ w ∈ B, w.before args s = true) : ∀ w' ∈ w :: B, w'.before args s = true := fun w' h' => (List.mem_cons.mp h').elim (fun e => by rw [e]; exact h) (t w')
theorem vx_n {args : Array Value} {s : State} : ∀ w ∈ ([] : List Cond), w.before args s = true := fun _ h => nomatch h
theorem vx_own {args : Array Value} {s : State} {L : List Cond} (h1 : ∀ w ∈ L.filter vx_no, w.before args s = true)
    (hU : (Cond.isRef (.static Bundle.tN "UNASSIGNED_STACK" Bundle.steD)).before args s = true) (hN : (Cond.isRef (.static Bundle.tN "SUPPRESSED_SENTINEL" Bundle.listD)).before args s = true)
    (lU : (Cond.laysStatic Bundle.tN "UNASSIGNED_STACK" Bundle.steD).before args s = true) (lN : (Cond.laysStatic Bundle.tN "SUPPRESSED_SENTINEL" Bundle.listD).before args s = true) : ∀ w ∈ L, w.before args s = true := by
  intro w hw
  by_cases e1 : w = .isRef (.static Bundle.tN "UNASSIGNED_STACK" Bundle.steD)
  · rw [e1]; exact hU
  · by_cases e2 : w = .isRef (.static Bundle.tN "SUPPRESSED_SENTINEL" Bundle.listD)
    · rw [e2]; exact hN
    · by_cases e3 : w = .laysStatic Bundle.tN "UNASSIGNED_STACK" Bundle.steD
      · rw [e3]; exact lU
      · by_cases e4 : w = .laysStatic Bundle.tN "SUPPRESSED_SENTINEL" Bundle.listD
        · rw [e4]; exact lN
        · exact h1 w (List.mem_filter.mpr ⟨hw, by unfold vx_no; rw [decide_eq_true e1, decide_eq_true e2, decide_eq_true e3, decide_eq_true e4]; rfl⟩)
/-- where a static field lies, its class's statics cell in H -/
def vx_L (C n d : String) (A : Nat → Prop) (U : State) (H : Heap) : Prop := ∃ (c : ClassId) (k : Class) (i : Nat) (f : Field) (a : Nat) (cell : Cell), U.vm.findClass C = some c ∧ U.fieldFound? C n d = some (c, k, i, f) ∧ f.isStatic = true ∧ k.statics = some a ∧ H[a]? = some cell ∧ cell.vm.isStatics = true ∧ cell.cls = c ∧ f.slot < cell.slots.size ∧ k.staticTypes[f.slot]? = some f.type ∧ ¬ A a
theorem vx_L.moved {C n d : String} {A : Nat → Prop} {u U : State} {H : Heap} (hvm : u.vm.Alike U.vm) (h : vx_L C n d A u H) : vx_L C n d A U H := by
  obtain ⟨c, k, i, f, a, cell, h1, h2, h3, h4, h5, h6, h7, h8, h9, h10⟩ := h
  obtain ⟨k', hi', he⟩ := State.fieldFound?_setVm hvm h2
  exact ⟨c, k', i, f, a, cell, by rw [hvm.findClass]; exact h1, hi', h3, by rw [he]; exact h4, h5, h6, h7, h8, by rw [he]; exact h9, h10⟩
theorem vx_L.kept {C n d : String} {A : Nat → Prop} {U : State} {H H1 : Heap} (h : vx_L C n d A U H) (hq : ∀ a : Nat, a < H.size → ¬ A a → H1[a]? = H[a]?) : vx_L C n d A U H1 := by
  obtain ⟨c, k, i, f, a, cell, h1, h2, h3, h4, h5, h6, h7, h8, h9, h10⟩ := h
  exact ⟨c, k, i, f, a, cell, h1, h2, h3, h4, by rw [hq a (Array.getElem?_eq_some_iff.mp h5).1 h10]; exact h5, h6, h7, h8, h9, h10⟩
theorem vx_L.narrow {C n d : String} {A B : Nat → Prop} {U : State} {H : Heap} (h : vx_L C n d A U H) (hAB : ∀ q, B q → A q) : vx_L C n d B U H := by
  obtain ⟨c, k, i, f, a, cell, h1, h2, h3, h4, h5, h6, h7, h8, h9, h10⟩ := h
  exact ⟨c, k, i, f, a, cell, h1, h2, h3, h4, h5, h6, h7, h8, h9, fun z => h10 (hAB _ z)⟩
theorem vx_L.word {C n d : String} {A : Nat → Prop} {s : State} {args : Array Value} (h : vx_L C n d A s s.heap) : (Cond.laysStatic C n d).before args s = true := by
  obtain ⟨c, k, i, f, a, cell, h1, h2, h3, h4, h5, h6, h7, h8, h9, -⟩ := h
  show (Cond.laysStatic C n d).holds args s none s [] = true
  exact Cond.laysStatic_of h1 h2 h3 h4 h5 h6 h7 h8 h9
/-- .. and what it holds: null or some reference -/
def vx_Zq (C n d : String) (A : Nat → Prop) (U : State) (H : Heap) : Prop := va_Zq C n d A U H ∧ vx_L C n d A U H
theorem vx_Zq.moved {C n d : String} {A : Nat → Prop} {u U : State} {H : Heap} (hvm : u.vm.Alike U.vm) (h : vx_Zq C n d A u H) : vx_Zq C n d A U H := ⟨va_Zq.moved hvm h.1, vx_L.moved hvm h.2⟩
theorem vx_Zq.kept {C n d : String} {A : Nat → Prop} {U : State} {H H1 : Heap} (h : vx_Zq C n d A U H) (hq : ∀ a : Nat, a < H.size → ¬ A a → H1[a]? = H[a]?) : vx_Zq C n d A U H1 := ⟨va_Zq.kept h.1 hq, vx_L.kept h.2 hq⟩
theorem vx_Zq.narrow {C n d : String} {A B : Nat → Prop} {U : State} {H : Heap} (h : vx_Zq C n d A U H) (hAB : ∀ q, B q → A q) : vx_Zq C n d B U H := ⟨va_Zq.narrow h.1 hAB, vx_L.narrow h.2 hAB⟩
theorem vx_Zqof {args : Array Value} {s : State} {C n d : String} {A : Nat → Prop} (hl : (Cond.laysStatic C n d).before args s = true) (hini : (Cond.initialized C).before args s = true) (h : (Cond.isRef (.static C n d)).before args s = true) (hA : ∀ a : Nat, a < s.heap.size → ¬ A a) : vx_Zq C n d A s s.heap := by
  refine ⟨va_Zqof hl hini h hA, ?_⟩
  obtain ⟨c, k, i, f, a, cell, h1, h2, h3, h4, h5, h6, h7, h8, h9⟩ := Cond.laysStatic_spec hl
  exact ⟨c, k, i, f, a, cell, h1, h2, h3, h4, h5, h6, h7, h8, h9, hA a (Array.getElem?_eq_some_iff.mp h5).1⟩
theorem vx_isRef {C n d : String} {v : Value} {A : Nat → Prop} {s : State} {args : Array Value} (h : va_Z C n d v A s s.heap) (hv : v.isRef = true) : (Cond.isRef (.static C n d)).before args s = true := by
  obtain ⟨cf, kf, fi, f, a, cell, h1, h2, h3, h4, h5, h6, h7, -⟩ := h
  have he : (Term.static C n d).eval args s none [] s = some v := by
    simp [Term.eval, State.fieldNamed?, h1, h2, h4, h5, h6, h7]
  simp only [Cond.before, Cond.holds, Cond.value, he]
  cases v <;> simp_all [Value.isRef]
theorem vx_isRefq {C n d : String} {A : Nat → Prop} {s : State} {args : Array Value} (h : va_Zq C n d A s s.heap) : (Cond.isRef (.static C n d)).before args s = true := by
  rcases h with h | ⟨t, h⟩
  · exact vx_isRef h rfl
  · exact vx_isRef h rfl
/-- the same frame, seen from here: as if the method were called anew in this heap -/
theorem vx_rebase {T : State} (X : Stand p l e R s m args below meth c T locs cells slots) {R' : Room} (hf : R'.frames ≤ R.frames) (hl : R'.locals ≤ R.locals) (hc : cells + R'.cells ≤ R.cells) (hs : slots + R'.slots ≤ R.slots) :
    Stand p l e R' ((T.setVm s.vm).setFrames (.invoking m args :: below)) m args below meth c T [] 0 0 := by
  have htop : (T.setVm s.vm).topJava?.isSome := X.here.top
  have hF : ((T.setVm s.vm).setFrames (.invoking m args :: below)).frames = .invoking m args :: below := State.frames_setFrames _ (State.cur_lt_of_top htop)
  obtain ⟨g₀, hg0⟩ := Option.isSome_iff_exists.mp htop
  obtain ⟨r, hr⟩ := State.topJava?_eq_some.mp hg0
  have hl9 : e.platform.stackLimits (T.setVm s.vm).me = e.platform.stackLimits s.me := X.limits
  have hb9 : (T.setVm s.vm).me.stackBytes = s.me.stackBytes := X.bytes
  refine ⟨X.admits, X.cas, X.clock, hF, ?_, X.hears, X.method, X.code, X.here, X.tail, X.warmed, ?_, ?_, ?_⟩
  · have h := X.room
    have hU : ((T.setVm s.vm).setFrames (.invoking m args :: below)).localsInUse = s.localsInUse := by
      rw [State.localsInUse_invoking hF (meth := meth) (c := c) X.method X.code, State.localsInUse_invoking X.frames X.method X.code]
    simp only [State.hasRoom, Bool.and_eq_true, decide_eq_true_eq] at h ⊢
    obtain ⟨⟨⟨⟨h1, h2, h3, h4, h5, h6⟩, h7⟩, h8⟩, h9⟩ := h
    rw [X.frames, List.length_cons] at h2 h3
    have q1 := X.heapSize
    have q2 := X.used
    simp only [hF, hU, List.length_cons, State.stackLimits_setFrames, State.stackBytes_setFrames, hl9, hb9]
    refine ⟨⟨⟨⟨by omega, by omega, by omega, by omega, by omega, h6⟩, ?_⟩, ?_⟩, X.book⟩
    · show T.heap.size + R'.cells ≤ e.platform.maxCells
      omega
    · show T.slotsUsed + R'.slots ≤ e.platform.maxSlots
      omega
  · rw [State.stackLimits_setFrames]; rfl
  · rw [State.stackBytes_setFrames]; rfl
  · refine ⟨?_, Nat.le_refl _, Nat.le_refl _, ?_, ?_, fun a c9 h9 => ⟨c9, h9, rfl, rfl, fun _ _ => rfl⟩⟩
    · obtain ⟨t, ht, -⟩ := State.frames_cons hr
      show T.setVm s.vm = { ((T.setVm s.vm).setFrames (.invoking m args :: below)).setFrames (T.setVm s.vm).frames with heap := T.heap, slotsUsed := T.slotsUsed }
      rw [State.setFrames_setFrames, State.setFrames_self ht]
      rfl
    · show T.slotsUsed = T.slotsUsed + ((T.heap.toList.drop T.heap.size).map (·.slots.size)).sum
      rw [List.drop_eq_nil_of_le (Nat.le_of_eq Array.length_toList)]
      rfl
    · show ((T.heap.toList.drop T.heap.size).map (·.slots.size)).sum ≤ 0
      rw [List.drop_eq_nil_of_le (Nat.le_of_eq Array.length_toList)]
      exact Nat.le_refl _
/-- 'throw new E()': new; dup; invokespecial; athrow -/
theorem vx_throw0 {cc : ByteArray} {pc : Nat} (hexec : p.tables.exec = Jvm.exec) (hb : c.code = cc) (hl : l.stackTraces = false) {own cls : String} {names : List String} {ik ic mc ms : Nat} {A : Nat → Prop}
    (hown : s.vm.findClass own = some m.cls) (hcls : Bundle.fit cls = true) (hnames : ∀ n ∈ names, Bundle.fit n = true)
    (hk : (Cond.classLink own ik cls).before args s = true) (hini : (Cond.initialized cls).before args s = true) (hat : ∀ w ∈ vx_at0 own ic cls names, w.before args s = true)
    (hgood : ∀ w ∈ Cond.classLink own ik cls :: Cond.initialized cls :: vx_at0 own ic cls names, vx_ot w = true)
    (hU : vx_Zq Bundle.tN "UNASSIGNED_STACK" Bundle.steD A s s.heap) (hN : vx_Zq Bundle.tN "SUPPRESSED_SENTINEL" Bundle.listD A s s.heap) (hS : va_S A s.heap H locs) (hsize : ls.size = c.maxLocals)
    (d0 : decode cc pc = .ok (.new ik, 3)) (d3 : decode cc (pc + 3) = .ok (.dup, 1)) (d4 : decode cc (pc + 4) = .ok (.invokespecial ic, 3)) (d7 : decode cc (pc + 7) = .ok (.athrow, 1))
    (hout : ∀ x ∈ c.exceptionTable.toList, covers x (pc + 7) = false)
    (hRframes : names.length + 3 < R.frames) (hRlocals : (rest.map fun v => v.category).sum + (13 * (names.length + 1) + 42) ≤ R.locals) (hRcells : cells + 1 ≤ R.cells) (hRslots : slots + 6 ≤ R.slots) (hlocks : meth.locks = false)
    (hx : ∀ t : State, s.vm.Alike t.vm → H.size ≤ t.heap.size → (∀ q : Nat, q < H.size → t.heap[q]? = H[q]?) → XC cls s t)
    (hf : ∀ z ∈ locs, free z.base) (hc : cells + 1 ≤ mc) (hs : slots + 6 ≤ ms) :
    W p l e R s m args below meth c H locs cells slots (vx_MQ below Qc XC args s mc ms free) (F0 m pc ls rest) := by
  intro T hT X
  have htr : e.platform.stackTraces = false := (show e.platform.stackTraces = l.stackTraces by rw [X.admits.platform]).trans hl
  have Y := vx_rebase X (R' := { frames := R.frames, locals := R.locals, cells := 1, slots := 6 }) (Nat.le_refl _) (Nat.le_refl _) hRcells hRslots
  obtain ⟨s', hA⟩ : ∃ z, z = (T.setVm s.vm).setFrames (.invoking m args :: below) := ⟨_, rfl⟩
  rw [← hA] at Y
  have hvm : s'.vm = s.vm := by rw [hA]; rfl
  have hhp : s'.heap = H := by rw [hA]; exact hT
  have hW0 : s.WarmedH s'.vm := by rw [hvm]; exact State.WarmedH.refl s
  have hat' : ∀ w ∈ vx_at0 own ic cls names, w.before args s' = true := fun w hw => vx_ot_at hW0 hvm.symm (hgood w (List.mem_cons_of_mem _ (List.mem_cons_of_mem _ hw))) (hat w hw)
  have hk' : (Cond.classLink own ik cls).before args s' = true := vx_ot_at hW0 hvm.symm (hgood _ List.mem_cons_self) hk
  have hini' : (Cond.initialized cls).before args s' = true := vx_ot_at hW0 hvm.symm (hgood _ (List.mem_cons_of_mem _ List.mem_cons_self)) hini
  have hU' : vx_Zq Bundle.tN "UNASSIGNED_STACK" Bundle.steD A s' s'.heap := by rw [hhp]; exact vx_Zq.moved hW0.alike (hU.kept hS.2.1)
  have hN' : vx_Zq Bundle.tN "SUPPRESSED_SENTINEL" Bundle.listD A s' s'.heap := by rw [hhp]; exact vx_Zq.moved hW0.alike (hN.kept hS.2.1)
  have h : ∀ w ∈ Bundle.ownAtoms0 own ic cls names, w.before args s' = true := vx_own hat' (vx_isRefq hU'.1) (vx_isRefq hN'.1) hU'.2.word hN'.2.word
  have hown' : s'.vm.findClass own = some m.cls := by rw [hvm]; exact hown
  have hins : (Cond.instantiable cls 6).before args s' = true := h _ (by simp [Bundle.ownAtoms0])
  obtain ⟨vm₁, cX, kX, hfX, hkX, -, -, X₁, st1⟩ := Y.newCold hexec (own := own) (C := cls) (index := ik) (n := 6) hown' hk' hins hini'
    (g := F0 m pc ls rest) rfl (by rw [hb]; exact d0) (Nat.le_refl _) (Nat.le_refl _)
  generalize hT1 : (T.setVm vm₁).pushCell { cls := cX, slots := kX.instanceTypes.map defaultValue, vm := .none } = T1 at X₁ st1
  have hcat : (Value.ref T.heap.size).category = 1 := rfl
  have hcellA : T1.heap[T.heap.size]? = some (freshCell cX kX) := by rw [← hT1]; exact State.heap_pushCell_size _ _
  have d3' : decode c.code (pc + 3) = .ok (.dup, 1) := by rw [hb]; exact d3
  obtain ⟨U, hsteps, hrun, hend, hW, hsame, ce, hce, hO⟩ := X₁.ctorThrow0 hexec htr (own := own) (cls := cls) (names := names) (ic := ic) hown' hcls hnames h (fun x hx => nomatch hx) hfX hkX hcellA (by rw [hhp, hT]; exact Nat.le_refl _)
    (g := { method := m, pc := pc + 4, locals := ls, stack := .ref T.heap.size :: .ref T.heap.size :: rest, locked := none }) rfl hsize rfl rfl (rest := rest) rfl
    (by rw [hb]; exact d4) (by rw [hb]; exact d7) hout hRframes (by simp only [List.map_cons, List.sum_cons, hcat]; omega) hlocks
  obtain ⟨f1, f2⟩ := vx_frame hsame
  rw [hhp] at f1 f2
  have hWs : s.WarmedH U.vm := State.WarmedH.trans hW0 hW
  have hcl : s.vm.findClass cls = some ce.cls := by
    have h9 := hO.cls
    rw [hvm] at h9
    exact h9
  have hall : s.sameButNew ({ U with vm := s.vm } : State) locs mc ms := by
    subst hA
    obtain ⟨e1, e2⟩ := hsame
    rw [State.setFrames_setFrames] at e1
    have h2 : (T.setVm s.vm).sameButNew ({ U with vm := s.vm } : State) [] (0 + 1) (0 + 6) := ⟨e1, e2⟩
    have h3 := X.same.trans h2
    rw [List.append_nil] at h3
    exact h3.mono hc hs
  refine ⟨U, ?_, .threw T.heap.size, hrun, hend, Or.inr ⟨T.heap.size, rfl, cls, ce, locs, hx U hWs.alike f1 (fun q hq => f2 q hq (fun z hz => nomatch hz)), hce, hO.vm, hcl, hWs, hall, hf⟩⟩
  refine st1 _ ?_
  show Steps p.tables e below (T1.setTop { method := m, pc := pc + 3, locals := ls, stack := .ref T.heap.size :: rest, locked := none }) _
  jvm_step X₁.here [X₁.here.top, hexec, d3', Value.category]
  exact hsteps
/-- 'throw new E("text")': new; dup; ldc; invokespecial; athrow -/
theorem vx_throwS {cc : ByteArray} {pc : Nat} (hexec : p.tables.exec = Jvm.exec) (hb : c.code = cc) (hl : l.stackTraces = false) {own cls text : String} {names : List String} {ik is ic mc ms sa : Nat} {A : Nat → Prop}
    (hown : s.vm.findClass own = some m.cls) (hcls : Bundle.fit cls = true) (hnames : ∀ n ∈ names, Bundle.fit n = true)
    (hk : (Cond.classLink own ik cls).before args s = true) (hini : (Cond.initialized cls).before args s = true) (hstr : vk_R own is text sa s) (hat : ∀ w ∈ vx_atS own ic cls names, w.before args s = true)
    (hgood : ∀ w ∈ Cond.classLink own ik cls :: Cond.initialized cls :: vx_atS own ic cls names, vx_ot w = true)
    (hU : vx_Zq Bundle.tN "UNASSIGNED_STACK" Bundle.steD A s s.heap) (hN : vx_Zq Bundle.tN "SUPPRESSED_SENTINEL" Bundle.listD A s s.heap) (hS : va_S A s.heap H locs) (hsize : ls.size = c.maxLocals)
    (d0 : decode cc pc = .ok (.new ik, 3)) (d3 : decode cc (pc + 3) = .ok (.dup, 1)) (d4 : decode cc (pc + 4) = .ok (.ldc is, 2)) (d6 : decode cc (pc + 6) = .ok (.invokespecial ic, 3)) (d9 : decode cc (pc + 9) = .ok (.athrow, 1))
    (hout : ∀ x ∈ c.exceptionTable.toList, covers x (pc + 9) = false)
    (hRframes : names.length + 3 < R.frames) (hRlocals : (rest.map fun v => v.category).sum + (13 * (names.length + 1) + 43) ≤ R.locals) (hRcells : cells + 1 ≤ R.cells) (hRslots : slots + 6 ≤ R.slots) (hlocks : meth.locks = false)
    (hx : ∀ t : State, s.vm.Alike t.vm → H.size ≤ t.heap.size → (∀ q : Nat, q < H.size → t.heap[q]? = H[q]?) → XC cls s t)
    (hf : ∀ z ∈ locs, free z.base) (hc : cells + 1 ≤ mc) (hs : slots + 6 ≤ ms) :
    W p l e R s m args below meth c H locs cells slots (vx_MQ below Qc XC args s mc ms free) (F0 m pc ls rest) := by
  intro T hT X
  have htr : e.platform.stackTraces = false := (show e.platform.stackTraces = l.stackTraces by rw [X.admits.platform]).trans hl
  have Y := vx_rebase X (R' := { frames := R.frames, locals := R.locals, cells := 1, slots := 6 }) (Nat.le_refl _) (Nat.le_refl _) hRcells hRslots
  obtain ⟨s', hA⟩ : ∃ z, z = (T.setVm s.vm).setFrames (.invoking m args :: below) := ⟨_, rfl⟩
  rw [← hA] at Y
  have hvm : s'.vm = s.vm := by rw [hA]; rfl
  have hhp : s'.heap = H := by rw [hA]; exact hT
  have hW0 : s.WarmedH s'.vm := by rw [hvm]; exact State.WarmedH.refl s
  have hat' : ∀ w ∈ vx_atS own ic cls names, w.before args s' = true := fun w hw => vx_ot_at hW0 hvm.symm (hgood w (List.mem_cons_of_mem _ (List.mem_cons_of_mem _ hw))) (hat w hw)
  have hk' : (Cond.classLink own ik cls).before args s' = true := vx_ot_at hW0 hvm.symm (hgood _ List.mem_cons_self) hk
  have hini' : (Cond.initialized cls).before args s' = true := vx_ot_at hW0 hvm.symm (hgood _ (List.mem_cons_of_mem _ List.mem_cons_self)) hini
  have hU' : vx_Zq Bundle.tN "UNASSIGNED_STACK" Bundle.steD A s' s'.heap := by rw [hhp]; exact vx_Zq.moved hW0.alike (hU.kept hS.2.1)
  have hN' : vx_Zq Bundle.tN "SUPPRESSED_SENTINEL" Bundle.listD A s' s'.heap := by rw [hhp]; exact vx_Zq.moved hW0.alike (hN.kept hS.2.1)
  have h : ∀ w ∈ Bundle.ownAtoms own ic cls names, w.before args s' = true := vx_own hat' (vx_isRefq hU'.1) (vx_isRefq hN'.1) hU'.2.word hN'.2.word
  have hown' : s'.vm.findClass own = some m.cls := by rw [hvm]; exact hown
  have hins : (Cond.instantiable cls 6).before args s' = true := h _ (by simp [Bundle.ownAtoms])
  obtain ⟨vm₁, cX, kX, hfX, hkX, -, -, X₁, st1⟩ := Y.newCold hexec (own := own) (C := cls) (index := ik) (n := 6) hown' hk' hins hini'
    (g := F0 m pc ls rest) rfl (by rw [hb]; exact d0) (Nat.le_refl _) (Nat.le_refl _)
  generalize hT1 : (T.setVm vm₁).pushCell { cls := cX, slots := kX.instanceTypes.map defaultValue, vm := .none } = T1 at X₁ st1
  have hcat : (Value.ref T.heap.size).category = 1 := rfl
  have hcellA : T1.heap[T.heap.size]? = some (freshCell cX kX) := by rw [← hT1]; exact State.heap_pushCell_size _ _
  have d3' : decode c.code (pc + 3) = .ok (.dup, 1) := by rw [hb]; exact d3
  have d4' : decode c.code (pc + 4) = .ok (.ldc is, 2) := by rw [hb]; exact d4
  have hstr' : vk_R own is text sa s' := vk_R.warm hW0 hstr
  obtain ⟨U, hsteps, hrun, hend, hW, hsame, ce, hce, hO⟩ := X₁.ctorThrowS hexec htr (own := own) (cls := cls) (names := names) (ic := ic) hown' hcls hnames h (fun x hx => nomatch hx) hfX hkX hcellA (by rw [hhp, hT]; exact Nat.le_refl _) (msg := .ref sa) rfl
    (g := { method := m, pc := pc + 6, locals := ls, stack := .ref sa :: .ref T.heap.size :: .ref T.heap.size :: rest, locked := none }) rfl hsize rfl rfl (rest := rest) rfl
    (by rw [hb]; exact d6) (by rw [hb]; exact d9) hout hRframes (by simp only [List.map_cons, List.sum_cons, hcat]; omega) hlocks
  obtain ⟨f1, f2⟩ := vx_frame hsame
  rw [hhp] at f1 f2
  have hWs : s.WarmedH U.vm := State.WarmedH.trans hW0 hW
  have hcl : s.vm.findClass cls = some ce.cls := by
    have h9 := hO.cls
    rw [hvm] at h9
    exact h9
  have hall : s.sameButNew ({ U with vm := s.vm } : State) locs mc ms := by
    subst hA
    obtain ⟨e1, e2⟩ := hsame
    rw [State.setFrames_setFrames] at e1
    have h2 : (T.setVm s.vm).sameButNew ({ U with vm := s.vm } : State) [] (0 + 1) (0 + 6) := ⟨e1, e2⟩
    have h3 := X.same.trans h2
    rw [List.append_nil] at h3
    exact h3.mono hc hs
  refine ⟨U, ?_, .threw T.heap.size, hrun, hend, Or.inr ⟨T.heap.size, rfl, cls, ce, locs, hx U hWs.alike f1 (fun q hq => f2 q hq (fun z hz => nomatch hz)), hce, hO.vm, hcl, hWs, hall, hf⟩⟩
  refine st1 _ ?_
  show Steps p.tables e below (T1.setTop { method := m, pc := pc + 3, locals := ls, stack := .ref T.heap.size :: rest, locked := none }) _
  jvm_step X₁.here [X₁.here.top, hexec, d3', Value.category]
  exact X₁.ldcString hexec (own := own) (text := text) (index := is) (a := sa) hown' hstr'.1 hstr'.2
    (g := { method := m, pc := pc + 4, locals := ls, stack := .ref T.heap.size :: .ref T.heap.size :: rest, locked := none }) rfl d4' _ hsteps
/-- 'throw new E("text")', the text by a wide index -/
theorem vx_throwSW {cc : ByteArray} {pc : Nat} (hexec : p.tables.exec = Jvm.exec) (hb : c.code = cc) (hl : l.stackTraces = false) {own cls text : String} {names : List String} {ik is ic mc ms sa : Nat} {A : Nat → Prop}
    (hown : s.vm.findClass own = some m.cls) (hcls : Bundle.fit cls = true) (hnames : ∀ n ∈ names, Bundle.fit n = true)
    (hk : (Cond.classLink own ik cls).before args s = true) (hini : (Cond.initialized cls).before args s = true) (hstr : vk_R own is text sa s) (hat : ∀ w ∈ vx_atS own ic cls names, w.before args s = true)
    (hgood : ∀ w ∈ Cond.classLink own ik cls :: Cond.initialized cls :: vx_atS own ic cls names, vx_ot w = true)
    (hU : vx_Zq Bundle.tN "UNASSIGNED_STACK" Bundle.steD A s s.heap) (hN : vx_Zq Bundle.tN "SUPPRESSED_SENTINEL" Bundle.listD A s s.heap) (hS : va_S A s.heap H locs) (hsize : ls.size = c.maxLocals)
    (d0 : decode cc pc = .ok (.new ik, 3)) (d3 : decode cc (pc + 3) = .ok (.dup, 1)) (d4 : decode cc (pc + 4) = .ok (.ldc_w is, 3)) (d7 : decode cc (pc + 7) = .ok (.invokespecial ic, 3)) (d10 : decode cc (pc + 10) = .ok (.athrow, 1))
    (hout : ∀ x ∈ c.exceptionTable.toList, covers x (pc + 10) = false)
    (hRframes : names.length + 3 < R.frames) (hRlocals : (rest.map fun v => v.category).sum + (13 * (names.length + 1) + 43) ≤ R.locals) (hRcells : cells + 1 ≤ R.cells) (hRslots : slots + 6 ≤ R.slots) (hlocks : meth.locks = false)
    (hx : ∀ t : State, s.vm.Alike t.vm → H.size ≤ t.heap.size → (∀ q : Nat, q < H.size → t.heap[q]? = H[q]?) → XC cls s t)
    (hf : ∀ z ∈ locs, free z.base) (hc : cells + 1 ≤ mc) (hs : slots + 6 ≤ ms) :
    W p l e R s m args below meth c H locs cells slots (vx_MQ below Qc XC args s mc ms free) (F0 m pc ls rest) := by
  intro T hT X
  have htr : e.platform.stackTraces = false := (show e.platform.stackTraces = l.stackTraces by rw [X.admits.platform]).trans hl
  have Y := vx_rebase X (R' := { frames := R.frames, locals := R.locals, cells := 1, slots := 6 }) (Nat.le_refl _) (Nat.le_refl _) hRcells hRslots
  obtain ⟨s', hA⟩ : ∃ z, z = (T.setVm s.vm).setFrames (.invoking m args :: below) := ⟨_, rfl⟩
  rw [← hA] at Y
  have hvm : s'.vm = s.vm := by rw [hA]; rfl
  have hhp : s'.heap = H := by rw [hA]; exact hT
  have hW0 : s.WarmedH s'.vm := by rw [hvm]; exact State.WarmedH.refl s
  have hat' : ∀ w ∈ vx_atS own ic cls names, w.before args s' = true := fun w hw => vx_ot_at hW0 hvm.symm (hgood w (List.mem_cons_of_mem _ (List.mem_cons_of_mem _ hw))) (hat w hw)
  have hk' : (Cond.classLink own ik cls).before args s' = true := vx_ot_at hW0 hvm.symm (hgood _ List.mem_cons_self) hk
  have hini' : (Cond.initialized cls).before args s' = true := vx_ot_at hW0 hvm.symm (hgood _ (List.mem_cons_of_mem _ List.mem_cons_self)) hini
  have hU' : vx_Zq Bundle.tN "UNASSIGNED_STACK" Bundle.steD A s' s'.heap := by rw [hhp]; exact vx_Zq.moved hW0.alike (hU.kept hS.2.1)
  have hN' : vx_Zq Bundle.tN "SUPPRESSED_SENTINEL" Bundle.listD A s' s'.heap := by rw [hhp]; exact vx_Zq.moved hW0.alike (hN.kept hS.2.1)
  have h : ∀ w ∈ Bundle.ownAtoms own ic cls names, w.before args s' = true := vx_own hat' (vx_isRefq hU'.1) (vx_isRefq hN'.1) hU'.2.word hN'.2.word
  have hown' : s'.vm.findClass own = some m.cls := by rw [hvm]; exact hown
  have hins : (Cond.instantiable cls 6).before args s' = true := h _ (by simp [Bundle.ownAtoms])
  obtain ⟨vm₁, cX, kX, hfX, hkX, -, -, X₁, st1⟩ := Y.newCold hexec (own := own) (C := cls) (index := ik) (n := 6) hown' hk' hins hini'
    (g := F0 m pc ls rest) rfl (by rw [hb]; exact d0) (Nat.le_refl _) (Nat.le_refl _)
  generalize hT1 : (T.setVm vm₁).pushCell { cls := cX, slots := kX.instanceTypes.map defaultValue, vm := .none } = T1 at X₁ st1
  have hcat : (Value.ref T.heap.size).category = 1 := rfl
  have hcellA : T1.heap[T.heap.size]? = some (freshCell cX kX) := by rw [← hT1]; exact State.heap_pushCell_size _ _
  have d3' : decode c.code (pc + 3) = .ok (.dup, 1) := by rw [hb]; exact d3
  have d4' : decode c.code (pc + 4) = .ok (.ldc_w is, 3) := by rw [hb]; exact d4
  have hstr' : vk_R own is text sa s' := vk_R.warm hW0 hstr
  obtain ⟨U, hsteps, hrun, hend, hW, hsame, ce, hce, hO⟩ := X₁.ctorThrowS hexec htr (own := own) (cls := cls) (names := names) (ic := ic) hown' hcls hnames h (fun x hx => nomatch hx) hfX hkX hcellA (by rw [hhp, hT]; exact Nat.le_refl _) (msg := .ref sa) rfl
    (g := { method := m, pc := pc + 7, locals := ls, stack := .ref sa :: .ref T.heap.size :: .ref T.heap.size :: rest, locked := none }) rfl hsize rfl rfl (rest := rest) rfl
    (by rw [hb]; exact d7) (by rw [hb]; exact d10) hout hRframes (by simp only [List.map_cons, List.sum_cons, hcat]; omega) hlocks
  obtain ⟨f1, f2⟩ := vx_frame hsame
  rw [hhp] at f1 f2
  have hWs : s.WarmedH U.vm := State.WarmedH.trans hW0 hW
  have hcl : s.vm.findClass cls = some ce.cls := by
    have h9 := hO.cls
    rw [hvm] at h9
    exact h9
  have hall : s.sameButNew ({ U with vm := s.vm } : State) locs mc ms := by
    subst hA
    obtain ⟨e1, e2⟩ := hsame
    rw [State.setFrames_setFrames] at e1
    have h2 : (T.setVm s.vm).sameButNew ({ U with vm := s.vm } : State) [] (0 + 1) (0 + 6) := ⟨e1, e2⟩
    have h3 := X.same.trans h2
    rw [List.append_nil] at h3
    exact h3.mono hc hs
  refine ⟨U, ?_, .threw T.heap.size, hrun, hend, Or.inr ⟨T.heap.size, rfl, cls, ce, locs, hx U hWs.alike f1 (fun q hq => f2 q hq (fun z hz => nomatch hz)), hce, hO.vm, hcl, hWs, hall, hf⟩⟩
  refine st1 _ ?_
  show Steps p.tables e below (T1.setTop { method := m, pc := pc + 3, locals := ls, stack := .ref T.heap.size :: rest, locked := none }) _
  jvm_step X₁.here [X₁.here.top, hexec, d3', Value.category]
  exact X₁.ldcStringW hexec (own := own) (text := text) (index := is) (a := sa) hown' hstr'.1 hstr'.2
    (g := { method := m, pc := pc + 4, locals := ls, stack := .ref T.heap.size :: .ref T.heap.size :: rest, locked := none }) rfl d4' _ hsteps
end Ends
section Bodies
variable {l : Launch}
theorem vx_ofW {y : MethodName} {ws ws' : List Cond} {rm : Room} {Pc : Array Value → State → Prop} {Qc : Array Value → State → Outcome → State → Prop} {XC : String → State → State → Prop} {mc ms : Nat} {free : Addr → Prop} {cc : ByteArray} {maxL : Nat} {ret : Option FieldType}
    (hy : plainName y.cls = true) (hw : ws = Cond.code y cc maxL ret :: ws')
    (body : ∀ p e s m args below meth c s₁, BodyLoose p l y (headSpec ws rm) cc maxL ret e s m args below meth c s₁ → c.maxLocals = maxL → (∀ x ∈ c.exceptionTable.toList, False) → Pc args s →
      W p l e (headSpec ws rm).room s m args below meth c s.heap [] 0 0 (vx_MQ below Qc XC args s mc ms free) (entryFrame m args maxL)) : vx_Met l y ws rm Pc Qc XC mc ms free := by
  refine MetFree.of_bodyS (code := cc) (maxLocals := maxL) (ret := ret) hy ?_ ?_
  · intro args s m h hn
    obtain ⟨meth, c, h1, h2, h3, h4, h5, h6, -, -⟩ := Cond.code_spec hn (atoms_spec (ws := ws) h _ (by rw [hw]; exact List.mem_cons_self))
    exact ⟨meth, c, h1, h2, h3, h4, h5, h6⟩
  · intro p e s m args below meth c s₁ B hml hP _
    have hh0 : s₁.heap = s.heap := by rw [B.state]; rfl
    have ht : ∀ x ∈ c.exceptionTable.toList, False := by
      obtain ⟨meth9, c9, h1, h2, -, -, -, -, h7, -⟩ := Cond.code_spec B.named (atoms_spec (ws := ws) B.pre _ (by rw [hw]; exact List.mem_cons_self))
      cases Option.some.inj (h1.symm.trans B.method)
      cases Option.some.inj (h2.symm.trans (Stand.of_body B).code)
      intro x hx
      rw [Array.isEmpty_iff.mp h7] at hx
      cases hx
    obtain ⟨t, a1, o, b1, b2, b3⟩ := body p e s m args below meth c s₁ B hml ht hP s₁ hh0 (Stand.of_body B)
    exact ⟨t, o, a1, b1, b2, b3⟩
/-- the table of a body with handlers -/
theorem vx_table {p : Program} {x y : MethodName} {S : Spec} {cc bytes : ByteArray} {maxL maxL' : Nat} {ret ret' : Option FieldType} {e : Env} {s s₁ : State} {m : MethodId} {args : Array Value} {below : List Frame} {meth : Method} {c : Code} {hh : List (Nat × Nat × Nat × Nat)}
    (B : BodyLoose p l y S cc maxL ret e s m args below meth c s₁) (h : (Cond.codeWith y bytes maxL' ret' hh).before args s = true) : c.exceptionTable.toList = tableOf hh := by
  obtain ⟨m9, meth9, c9, hn9, h1, h2, -, -, h6, -⟩ := Cond.codeWith_spec h
  cases Option.some.inj (hn9.symm.trans B.named)
  cases Option.some.inj (h1.symm.trans B.method)
  cases Option.some.inj (h2.symm.trans (Stand.of_body B).code)
  rw [← h6, table_eq]
end Bodies
end VXA
/-! ===== END ===== -/
/-! ===== BEGIN a static call of a method with an exception table ===== -/
section VXS
variable {p : Program} {l : Launch} {e : Env} {R : Room} {s : State} {m : MethodId} {args : Array Value} {below : List Frame} {meth : Method} {c : Code} {T : State} {H : Heap} {locs : List Loc} {cells slots : Nat}
abbrev vx_CSW (R : Room) (s : State) (args : Array Value) (own : String) (index : Nat) (y : MethodName) (bytes : ByteArray) (maxL : Nat) (ret : Option FieldType) (hh : List (Nat × Nat × Nat × Nat)) (ws : List Cond) (rm : Room) (mc ms n : Nat) : Prop :=
  (rm.cells = mc ∧ rm.slots = ms ∧ rm.frames + 1 ≤ R.frames ∧ 8 + (maxL + 11) + rm.locals ≤ R.locals ∧ (∀ w ∈ ws, ∀ (a' : Array Value) (U : State), s.WarmedH U.vm → w.before a' U = true) ∧ Cond.codeWith y bytes maxL ret hh ∈ ws) ∧
  (Cond.codeWith y bytes maxL ret hh).before args s = true ∧ (Cond.initialized y.cls).before args s = true ∧ (y.cls ≠ "java/lang/invoke/MethodHandle" ∧ y.cls ≠ "java/lang/invoke/VarHandle") ∧
  (∀ sig, parseMethodDescriptor y.desc = some sig → n = sig.parameters.length) ∧ (Cond.methodLink own index y).before args s = true ∧ (Cond.static y).before args s = true
theorem vx_cwSW {own : String} {index maxL mc ms : Nat} {y : MethodName} {bytes : ByteArray} {ret : Option FieldType} {hh : List (Nat × Nat × Nat × Nat)} {Ts ws ws' : List Cond} {rm : Room} (n : Nat) (ht : ∀ w ∈ Ts, w.before args s = true) (hT : GoodIn Ts (va_wsS own index y ws)) (hw : ws = Cond.codeWith y bytes maxL ret hh :: ws') (hrc : rm.cells = mc) (hrs : rm.slots = ms)
    (hd : y.cls ≠ "java/lang/invoke/MethodHandle" ∧ y.cls ≠ "java/lang/invoke/VarHandle" ∧ (parseMethodDescriptor y.desc).map (fun d => d.parameters.length) = some n) (hR : rm.frames + 1 ≤ R.frames ∧ 8 + (maxL + 11) + rm.locals ≤ R.locals) :
    vx_CSW R s args own index y bytes maxL ret hh ws rm mc ms n := by
  have ok : ∀ w ∈ va_wsS own index y ws, w.before args s = true := fun w h => ht w (hT w h).1
  have hG : GoodIn Ts ws := fun w h => hT w (by unfold va_wsS; exact List.mem_append_right _ h)
  have hc : Cond.codeWith y bytes maxL ret hh ∈ ws := by rw [hw]; exact List.mem_cons_self
  refine ⟨⟨hrc, hrs, hR.1, hR.2, pay_in ht hG, hc⟩, ht _ (hG _ hc).1, ok _ (by simp [va_wsS]), ⟨hd.1, hd.2.1⟩, fun sig h => ?_, ok _ (by simp [va_wsS]), ok _ (by simp [va_wsS])⟩
  have h2 := hd.2.2
  rw [h] at h2
  exact (Option.some.inj h2).symm
theorem vx_callSW (X : Stand p l e R s m args below meth c T locs cells slots) (hexec : p.tables.exec = Jvm.exec) {own : String} {index : Nat} {y : MethodName} {bytes : ByteArray} {maxL : Nat} {ret : Option FieldType} {hh : List (Nat × Nat × Nat × Nat)}
    (hown : s.vm.findClass own = some m.cls) (hlink : (Cond.methodLink own index y).before args s = true) (hstat : (Cond.static y).before args s = true) (hinit : (Cond.initialized y.cls).before args s = true)
    (hcode : (Cond.codeWith y bytes maxL ret hh).before args s = true) (hy : y.cls ≠ "java/lang/invoke/MethodHandle" ∧ y.cls ≠ "java/lang/invoke/VarHandle")
    {W9 : Nat} {Pre : Pt → Array Value → Prop} {Post : Pt → Array Value → Option Value → Pt → Prop} (hK : Back l R p e below s args y 3 W9 Pre Post)
    {g : JFrame} (hg : g.method = m) (hsize : g.locals.size = c.maxLocals) {argsL rest : List Value} (hlen : ∀ sig, parseMethodDescriptor y.desc = some sig → argsL.length = sig.parameters.length)
    (hstack : g.stack = argsL.reverse ++ rest) (hW : 2 * g.monitorRoom + (rest.map fun v => v.category).sum ≤ W9) (hdg : decode c.code g.pc = .ok (.invokestatic index, 3))
    (hpre : ∀ vm₁, s.WarmedH vm₁ → Pre ⟨T.setVm vm₁, locs, cells, slots⟩ argsL.toArray) :
    ∃ (v : Option Value) (vm₁ : Vm) (B : Pt), s.WarmedH vm₁ ∧ Stand p l e R s m args below meth c B.U B.locs B.cells B.slots ∧ Post ⟨T.setVm vm₁, locs, cells, slots⟩ argsL.toArray v B ∧
      ∀ target, Steps p.tables e below (B.U.setTop { g with pc := g.pc + 3, stack := v.toList ++ rest }) target → Steps p.tables e below (T.setTop g) target := by
  obtain ⟨mk, methM, cM, hnamed, hmethM, -, -, -, -, -, -, hsigM⟩ := Cond.codeWith_spec hcode
  have hstatic : methM.isStatic = true := Cond.static_spec hnamed hmethM hstat
  obtain ⟨kP, hkP, -⟩ := className_of_methodNamed hnamed
  have hinitP : kP.init = .initialized := Cond.initialized_spec (findClass_of_methodNamed hnamed) hkP hinit
  obtain ⟨vm₁, X₁, hstep₁⟩ := X.invokestatic hexec hown hlink hnamed hmethM hstatic hkP hinitP hy (g := g) hg (argsL := argsL) (rest := rest) (hlen _ hsigM) hstack hdg
  obtain ⟨v, B, X', hpost, hsteps⟩ := hK m meth c ⟨T.setVm vm₁, locs, cells, slots⟩ { g with stack := rest } (.invokestatic index) mk argsL.toArray X₁ hg hsize hdg hW (X₁.named hnamed) (hpre vm₁ X₁.warmed)
  exact ⟨v, vm₁, B, X₁.warmed, X', hpost, fun target h => hstep₁ _ fun acts => by rw [doInvoke_state]; exact hsteps.trans h⟩
theorem vx_runSW {y : MethodName} {bytes cc : ByteArray} {maxL nL mc ms n index : Nat} {ret : Option FieldType} {hh : List (Nat × Nat × Nat × Nat)} {ws : List Cond} {rm : Room} {Pc : Array Value → State → Prop} {Qc : Array Value → State → Outcome → State → Prop} {free : Addr → Prop} {Ts : List Cond} {own : String} {As rest : List Value} {g : JFrame}
    (S : CallFix p m c cc nL s args Ts own) (hM : Met l y ws rm Pc Qc mc ms free) (cw : vx_CSW R s args own index y bytes maxL ret hh ws rm mc ms n) (hp : PreS s H Pc As)
    (hg : g.method = m) (hn : As.length = n) (hsize : g.locals.size = nL) (hstack : g.stack = As.reverse ++ rest) (hW : 2 * g.monitorRoom + (rest.map fun v => v.category).sum ≤ 8) (hdg : decode cc g.pc = .ok (.invokestatic index, 3)) (hf : cells + mc ≤ R.cells ∧ slots + ms ≤ R.slots) :
    va_Run p l e R s m args below meth c H locs cells slots mc ms g rest (Qc As.toArray) (free) := by
  obtain ⟨⟨hrc, hrs, hfr, hlo, hws, hcw⟩, hcode, hini, hy, hlen, hl, hstt⟩ := cw
  have hK : Back l R p e below s args y 3 8 (PreOf R mc ms Pc) (PostOf Qc mc ms free) := va_backW (hh := hh) (bytes := bytes) (maxL := maxL) (ret := ret) hM hp.1 hrc hrs hfr hlo hws hcw (fun a' U hW => word_at hW (Or.inl (by first | rfl | simp [Cond.onTables, Cond.keeps, Cond.steady])) hini)
  obtain ⟨hx, hb, hml, ho, -⟩ := S
  intro T hT X
  obtain ⟨v, vm₁, ⟨U', l2, c2, s2⟩, hW₁, X', ⟨g', mk, t, L, e1, e2, hq, h1, hL, h2, h3⟩, st⟩ := vx_callSW X hx (hh := hh) (bytes := bytes) (maxL := maxL) (ret := ret) ho hl hstt hini hcode hy hK hg (hsize.trans hml.symm) (argsL := As) (rest := rest) (fun sig h => hn.trans (hlen sig h)) hstack hW (by rw [hb]; exact hdg)
    (fun vm₁ hW₁ => ⟨hf.1, hf.2, hp.2 (T.setVm vm₁) hT hW₁⟩)
  dsimp only [Pt.U, Pt.locs, Pt.cells, Pt.slots] at X' e1 e2 h1 h2 h3 st
  subst h1; subst h2; subst h3
  exact ⟨v, (T.setVm vm₁).calling g' mk As.toArray, t, U', L, hT, X', hL, e1, e2, hq, st⟩
/-- not caught here, past rows that name other classes: it goes on to the caller -/
theorem vx_outP {p : Program} {l : Launch} {e : Env} {R : Room} {s : State} {m : MethodId} {args : Array Value} {below : List Frame} {meth : Method} {c : Code} {H : Heap} {locs : List Loc} {cells slots : Nat} {free : Addr → Prop} {ls : Array Slot} {rest : List Value} {Qc : Array Value → State → Outcome → State → Prop} {XC : String → State → State → Prop}
    {pc : Nat} {own E : String} {ce : Cell} {q : Addr} {mc ms : Nat} (hown : s.vm.findClass own = some m.cls) (hlocks : meth.locks = false)
    (hpass : ∀ z ∈ c.exceptionTable.toList, covers z pc = false ∨ (z.catchType ≠ 0 ∧ ∃ nm : String, (Cond.classLink own z.catchType nm).before args s = true ∧ va_Nc E nm s)) (hcell : H[q]? = some ce) (hv : ce.vm = .none) (hcl : s.vm.findClass E = some ce.cls)
    (hx : ∀ t : State, t.heap = H → s.vm.Alike t.vm → XC E s t) (hf : ∀ z ∈ locs, free z.base) (hc : cells ≤ mc) (hs : slots ≤ ms) :
    vx_W p l e R s m args below meth c H locs cells slots (vx_MQ below Qc XC args s mc ms free) (F0 m pc ls rest) q := by
  intro T hT X
  have hpl : e.platform.magicAccessors = ({} : Platform).magicAccessors := by rw [X.admits.platform]
  obtain ⟨vm', hW', X', st⟩ := X.outThrough hlocks q (g := F0 m pc ls rest) rfl rfl rfl (cell := ce) (by rw [hT]; exact hcell) (by rw [hv]; rfl)
    (by obtain ⟨k9, h9, -⟩ := Vm.findClass_spec hcl; exact ⟨k9, h9⟩) (fun z hz => by
      rcases hpass z hz with h | ⟨hz0, nm, hl1, hn1⟩
      · exact Or.inl h
      · obtain ⟨c6, hc6, hcl6⟩ := Cond.classLink_spec hown hl1 e.platform hpl
        obtain ⟨a8, b8, h1, h2, h3⟩ := hn1
        cases Option.some.inj (h1.symm.trans hcl)
        cases Option.some.inj (h2.symm.trans hc6)
        exact Or.inr ⟨hz0, _, hcl6, h3⟩)
  obtain ⟨g₀, hfr⟩ := X'.frames_eq
  have hcell9 : ((T.setVm vm').setFrames (.throwing q :: below)).heap[q]? = some ce := by
    show T.heap[q]? = some ce
    rw [hT]; exact hcell
  have hend : Ended ((T.setVm vm').setFrames (.throwing q :: below)) below (.threw q) := State.frames_setFrames _ (State.cur_lt_of_frames hfr)
  refine ⟨(T.setVm vm').setFrames (.throwing q :: below), ?_, .threw q, X'.here.running, hend, Or.inr ⟨q, rfl, E, ce, locs, hx _ hT (X'.ends _).1.alike, hcell9, hv, hcl, (X'.ends _).1, (X'.ends _).2.mono hc hs, hf⟩⟩
  rw [X.pushThrowing_eq]
  exact st
/-- a thing of a world lies in the heap -/
theorem vx_lt {D : va_G} {cl : List vw_C} {ws : va_W} {H1 : Heap} (h : va_P D cl ws H1) {k : Nat} {q : Nat × va_E} (hk : ws[k]? = some q) : q.1 < H1.size := (h k q hk).lt
end VXS
/-! ===== END ===== -/
/-! ===== BEGIN methods with a table of their own: called by a name, returning or throwing ===== -/
section VXH
/-! vx_backW, vx_callVX, vx_callSX, vx_callVW, vx_runVW, vx_runVX, vx_runSX, vx_ofWH follow the same proofs as their sisters above (Free/Laws.lean, Shelf42/LK1.lean); vx_outP calls Shelf42/NT130.lean (outThrough). -/
section
variable {l : Launch} {R : Room} {p : Program} {e : Env} {below : List Frame} {s : State} {sargs : Array Value} {y : MethodName} {len W9 : Nat}
theorem vx_backW {ws : List Cond} {rm : Room} {Pc : Array Value → State → Prop} {Qc : Array Value → State → Outcome → State → Prop} {XC : String → State → State → Prop} {mc ms : Nat} {free : Addr → Prop} {bytes : ByteArray} {maxL : Nat} {ret : Option FieldType} {hh : List (Nat × Nat × Nat × Nat)}
    (hM : vx_Met l y ws rm Pc Qc XC mc ms free) (hblind : FrameBlind Pc) (hrc : rm.cells = mc) (hrs : rm.slots = ms)
    (hframes : rm.frames + 1 ≤ R.frames) (hlocals : W9 + (maxL + 11) + rm.locals ≤ R.locals)
    (hws : ∀ w ∈ ws, ∀ a' U, s.WarmedH U.vm → w.before a' U = true) (hcode : Cond.codeWith y bytes maxL ret hh ∈ ws) (hinit : ∀ a' U, s.WarmedH U.vm → (Cond.initialized y.cls).before a' U = true) :
    vx_Back l R p e below s sargs y len W9 (PreOf R mc ms Pc) (PostOf Qc mc ms free) (vx_Post XC mc ms free) := by
  intro m meth c A g ig mk a X hg hsize hdg hW hn hp
  have h1 : (headSpec ws rm).pre.before a A.U = true := atoms_intro fun w hw => hws w hw _ _ X.warmed
  have h2 : (Cond.codeWith y bytes maxL ret hh).before a A.U = true := hws _ hcode _ _ X.warmed
  have h3 : (Cond.initialized y.cls).before a A.U = true := hinit _ _ X.warmed
  have h4 : A.cells + (headSpec ws rm).room.cells ≤ R.cells := by rw [show (headSpec ws rm).room.cells = mc from hrc]; exact hp.1
  have h5 : A.slots + (headSpec ws rm).room.slots ≤ R.slots := by rw [show (headSpec ws rm).room.slots = ms from hrs]; exact hp.2.1
  have hPc : Pc a (A.U.calling g mk a) := hblind _ _ _ _ hp.2.2
  obtain ⟨U, Ls, c0, s0⟩ := A
  dsimp only [Pt.U, Pt.locs, Pt.cells, Pt.slots] at h1 h2 h3 h4 h5 X hn hPc ⊢
  obtain ⟨m9, methY, cY, hn9, hmY, hcY, -, hlY, -⟩ := Cond.codeWith_spec h2
  cases Option.some.inj (hn9.symm.trans hn)
  obtain ⟨kY, hkY, -⟩ := className_of_methodNamed hn
  have hinitY : kY.init = .initialized := Cond.initialized_spec (findClass_of_methodNamed hn) hkY h3
  have h : At U g.method c below := by rw [hg]; exact X.here
  have hlocals9 : W9 + (maxL + 11) + (headSpec ws rm).room.locals ≤ R.locals := hlocals
  have happ : (headSpec ws rm).appliesLoose y e.platform (U.calling g mk a) = true :=
    Spec.appliesLoose_calling (g := g) h hdg hn hkY hinitY
      (X.room_calling (g := g) (R' := (headSpec ws rm).room) hsize hmY hcY hframes (by rw [hlY]; omega) h4 h5) h1
  obtain ⟨mid, hmid⟩ := h.above
  have hfr : (U.setTop g).frames = (.java g :: mid) ++ below := by rw [State.frames_setTop' g h.top, hmid]; rfl
  obtain ⟨o, s₂, hsteps, -, hend, hq⟩ := Steps.callFree hM p X.admits X.cas X.clock (acts := []) hfr happ hPc trivial
  have hq' : vx_Q Qc XC mc ms free a (U.calling g mk a) o s₂ := hq
  rw [State.frames_setTop' g h.top] at hend
  obtain ⟨g₀, hg0⟩ := Option.isSome_iff_exists.mp h.top
  obtain ⟨r, hr⟩ := State.topJava?_eq_some.mp hg0
  have hr' : (({ U with heap := s₂.heap, slotsUsed := s₂.slotsUsed } : State).setVm s₂.vm).frames = .java g₀ :: r := hr
  rcases hq' with ⟨hqc, L, hfe, hL⟩ | ⟨q, rfl, E, ce, L, hx, hce, hcv, hcl, hW₂, hsm, hL⟩
  · obtain ⟨⟨v, rfl⟩, hW₂, e2, q2, q3, q4, q5, q6⟩ := id hfe
    have e3 : s₂ = ({ (U.calling g mk a).setFrames s₂.frames with heap := s₂.heap, slotsUsed := s₂.slotsUsed } : State).setVm s₂.vm := by
      have : s₂ = ({ s₂ with vm := (U.calling g mk a).vm } : State).setVm s₂.vm := rfl
      rw [e2] at this
      exact this
    obtain ⟨c₂, i₂, len₂, hc₂, hd₂, hf₂⟩ := hend
    have hW' : U.WarmedH s₂.vm := hW₂
    have hcc : c₂ = c := by
      have h1 : s₂.code? g.method = U.code? g.method := by
        rw [State.code?_eq, State.code?_eq, hW'.alike.method?]
      exact Option.some.inj (hc₂.symm.trans (h1.trans h.code))
    subst hcc
    have hlen : len₂ = len := by rw [hdg] at hd₂; cases hd₂; rfl
    subst hlen
    have hs₂ : s₂ = (({ U with heap := s₂.heap, slotsUsed := s₂.slotsUsed } : State).setVm s₂.vm).setTop { g with pc := g.pc + len₂, stack := v.toList ++ g.stack } := by
      refine e3.trans ?_
      rw [hf₂, State.calling_eq h.top, State.setFrames_setFrames, State.setTop_of_frames _ hr', hr]
      rfl
    have hsame : U.sameButNew ({ U with heap := s₂.heap, slotsUsed := s₂.slotsUsed } : State) L mc ms := by
      refine ⟨?_, q2, q3, q4, q5, q6⟩
      obtain ⟨t, ht, -⟩ := State.frames_cons hr
      show ({ U with heap := s₂.heap, slotsUsed := s₂.slotsUsed } : State) = { U.setFrames U.frames with heap := s₂.heap, slotsUsed := s₂.slotsUsed }
      rw [State.setFrames_self ht]
    subst hg
    refine Or.inl ⟨v, ⟨(({ U with heap := s₂.heap, slotsUsed := s₂.slotsUsed } : State).setVm s₂.vm), Ls ++ L, c0 + mc, s0 + ms⟩,
      ⟨X.admits, X.cas, X.clock, X.frames, X.room, X.hears, X.method, X.code, (X.here.setHeapUsed s₂.heap s₂.slotsUsed).setVm hW'.alike, X.tail, State.WarmedH.trans X.warmed hW', X.limits, X.bytes, X.same.trans (hsame.setVm s.vm)⟩,
      ⟨g, mk, s₂, L, rfl, rfl, hqc, rfl, hL, rfl, rfl⟩, ?_⟩
    show Steps p.tables e below _ ((({ U with heap := s₂.heap, slotsUsed := s₂.slotsUsed } : State).setVm s₂.vm).setTop { g with pc := g.pc + len₂, stack := v.toList ++ g.stack })
    rw [← hs₂]
    exact hsteps
  · obtain ⟨e2, q2, q3, q4, q5, q6⟩ := id hsm
    have e3 : s₂ = ({ (U.calling g mk a).setFrames s₂.frames with heap := s₂.heap, slotsUsed := s₂.slotsUsed } : State).setVm s₂.vm := by
      have : s₂ = ({ s₂ with vm := (U.calling g mk a).vm } : State).setVm s₂.vm := rfl
      rw [e2] at this
      exact this
    have hf₂ : s₂.frames = .throwing q :: .java g :: U.frames.tail := hend
    have hW' : U.WarmedH s₂.vm := hW₂
    have hs₂ : s₂ = ((({ U with heap := s₂.heap, slotsUsed := s₂.slotsUsed } : State).setVm s₂.vm).setTop g).pushFrame (.throwing q) := by
      refine e3.trans ?_
      rw [hf₂, State.calling_eq h.top, State.setFrames_setFrames, State.pushFrame, State.frames_setTop _ hr', State.setTop_of_frames _ hr', State.setFrames_setFrames, hr]
      rfl
    have hsame : U.sameButNew ({ U with heap := s₂.heap, slotsUsed := s₂.slotsUsed } : State) L mc ms := by
      refine ⟨?_, q2, q3, q4, q5, q6⟩
      obtain ⟨t, ht, -⟩ := State.frames_cons hr
      show ({ U with heap := s₂.heap, slotsUsed := s₂.slotsUsed } : State) = { U.setFrames U.frames with heap := s₂.heap, slotsUsed := s₂.slotsUsed }
      rw [State.setFrames_self ht]
    subst hg
    refine Or.inr ⟨q, ⟨(({ U with heap := s₂.heap, slotsUsed := s₂.slotsUsed } : State).setVm s₂.vm), Ls ++ L, c0 + mc, s0 + ms⟩,
      ⟨X.admits, X.cas, X.clock, X.frames, X.room, X.hears, X.method, X.code, (X.here.setHeapUsed s₂.heap s₂.slotsUsed).setVm hW'.alike, X.tail, State.WarmedH.trans X.warmed hW', X.limits, X.bytes, X.same.trans (hsame.setVm s.vm)⟩,
      ⟨g, mk, s₂, L, E, ce, rfl, rfl, hx, hce, hcv, hcl, rfl, hL, rfl, rfl⟩, ?_⟩
    show Steps p.tables e below _ (((({ U with heap := s₂.heap, slotsUsed := s₂.slotsUsed } : State).setVm s₂.vm).setTop g).pushFrame (.throwing q))
    rw [← hs₂]
    exact hsteps
end
variable {p : Program} {l : Launch} {e : Env} {R : Room} {s : State} {m : MethodId} {args : Array Value} {below : List Frame} {meth : Method} {c : Code} {T : State} {H : Heap} {locs : List Loc} {cells slots : Nat}
theorem vx_callVX (X : Stand p l e R s m args below meth c T locs cells slots) (hexec : p.tables.exec = Jvm.exec) {own C : String} {index : Nat} {y : MethodName} {bytes : ByteArray} {maxL : Nat} {ret : Option FieldType} {hh : List (Nat × Nat × Nat × Nat)}
    (hown : s.vm.findClass own = some m.cls) (hlink : (Cond.methodLink own index y).before args s = true) (hinst : (Cond.instanceMethod y).before args s = true) (hsel : (Cond.selects C y y).before args s = true)
    (hcode : (Cond.codeWith y bytes maxL ret hh).before args s = true) (hy : y.cls ≠ "java/lang/invoke/MethodHandle" ∧ y.cls ≠ "java/lang/invoke/VarHandle")
    {W9 : Nat} {Pre : Pt → Array Value → Prop} {Post : Pt → Array Value → Option Value → Pt → Prop} {PostX : Pt → Array Value → Addr → Pt → Prop} (hK : vx_Back l R p e below s args y 3 W9 Pre Post PostX)
    {b : Addr} {cellB : Cell} (hcell : T.heap[b]? = some cellB) (hobj : cellB.vm.isStatics = false) (hcls : s.vm.findClass C = some cellB.cls)
    {g : JFrame} (hg : g.method = m) (hsize : g.locals.size = c.maxLocals) {argsL rest : List Value} (hlen : ∀ sig, parseMethodDescriptor y.desc = some sig → argsL.length = sig.parameters.length)
    (hstack : g.stack = argsL.reverse ++ .ref b :: rest) (hW : 2 * g.monitorRoom + (rest.map fun v => v.category).sum ≤ W9) (hdg : decode c.code g.pc = .ok (.invokevirtual index, 3))
    (hpre : ∀ vm₁, s.WarmedH vm₁ → Pre ⟨T.setVm vm₁, locs, cells, slots⟩ (Value.ref b :: argsL).toArray) :
    (∃ (v : Option Value) (vm₁ : Vm) (B : Pt), s.WarmedH vm₁ ∧ Stand p l e R s m args below meth c B.U B.locs B.cells B.slots ∧ Post ⟨T.setVm vm₁, locs, cells, slots⟩ (Value.ref b :: argsL).toArray v B ∧
      ∀ target, Steps p.tables e below (B.U.setTop { g with pc := g.pc + 3, stack := v.toList ++ rest }) target → Steps p.tables e below (T.setTop g) target) ∨
    (∃ (q : Addr) (vm₁ : Vm) (B : Pt), s.WarmedH vm₁ ∧ Stand p l e R s m args below meth c B.U B.locs B.cells B.slots ∧ PostX ⟨T.setVm vm₁, locs, cells, slots⟩ (Value.ref b :: argsL).toArray q B ∧
      Steps p.tables e below (T.setTop g) ((B.U.setTop { g with stack := rest }).pushFrame (.throwing q))) := by
  obtain ⟨mk, methM, hnamed, hmethM, hstM, habM⟩ := Cond.instanceMethod_spec hinst
  obtain ⟨m8, methM', cM, hn8, hmethM', -, -, -, -, -, -, hsigM⟩ := Cond.codeWith_spec hcode
  cases Option.some.inj (hn8.symm.trans hnamed)
  cases hmethM.symm.trans hmethM'
  obtain ⟨c2, r2, m2, q1, q2, q3, q4, kP, hkP, hkPi⟩ := Cond.selects_spec hsel
  cases hcls.symm.trans q1
  cases (State.methodFound?_of_named hnamed hy).symm.trans q2
  cases hnamed.symm.trans q3
  have hselP : selectMethod e.platform s.vm cellB.cls mk = .method mk := by rw [Launch.admits_selectMethod X.admits]; exact q4
  obtain ⟨vm₁, X₁, hstep₁⟩ := X.invokevirtual hexec hown hlink hnamed hmethM hstM hkP hkPi hy (a := b) (cell := cellB) hcell
    (fun z h => by rw [h] at hobj; cases hobj) hselP hmethM habM hkP hkPi (g := g) hg (argsL := argsL) (rest := rest) (hlen _ hsigM) hstack hdg
  rcases hK m meth c ⟨T.setVm vm₁, locs, cells, slots⟩ { g with stack := rest } (.invokevirtual index) mk (Value.ref b :: argsL).toArray X₁ hg hsize hdg hW (X₁.named hnamed) (hpre vm₁ X₁.warmed) with ⟨v, B, X', hpost, hsteps⟩ | ⟨q, B, X', hpost, hsteps⟩
  · exact Or.inl ⟨v, vm₁, B, X₁.warmed, X', hpost, fun target h => hstep₁ _ fun acts => by rw [doInvoke_state]; exact hsteps.trans h⟩
  · exact Or.inr ⟨q, vm₁, B, X₁.warmed, X', hpost, hstep₁ _ fun acts => by rw [doInvoke_state]; exact hsteps⟩
theorem vx_callSX (X : Stand p l e R s m args below meth c T locs cells slots) (hexec : p.tables.exec = Jvm.exec) {own : String} {index : Nat} {y : MethodName} {bytes : ByteArray} {maxL : Nat} {ret : Option FieldType} {hh : List (Nat × Nat × Nat × Nat)}
    (hown : s.vm.findClass own = some m.cls) (hlink : (Cond.methodLink own index y).before args s = true) (hstat : (Cond.static y).before args s = true) (hinit : (Cond.initialized y.cls).before args s = true)
    (hcode : (Cond.codeWith y bytes maxL ret hh).before args s = true) (hy : y.cls ≠ "java/lang/invoke/MethodHandle" ∧ y.cls ≠ "java/lang/invoke/VarHandle")
    {W9 : Nat} {Pre : Pt → Array Value → Prop} {Post : Pt → Array Value → Option Value → Pt → Prop} {PostX : Pt → Array Value → Addr → Pt → Prop} (hK : vx_Back l R p e below s args y 3 W9 Pre Post PostX)
    {g : JFrame} (hg : g.method = m) (hsize : g.locals.size = c.maxLocals) {argsL rest : List Value} (hlen : ∀ sig, parseMethodDescriptor y.desc = some sig → argsL.length = sig.parameters.length)
    (hstack : g.stack = argsL.reverse ++ rest) (hW : 2 * g.monitorRoom + (rest.map fun v => v.category).sum ≤ W9) (hdg : decode c.code g.pc = .ok (.invokestatic index, 3))
    (hpre : ∀ vm₁, s.WarmedH vm₁ → Pre ⟨T.setVm vm₁, locs, cells, slots⟩ argsL.toArray) :
    (∃ (v : Option Value) (vm₁ : Vm) (B : Pt), s.WarmedH vm₁ ∧ Stand p l e R s m args below meth c B.U B.locs B.cells B.slots ∧ Post ⟨T.setVm vm₁, locs, cells, slots⟩ argsL.toArray v B ∧
      ∀ target, Steps p.tables e below (B.U.setTop { g with pc := g.pc + 3, stack := v.toList ++ rest }) target → Steps p.tables e below (T.setTop g) target) ∨
    (∃ (q : Addr) (vm₁ : Vm) (B : Pt), s.WarmedH vm₁ ∧ Stand p l e R s m args below meth c B.U B.locs B.cells B.slots ∧ PostX ⟨T.setVm vm₁, locs, cells, slots⟩ argsL.toArray q B ∧
      Steps p.tables e below (T.setTop g) ((B.U.setTop { g with stack := rest }).pushFrame (.throwing q))) := by
  obtain ⟨mk, methM, cM, hnamed, hmethM, -, -, -, -, -, -, hsigM⟩ := Cond.codeWith_spec hcode
  have hstatic : methM.isStatic = true := Cond.static_spec hnamed hmethM hstat
  obtain ⟨kP, hkP, -⟩ := className_of_methodNamed hnamed
  have hinitP : kP.init = .initialized := Cond.initialized_spec (findClass_of_methodNamed hnamed) hkP hinit
  obtain ⟨vm₁, X₁, hstep₁⟩ := X.invokestatic hexec hown hlink hnamed hmethM hstatic hkP hinitP hy (g := g) hg (argsL := argsL) (rest := rest) (hlen _ hsigM) hstack hdg
  rcases hK m meth c ⟨T.setVm vm₁, locs, cells, slots⟩ { g with stack := rest } (.invokestatic index) mk argsL.toArray X₁ hg hsize hdg hW (X₁.named hnamed) (hpre vm₁ X₁.warmed) with ⟨v, B, X', hpost, hsteps⟩ | ⟨q, B, X', hpost, hsteps⟩
  · exact Or.inl ⟨v, vm₁, B, X₁.warmed, X', hpost, fun target h => hstep₁ _ fun acts => by rw [doInvoke_state]; exact hsteps.trans h⟩
  · exact Or.inr ⟨q, vm₁, B, X₁.warmed, X', hpost, hstep₁ _ fun acts => by rw [doInvoke_state]; exact hsteps⟩
theorem vx_callVW (X : Stand p l e R s m args below meth c T locs cells slots) (hexec : p.tables.exec = Jvm.exec) {own C : String} {index : Nat} {y : MethodName} {bytes : ByteArray} {maxL : Nat} {ret : Option FieldType} {hh : List (Nat × Nat × Nat × Nat)}
    (hown : s.vm.findClass own = some m.cls) (hlink : (Cond.methodLink own index y).before args s = true) (hinst : (Cond.instanceMethod y).before args s = true) (hsel : (Cond.selects C y y).before args s = true)
    (hcode : (Cond.codeWith y bytes maxL ret hh).before args s = true) (hy : y.cls ≠ "java/lang/invoke/MethodHandle" ∧ y.cls ≠ "java/lang/invoke/VarHandle")
    {W9 : Nat} {Pre : Pt → Array Value → Prop} {Post : Pt → Array Value → Option Value → Pt → Prop} (hK : Back l R p e below s args y 3 W9 Pre Post)
    {b : Addr} {cellB : Cell} (hcell : T.heap[b]? = some cellB) (hobj : cellB.vm.isStatics = false) (hcls : s.vm.findClass C = some cellB.cls)
    {g : JFrame} (hg : g.method = m) (hsize : g.locals.size = c.maxLocals) {argsL rest : List Value} (hlen : ∀ sig, parseMethodDescriptor y.desc = some sig → argsL.length = sig.parameters.length)
    (hstack : g.stack = argsL.reverse ++ .ref b :: rest) (hW : 2 * g.monitorRoom + (rest.map fun v => v.category).sum ≤ W9) (hdg : decode c.code g.pc = .ok (.invokevirtual index, 3))
    (hpre : ∀ vm₁, s.WarmedH vm₁ → Pre ⟨T.setVm vm₁, locs, cells, slots⟩ (Value.ref b :: argsL).toArray) :
    ∃ (v : Option Value) (vm₁ : Vm) (B : Pt), s.WarmedH vm₁ ∧ Stand p l e R s m args below meth c B.U B.locs B.cells B.slots ∧ Post ⟨T.setVm vm₁, locs, cells, slots⟩ (Value.ref b :: argsL).toArray v B ∧
      ∀ target, Steps p.tables e below (B.U.setTop { g with pc := g.pc + 3, stack := v.toList ++ rest }) target → Steps p.tables e below (T.setTop g) target := by
  obtain ⟨mk, methM, hnamed, hmethM, hstM, habM⟩ := Cond.instanceMethod_spec hinst
  obtain ⟨m8, methM', cM, hn8, hmethM', -, -, -, -, -, -, hsigM⟩ := Cond.codeWith_spec hcode
  cases Option.some.inj (hn8.symm.trans hnamed)
  cases hmethM.symm.trans hmethM'
  obtain ⟨c2, r2, m2, q1, q2, q3, q4, kP, hkP, hkPi⟩ := Cond.selects_spec hsel
  cases hcls.symm.trans q1
  cases (State.methodFound?_of_named hnamed hy).symm.trans q2
  cases hnamed.symm.trans q3
  have hselP : selectMethod e.platform s.vm cellB.cls mk = .method mk := by rw [Launch.admits_selectMethod X.admits]; exact q4
  obtain ⟨vm₁, X₁, hstep₁⟩ := X.invokevirtual hexec hown hlink hnamed hmethM hstM hkP hkPi hy (a := b) (cell := cellB) hcell
    (fun z h => by rw [h] at hobj; cases hobj) hselP hmethM habM hkP hkPi (g := g) hg (argsL := argsL) (rest := rest) (hlen _ hsigM) hstack hdg
  obtain ⟨v, B, X', hpost, hsteps⟩ := hK m meth c ⟨T.setVm vm₁, locs, cells, slots⟩ { g with stack := rest } (.invokevirtual index) mk (Value.ref b :: argsL).toArray X₁ hg hsize hdg hW (X₁.named hnamed) (hpre vm₁ X₁.warmed)
  exact ⟨v, vm₁, B, X₁.warmed, X', hpost, fun target h => hstep₁ _ fun acts => by rw [doInvoke_state]; exact hsteps.trans h⟩
abbrev vx_CVW (R : Room) (s : State) (args : Array Value) (own C : String) (index : Nat) (y : MethodName) (bytes : ByteArray) (maxL : Nat) (ret : Option FieldType) (hh : List (Nat × Nat × Nat × Nat)) (ws : List Cond) (rm : Room) (mc ms n : Nat) : Prop :=
  (rm.cells = mc ∧ rm.slots = ms ∧ rm.frames + 1 ≤ R.frames ∧ 8 + (maxL + 11) + rm.locals ≤ R.locals ∧ (∀ w ∈ ws, ∀ (a' : Array Value) (U : State), s.WarmedH U.vm → w.before a' U = true) ∧ Cond.codeWith y bytes maxL ret hh ∈ ws) ∧
  (Cond.codeWith y bytes maxL ret hh).before args s = true ∧ (Cond.initialized y.cls).before args s = true ∧ (y.cls ≠ "java/lang/invoke/MethodHandle" ∧ y.cls ≠ "java/lang/invoke/VarHandle") ∧
  (∀ sig, parseMethodDescriptor y.desc = some sig → n = sig.parameters.length) ∧ (Cond.methodLink own index y).before args s = true ∧ (Cond.instanceMethod y).before args s = true ∧ (Cond.selects C y y).before args s = true
theorem vx_cwVW {own C : String} {index maxL mc ms : Nat} {y : MethodName} {bytes : ByteArray} {ret : Option FieldType} {hh : List (Nat × Nat × Nat × Nat)} {Ts ws ws' : List Cond} {rm : Room} (n : Nat) (ht : ∀ w ∈ Ts, w.before args s = true) (hT : GoodIn Ts (wsV own index C y ws)) (hw : ws = Cond.codeWith y bytes maxL ret hh :: ws') (hrc : rm.cells = mc) (hrs : rm.slots = ms)
    (hd : y.cls = C ∧ y.cls ≠ "java/lang/invoke/MethodHandle" ∧ y.cls ≠ "java/lang/invoke/VarHandle" ∧ (parseMethodDescriptor y.desc).map (fun d => d.parameters.length) = some n) (hR : rm.frames + 1 ≤ R.frames ∧ 8 + (maxL + 11) + rm.locals ≤ R.locals) :
    vx_CVW R s args own C index y bytes maxL ret hh ws rm mc ms n := by
  obtain ⟨hC, hd⟩ := hd
  subst hC
  have ok : ∀ w ∈ wsV own index y.cls y ws, w.before args s = true := fun w h => ht w (hT w h).1
  have hG : GoodIn Ts ws := fun w h => hT w (by unfold wsV; exact List.mem_append_right _ h)
  have hc : Cond.codeWith y bytes maxL ret hh ∈ ws := by rw [hw]; exact List.mem_cons_self
  refine ⟨⟨hrc, hrs, hR.1, hR.2, pay_in ht hG, hc⟩, ht _ (hG _ hc).1, ok _ (by simp [wsV]), ⟨hd.1, hd.2.1⟩, fun sig h => ?_, ok _ (by simp [wsV]), ok _ (by simp [wsV]), ok _ (by simp [wsV])⟩
  have h2 := hd.2.2
  rw [h] at h2
  exact (Option.some.inj h2).symm
theorem vx_runVW {y : MethodName} {bytes cc : ByteArray} {maxL nL mc ms n index : Nat} {ret : Option FieldType} {hh : List (Nat × Nat × Nat × Nat)} {ws : List Cond} {rm : Room} {Pc : Array Value → State → Prop} {Qc : Array Value → State → Outcome → State → Prop} {free : Addr → Prop} {Ts : List Cond} {own C : String} {b : Addr} {As rest : List Value} {g : JFrame}
    (S : CallFix p m c cc nL s args Ts own) (hM : Met l y ws rm Pc Qc mc ms free) (cw : vx_CVW R s args own C index y bytes maxL ret hh ws rm mc ms n) (hp : PreV s H C b Pc As)
    (hg : g.method = m) (hn : As.length = n) (hsize : g.locals.size = nL) (hstack : g.stack = As.reverse ++ .ref b :: rest) (hW : 2 * g.monitorRoom + (rest.map fun v => v.category).sum ≤ 8) (hdg : decode cc g.pc = .ok (.invokevirtual index, 3)) (hf : cells + mc ≤ R.cells ∧ slots + ms ≤ R.slots) :
    va_Run p l e R s m args below meth c H locs cells slots mc ms g rest (Qc (Value.ref b :: As).toArray) free := by
  obtain ⟨⟨hrc, hrs, hfr, hlo, hws, hcw⟩, hcode, hini, hy, hlen, hl, hin, hse⟩ := cw
  have hK : Back l R p e below s args y 3 8 (PreOf R mc ms Pc) (PostOf Qc mc ms free) := va_backW (hh := hh) (bytes := bytes) (maxL := maxL) (ret := ret) hM hp.1 hrc hrs hfr hlo hws hcw (fun a' U hW => word_at hW (Or.inl (by first | rfl | simp [Cond.onTables, Cond.keeps, Cond.steady])) hini)
  obtain ⟨hx, hb, hml, ho, -⟩ := S
  obtain ⟨-, ⟨cellB, hcB, hoB, hclB⟩, hPc⟩ := hp
  intro T hT X
  obtain ⟨v, vm₁, ⟨U', l2, c2, s2⟩, hW₁, X', ⟨g', mk, t, L, e1, e2, hq, h1, hL, h2, h3⟩, st⟩ := vx_callVW X hx (C := C) (hh := hh) (bytes := bytes) (maxL := maxL) (ret := ret) ho hl hin hse hcode hy hK (by rw [hT]; exact hcB) hoB hclB hg (hsize.trans hml.symm) (argsL := As) (rest := rest) (fun sig h => hn.trans (hlen sig h)) hstack hW (by rw [hb]; exact hdg)
    (fun vm₁ hW₁ => ⟨hf.1, hf.2, hPc (T.setVm vm₁) hT hW₁⟩)
  dsimp only [Pt.U, Pt.locs, Pt.cells, Pt.slots] at X' e1 e2 h1 h2 h3 st
  subst h1; subst h2; subst h3
  exact ⟨v, (T.setVm vm₁).calling g' mk (Value.ref b :: As).toArray, t, U', L, hT, X', hL, e1, e2, hq, st⟩
section
variable {y : MethodName} {bytes cc : ByteArray} {maxL nL mc ms n index : Nat} {ret : Option FieldType} {ws : List Cond} {rm : Room} {Pc : Array Value → State → Prop} {Qc : Array Value → State → Outcome → State → Prop} {XC : String → State → State → Prop} {free : Addr → Prop} {Ts : List Cond} {own C : String} {b : Addr} {As rest : List Value} {g : JFrame}
theorem vx_runVX {hh : List (Nat × Nat × Nat × Nat)} (S : CallFix p m c cc nL s args Ts own) (hM : vx_Met l y ws rm Pc Qc XC mc ms free) (cw : vx_CVW R s args own C index y bytes maxL ret hh ws rm mc ms n) (hp : PreV s H C b Pc As)
    (hg : g.method = m) (hn : As.length = n) (hsize : g.locals.size = nL) (hstack : g.stack = As.reverse ++ .ref b :: rest) (hW : 2 * g.monitorRoom + (rest.map fun v => v.category).sum ≤ 8) (hdg : decode cc g.pc = .ok (.invokevirtual index, 3)) (hf : cells + mc ≤ R.cells ∧ slots + ms ≤ R.slots) :
    vx_Run p l e R s m args below meth c H locs cells slots mc ms g rest (Qc (Value.ref b :: As).toArray) XC free := by
  obtain ⟨⟨hrc, hrs, hfr, hlo, hws, hcw⟩, hcode, hini, hy, hlen, hl, hin, hse⟩ := cw
  have hK : vx_Back l R p e below s args y 3 8 (PreOf R mc ms Pc) (PostOf Qc mc ms free) (vx_Post XC mc ms free) := vx_backW (hh := hh) (bytes := bytes) (maxL := maxL) (ret := ret) hM hp.1 hrc hrs hfr hlo hws hcw (fun a' U hW => word_at hW (Or.inl (by first | rfl | simp [Cond.onTables, Cond.keeps, Cond.steady])) hini)
  obtain ⟨hx, hb, hml, ho, -⟩ := S
  obtain ⟨-, ⟨cellB, hcB, hoB, hclB⟩, hPc⟩ := hp
  intro T hT X
  rcases vx_callVX X hx (C := C) (hh := hh) (bytes := bytes) (maxL := maxL) (ret := ret) ho hl hin hse hcode hy hK (by rw [hT]; exact hcB) hoB hclB hg (hsize.trans hml.symm) (argsL := As) (rest := rest) (fun sig h => hn.trans (hlen sig h)) hstack hW (by rw [hb]; exact hdg)
    (fun vm₁ hW₁ => ⟨hf.1, hf.2, hPc (T.setVm vm₁) hT hW₁⟩) with ⟨v, vm₁, ⟨U', l2, c2, s2⟩, hW₁, X', ⟨g', mk, t, L, e1, e2, hq, h1, hL, h2, h3⟩, st⟩ | ⟨q, vm₁, ⟨U', l2, c2, s2⟩, hW₁, X', ⟨g', mk, t, L, E, ce, e1, e2, hq, hce, hcv, hcl, h1, hL, h2, h3⟩, st⟩
  · dsimp only [Pt.U, Pt.locs, Pt.cells, Pt.slots] at X' e1 e2 h1 h2 h3 st
    subst h1; subst h2; subst h3
    exact Or.inl ⟨v, (T.setVm vm₁).calling g' mk (Value.ref b :: As).toArray, t, U', L, hT, X', hL, e1, e2, hq, st⟩
  · dsimp only [Pt.U, Pt.locs, Pt.cells, Pt.slots] at X' e1 e2 h1 h2 h3 st hcl
    subst h1; subst h2; subst h3
    exact Or.inr ⟨q, (T.setVm vm₁).calling g' mk (Value.ref b :: As).toArray, t, U', L, E, ce, hT, X', hL, e1, e2, hq, hce, hcv, vx_cls hW₁ hcl, st⟩
theorem vx_runSX {hh : List (Nat × Nat × Nat × Nat)} (S : CallFix p m c cc nL s args Ts own) (hM : vx_Met l y ws rm Pc Qc XC mc ms free) (cw : vx_CSW R s args own index y bytes maxL ret hh ws rm mc ms n) (hp : PreS s H Pc As)
    (hg : g.method = m) (hn : As.length = n) (hsize : g.locals.size = nL) (hstack : g.stack = As.reverse ++ rest) (hW : 2 * g.monitorRoom + (rest.map fun v => v.category).sum ≤ 8) (hdg : decode cc g.pc = .ok (.invokestatic index, 3)) (hf : cells + mc ≤ R.cells ∧ slots + ms ≤ R.slots) :
    vx_Run p l e R s m args below meth c H locs cells slots mc ms g rest (Qc As.toArray) XC free := by
  obtain ⟨⟨hrc, hrs, hfr, hlo, hws, hcw⟩, hcode, hini, hy, hlen, hl, hstt⟩ := cw
  have hK : vx_Back l R p e below s args y 3 8 (PreOf R mc ms Pc) (PostOf Qc mc ms free) (vx_Post XC mc ms free) := vx_backW (hh := hh) (bytes := bytes) (maxL := maxL) (ret := ret) hM hp.1 hrc hrs hfr hlo hws hcw (fun a' U hW => word_at hW (Or.inl (by first | rfl | simp [Cond.onTables, Cond.keeps, Cond.steady])) hini)
  obtain ⟨hx, hb, hml, ho, -⟩ := S
  intro T hT X
  rcases vx_callSX X hx (hh := hh) (bytes := bytes) (maxL := maxL) (ret := ret) ho hl hstt hini hcode hy hK hg (hsize.trans hml.symm) (argsL := As) (rest := rest) (fun sig h => hn.trans (hlen sig h)) hstack hW (by rw [hb]; exact hdg)
    (fun vm₁ hW₁ => ⟨hf.1, hf.2, hp.2 (T.setVm vm₁) hT hW₁⟩) with ⟨v, vm₁, ⟨U', l2, c2, s2⟩, hW₁, X', ⟨g', mk, t, L, e1, e2, hq, h1, hL, h2, h3⟩, st⟩ | ⟨q, vm₁, ⟨U', l2, c2, s2⟩, hW₁, X', ⟨g', mk, t, L, E, ce, e1, e2, hq, hce, hcv, hcl, h1, hL, h2, h3⟩, st⟩
  · dsimp only [Pt.U, Pt.locs, Pt.cells, Pt.slots] at X' e1 e2 h1 h2 h3 st
    subst h1; subst h2; subst h3
    exact Or.inl ⟨v, (T.setVm vm₁).calling g' mk As.toArray, t, U', L, hT, X', hL, e1, e2, hq, st⟩
  · dsimp only [Pt.U, Pt.locs, Pt.cells, Pt.slots] at X' e1 e2 h1 h2 h3 st hcl
    subst h1; subst h2; subst h3
    exact Or.inr ⟨q, (T.setVm vm₁).calling g' mk As.toArray, t, U', L, E, ce, hT, X', hL, e1, e2, hq, hce, hcv, vx_cls hW₁ hcl, st⟩
end
end VXH
theorem vx_ofWH {l : Launch} {y : MethodName} {ws ws' : List Cond} {rm : Room} {Pc : Array Value → State → Prop} {Qc : Array Value → State → Outcome → State → Prop} {XC : String → State → State → Prop} {mc ms : Nat} {free : Addr → Prop} {cc : ByteArray} {maxL : Nat} {ret : Option FieldType} {hh : List (Nat × Nat × Nat × Nat)}
    (hy : plainName y.cls = true) (hw : ws = Cond.codeWith y cc maxL ret hh :: ws')
    (body : ∀ p e s m args below meth c s₁, BodyLoose p l y (headSpec ws rm) cc maxL ret e s m args below meth c s₁ → c.maxLocals = maxL → Pc args s →
      W p l e (headSpec ws rm).room s m args below meth c s.heap [] 0 0 (vx_MQ below Qc XC args s mc ms free) (entryFrame m args maxL)) : vx_Met l y ws rm Pc Qc XC mc ms free := by
  refine MetFree.of_bodyS (code := cc) (maxLocals := maxL) (ret := ret) hy ?_ ?_
  · intro args s m h hn
    obtain ⟨m9, meth, c, hn9, h1, h2, h3, h4, -, h5, h6, -⟩ := Cond.codeWith_spec (atoms_spec (ws := ws) h _ (by rw [hw]; exact List.mem_cons_self))
    cases hn.symm.trans hn9
    exact ⟨meth, c, h1, h2, h3, h4, h5, h6⟩
  · intro p e s m args below meth c s₁ B hml hP _
    have hh0 : s₁.heap = s.heap := by rw [B.state]; rfl
    obtain ⟨t, a1, o, b1, b2, b3⟩ := body p e s m args below meth c s₁ B hml hP s₁ hh0 (Stand.of_body B)
    exact ⟨t, o, a1, b1, b2, b3⟩
/-! ===== END ===== -/
end
section
/-! ===== BEGIN printed: names, fields, word lists, decode rows ===== -/
def RX0 : String := "TuneCatalogue$Links"
def TX0 : u_T := fun k => match k with
  | _ => ("TuneCatalogue$Links", "partners", "LTuneCatalogue$Row;", true)
def tyX0 : Nat → FieldType := fun k => match k with
  | _ => .object "TuneCatalogue$Row"
abbrev wsX00 : List Cond := u_ws RX0 TX0 1
theorem nmX0 : ∀ a, a < 1 → ∀ b, b < 1 → a ≠ b → (TX0 a).2.1 ≠ (TX0 b).2.1 := by decide +kernel
theorem tyX0_ok : ∀ k, k < 1 → parseFieldDescriptor (TX0 k).2.2.1 = some (tyX0 k) := by decide +kernel
abbrev cX0_init : ByteArray := prog_2_method_1_code
def yX0_init : MethodName := ⟨RX0, "<init>", "()V"⟩
abbrev cX0_admitTune : ByteArray := prog_2_method_2_code
def yX0_admitTune : MethodName := ⟨RX0, "admitTune", "()V"⟩
abbrev cX0_areLinked : ByteArray := prog_2_method_3_code
def yX0_areLinked : MethodName := ⟨RX0, "areLinked", "(II)Z"⟩
abbrev cX0_toggle : ByteArray := prog_2_method_4_code
def yX0_toggle : MethodName := ⟨RX0, "toggle", "(II)V"⟩
abbrev cX0_countFamilies : ByteArray := prog_2_method_5_code
def yX0_countFamilies : MethodName := ⟨RX0, "countFamilies", "()I"⟩
abbrev cX0_lowestOfFamily : ByteArray := prog_2_method_6_code
def yX0_lowestOfFamily : MethodName := ⟨RX0, "lowestOfFamily", "(I)I"⟩
abbrev cX0_withPartners : ByteArray := prog_2_method_7_code
def yX0_withPartners : MethodName := ⟨RX0, "withPartners", "(I)I"⟩
abbrev cX0_setOf : ByteArray := prog_2_method_8_code
def yX0_setOf : MethodName := ⟨RX0, "setOf", "(I)I"⟩
def RX1 : String := "TuneCatalogue$Matching"
def TX1 : u_T := fun k => match k with
  | 0 => ("TuneCatalogue$Matching", "hum", "LTuneCatalogue$Row;", true)
  | 1 => ("TuneCatalogue$Matching", "slip", "I", false)
  | 2 => ("TuneCatalogue$Matching", "ornament", "I", false)
  | 3 => ("TuneCatalogue$Matching", "repeat", "I", false)
  | _ => ("TuneCatalogue$Matching", "table", "[I", true)
def tyX1 : Nat → FieldType := fun k => match k with
  | 0 => .object "TuneCatalogue$Row"
  | 1 => .int
  | 2 => .int
  | 3 => .int
  | _ => .array .int
abbrev wsX10 : List Cond := u_ws RX1 TX1 5
theorem nmX1 : ∀ a, a < 5 → ∀ b, b < 5 → a ≠ b → (TX1 a).2.1 ≠ (TX1 b).2.1 := by decide +kernel
theorem tyX1_ok : ∀ k, k < 5 → parseFieldDescriptor (TX1 k).2.2.1 = some (tyX1 k) := by decide +kernel
abbrev cX1_init : ByteArray := prog_3_method_1_code
def yX1_init : MethodName := ⟨RX1, "<init>", "(LTuneCatalogue$Row;)V"⟩
abbrev cX1_cheapestByTable : ByteArray := prog_3_method_2_code
def yX1_cheapestByTable : MethodName := ⟨RX1, "cheapestByTable", "(LTuneCatalogue$Tune;)I"⟩
abbrev cX1_cheapestByTrying : ByteArray := prog_3_method_3_code
def yX1_cheapestByTrying : MethodName := ⟨RX1, "cheapestByTrying", "(LTuneCatalogue$Tune;)I"⟩
abbrev cX1_tableAt : ByteArray := prog_3_method_4_code
def yX1_tableAt : MethodName := ⟨RX1, "tableAt", "(II)I"⟩
abbrev cX1_setTableAt : ByteArray := prog_3_method_5_code
def yX1_setTableAt : MethodName := ⟨RX1, "setTableAt", "(III)V"⟩
abbrev cX1_cheapestTo : ByteArray := prog_3_method_6_code
def yX1_cheapestTo : MethodName := ⟨RX1, "cheapestTo", "(LTuneCatalogue$Tune;II)I"⟩
abbrev cX1_costBy : ByteArray := prog_3_method_7_code
def yX1_costBy : MethodName := ⟨RX1, "costBy", "(LTuneCatalogue$Tune;IIII)I"⟩
abbrev cX1_cheapestOnward : ByteArray := prog_3_method_8_code
def yX1_cheapestOnward : MethodName := ⟨RX1, "cheapestOnward", "(LTuneCatalogue$Tune;III)I"⟩
abbrev cX1_costOnwardBy : ByteArray := prog_3_method_9_code
def yX1_costOnwardBy : MethodName := ⟨RX1, "costOnwardBy", "(LTuneCatalogue$Tune;IIIII)I"⟩
abbrev cX1_costOfMove : ByteArray := prog_3_method_10_code
def yX1_costOfMove : MethodName := ⟨RX1, "costOfMove", "(LTuneCatalogue$Tune;IIII)I"⟩
abbrev cX1_cheaper : ByteArray := prog_3_method_11_code
def yX1_cheaper : MethodName := ⟨RX1, "cheaper", "(II)I"⟩
def RX2 : String := "TuneCatalogue$Row"
def TX2 : u_T := fun k => match k with
  | 0 => ("TuneCatalogue$Row", "numbers", "[I", true)
  | _ => ("TuneCatalogue$Row", "size", "I", false)
def tyX2 : Nat → FieldType := fun k => match k with
  | 0 => .array .int
  | _ => .int
abbrev wsX20 : List Cond := u_ws RX2 TX2 2
theorem nmX2 : ∀ a, a < 2 → ∀ b, b < 2 → a ≠ b → (TX2 a).2.1 ≠ (TX2 b).2.1 := by decide +kernel
theorem tyX2_ok : ∀ k, k < 2 → parseFieldDescriptor (TX2 k).2.2.1 = some (tyX2 k) := by decide +kernel
abbrev cX2_init : ByteArray := prog_4_method_1_code
def yX2_init : MethodName := ⟨RX2, "<init>", "(I)V"⟩
abbrev cX2_size : ByteArray := prog_4_method_2_code
def yX2_size : MethodName := ⟨RX2, "size", "()I"⟩
abbrev cX2_isFull : ByteArray := prog_4_method_3_code
def yX2_isFull : MethodName := ⟨RX2, "isFull", "()Z"⟩
abbrev cX2_at : ByteArray := prog_4_method_4_code
def yX2_at : MethodName := ⟨RX2, "at", "(I)I"⟩
abbrev cX2_put : ByteArray := prog_4_method_5_code
def yX2_put : MethodName := ⟨RX2, "put", "(II)V"⟩
abbrev cX2_append : ByteArray := prog_4_method_6_code
def yX2_append : MethodName := ⟨RX2, "append", "(I)V"⟩
abbrev cX2_clear : ByteArray := prog_4_method_7_code
def yX2_clear : MethodName := ⟨RX2, "clear", "()V"⟩
abbrev cX2_stepFrom : ByteArray := prog_4_method_8_code
def yX2_stepFrom : MethodName := ⟨RX2, "stepFrom", "(I)I"⟩
abbrev cX2_stepsInCommon : ByteArray := prog_4_method_9_code
def yX2_stepsInCommon : MethodName := ⟨RX2, "stepsInCommon", "(ILTuneCatalogue$Row;I)I"⟩
abbrev cX2_beginsWithContourOf : ByteArray := prog_4_method_10_code
def yX2_beginsWithContourOf : MethodName := ⟨RX2, "beginsWithContourOf", "(LTuneCatalogue$Row;)Z"⟩
abbrev cX2_direction : ByteArray := prog_4_method_11_code
def yX2_direction : MethodName := ⟨RX2, "direction", "(I)I"⟩
def RX3 : String := "TuneCatalogue$Tune"
def TX3 : u_T := fun k => match k with
  | 0 => ("TuneCatalogue$Tune", "pitches", "LTuneCatalogue$Row;", true)
  | 1 => ("TuneCatalogue$Tune", "lengths", "LTuneCatalogue$Row;", true)
  | _ => ("TuneCatalogue$Tune", "retired", "Z", false)
def tyX3 : Nat → FieldType := fun k => match k with
  | 0 => .object "TuneCatalogue$Row"
  | 1 => .object "TuneCatalogue$Row"
  | _ => .boolean
abbrev wsX30 : List Cond := u_ws RX3 TX3 3
theorem nmX3 : ∀ a, a < 3 → ∀ b, b < 3 → a ≠ b → (TX3 a).2.1 ≠ (TX3 b).2.1 := by decide +kernel
theorem tyX3_ok : ∀ k, k < 3 → parseFieldDescriptor (TX3 k).2.2.1 = some (tyX3 k) := by decide +kernel
abbrev cX3_init : ByteArray := prog_5_method_1_code
def yX3_init : MethodName := ⟨RX3, "<init>", "()V"⟩
abbrev cX3_size : ByteArray := prog_5_method_2_code
def yX3_size : MethodName := ⟨RX3, "size", "()I"⟩
abbrev cX3_append : ByteArray := prog_5_method_3_code
def yX3_append : MethodName := ⟨RX3, "append", "(II)V"⟩
def RX4 : String := "TuneCatalogue"
def TX4 : u_T := fun k => match k with
  | 0 => ("TuneCatalogue", "entries", "[LTuneCatalogue$Tune;", true)
  | 1 => ("TuneCatalogue", "entered", "I", false)
  | 2 => ("TuneCatalogue", "humRow", "LTuneCatalogue$Row;", true)
  | 3 => ("TuneCatalogue", "matching", "LTuneCatalogue$Matching;", true)
  | 4 => ("TuneCatalogue", "links", "LTuneCatalogue$Links;", true)
  | 5 => ("TuneCatalogue", "priceRow", "LTuneCatalogue$Row;", true)
  | _ => ("TuneCatalogue", "placeRow", "LTuneCatalogue$Row;", true)
def tyX4 : Nat → FieldType := fun k => match k with
  | 0 => .array (.object "TuneCatalogue$Tune")
  | 1 => .int
  | 2 => .object "TuneCatalogue$Row"
  | 3 => .object "TuneCatalogue$Matching"
  | 4 => .object "TuneCatalogue$Links"
  | 5 => .object "TuneCatalogue$Row"
  | _ => .object "TuneCatalogue$Row"
abbrev wsX40 : List Cond := u_ws RX4 TX4 7
theorem nmX4 : ∀ a, a < 7 → ∀ b, b < 7 → a ≠ b → (TX4 a).2.1 ≠ (TX4 b).2.1 := by decide +kernel
theorem tyX4_ok : ∀ k, k < 7 → parseFieldDescriptor (TX4 k).2.2.1 = some (tyX4 k) := by decide +kernel
abbrev cX4_init : ByteArray := prog_1_method_1_code
def yX4_init : MethodName := ⟨RX4, "<init>", "()V"⟩
abbrev cX4_add : ByteArray := prog_1_method_2_code
def yX4_add : MethodName := ⟨RX4, "add", "(II)I"⟩
abbrev cX4_note : ByteArray := prog_1_method_3_code
def yX4_note : MethodName := ⟨RX4, "note", "(III)I"⟩
abbrev cX4_correct : ByteArray := prog_1_method_4_code
def yX4_correct : MethodName := ⟨RX4, "correct", "(IIII)I"⟩
abbrev cX4_shift : ByteArray := prog_1_method_5_code
def yX4_shift : MethodName := ⟨RX4, "shift", "(II)V"⟩
abbrev cX4_retire : ByteArray := prog_1_method_6_code
def yX4_retire : MethodName := ⟨RX4, "retire", "(I)I"⟩
abbrev cX4_tunes : ByteArray := prog_1_method_7_code
def yX4_tunes : MethodName := ⟨RX4, "tunes", "()I"⟩
abbrev cX4_notes : ByteArray := prog_1_method_8_code
def yX4_notes : MethodName := ⟨RX4, "notes", "(I)I"⟩
abbrev cX4_step : ByteArray := prog_1_method_9_code
def yX4_step : MethodName := ⟨RX4, "step", "(II)I"⟩
abbrev cX4_shared : ByteArray := prog_1_method_10_code
def yX4_shared : MethodName := ⟨RX4, "shared", "(II)I"⟩
abbrev cX4_hum : ByteArray := prog_1_method_11_code
def yX4_hum : MethodName := ⟨RX4, "hum", "(I)I"⟩
abbrev cX4_hush : ByteArray := prog_1_method_12_code
def yX4_hush : MethodName := ⟨RX4, "hush", "()I"⟩
abbrev cX4_hummed : ByteArray := prog_1_method_13_code
def yX4_hummed : MethodName := ⟨RX4, "hummed", "()I"⟩
abbrev cX4_setCosts : ByteArray := prog_1_method_14_code
def yX4_setCosts : MethodName := ⟨RX4, "setCosts", "(III)V"⟩
abbrev cX4_cost : ByteArray := prog_1_method_15_code
def yX4_cost : MethodName := ⟨RX4, "cost", "(I)I"⟩
abbrev cX4_costByAll : ByteArray := prog_1_method_16_code
def yX4_costByAll : MethodName := ⟨RX4, "costByAll", "(I)I"⟩
abbrev cX4_matches : ByteArray := prog_1_method_17_code
def yX4_matches : MethodName := ⟨RX4, "matches", "()I"⟩
abbrev cX4_found : ByteArray := prog_1_method_18_code
def yX4_found : MethodName := ⟨RX4, "found", "(I)I"⟩
abbrev cX4_likeContour : ByteArray := prog_1_method_19_code
def yX4_likeContour : MethodName := ⟨RX4, "likeContour", "()I"⟩
abbrev cX4_places : ByteArray := prog_1_method_20_code
def yX4_places : MethodName := ⟨RX4, "places", "(I)I"⟩
abbrev cX4_place : ByteArray := prog_1_method_21_code
def yX4_place : MethodName := ⟨RX4, "place", "(II)I"⟩
abbrev cX4_link : ByteArray := prog_1_method_22_code
def yX4_link : MethodName := ⟨RX4, "link", "(II)I"⟩
abbrev cX4_cut : ByteArray := prog_1_method_23_code
def yX4_cut : MethodName := ⟨RX4, "cut", "(II)I"⟩
abbrev cX4_family : ByteArray := prog_1_method_24_code
def yX4_family : MethodName := ⟨RX4, "family", "(I)I"⟩
abbrev cX4_families : ByteArray := prog_1_method_25_code
def yX4_families : MethodName := ⟨RX4, "families", "()I"⟩
abbrev cX4_isWithin : ByteArray := prog_1_method_26_code
def yX4_isWithin : MethodName := ⟨RX4, "isWithin", "(III)Z"⟩
abbrev cX4_refuseUnlessWithin : ByteArray := prog_1_method_27_code
def yX4_refuseUnlessWithin : MethodName := ⟨RX4, "refuseUnlessWithin", "(III)V"⟩
abbrev cX4_refuseUnlessNote : ByteArray := prog_1_method_28_code
def yX4_refuseUnlessNote : MethodName := ⟨RX4, "refuseUnlessNote", "(II)V"⟩
abbrev cX4_refuseUnlessRunOfHum : ByteArray := prog_1_method_29_code
def yX4_refuseUnlessRunOfHum : MethodName := ⟨RX4, "refuseUnlessRunOfHum", "(I)V"⟩
abbrev cX4_refuseUnlessEntered : ByteArray := prog_1_method_30_code
def yX4_refuseUnlessEntered : MethodName := ⟨RX4, "refuseUnlessEntered", "(II)V"⟩
abbrev cX4_enteredOrNull : ByteArray := prog_1_method_31_code
def yX4_enteredOrNull : MethodName := ⟨RX4, "enteredOrNull", "(I)LTuneCatalogue$Tune;"⟩
abbrev cX4_knownOrNull : ByteArray := prog_1_method_32_code
def yX4_knownOrNull : MethodName := ⟨RX4, "knownOrNull", "(I)LTuneCatalogue$Tune;"⟩
abbrev cX4_enteredOrThrow : ByteArray := prog_1_method_33_code
def yX4_enteredOrThrow : MethodName := ⟨RX4, "enteredOrThrow", "(I)LTuneCatalogue$Tune;"⟩
abbrev cX4_knownOrThrow : ByteArray := prog_1_method_34_code
def yX4_knownOrThrow : MethodName := ⟨RX4, "knownOrThrow", "(I)LTuneCatalogue$Tune;"⟩
abbrev cX4_priceTunes : ByteArray := prog_1_method_35_code
def yX4_priceTunes : MethodName := ⟨RX4, "priceTunes", "()V"⟩
abbrev cX4_rankByPrice : ByteArray := prog_1_method_36_code
def yX4_rankByPrice : MethodName := ⟨RX4, "rankByPrice", "(I)I"⟩
abbrev cX4_collectPlaces : ByteArray := prog_1_method_37_code
def yX4_collectPlaces : MethodName := ⟨RX4, "collectPlaces", "(I)V"⟩
abbrev cX4_collectPlacesOf : ByteArray := prog_1_method_38_code
def yX4_collectPlacesOf : MethodName := ⟨RX4, "collectPlacesOf", "(ILTuneCatalogue$Row;I)V"⟩
def RX5 : String := "TuneCatalogueModel"
def TX5 : u_T := fun k => match k with
  | 0 => ("TuneCatalogueModel", "thrown", "I", false)
  | 1 => ("TuneCatalogueModel", "tunes", "I", false)
  | 2 => ("TuneCatalogueModel", "pitches", "[I", true)
  | 3 => ("TuneCatalogueModel", "lengths", "[I", true)
  | 4 => ("TuneCatalogueModel", "sizes", "[I", true)
  | 5 => ("TuneCatalogueModel", "areRetired", "[Z", true)
  | 6 => ("TuneCatalogueModel", "hum", "[I", true)
  | 7 => ("TuneCatalogueModel", "hummed", "I", false)
  | 8 => ("TuneCatalogueModel", "slip", "I", false)
  | 9 => ("TuneCatalogueModel", "ornament", "I", false)
  | 10 => ("TuneCatalogueModel", "repeat", "I", false)
  | 11 => ("TuneCatalogueModel", "costs", "[I", true)
  | _ => ("TuneCatalogueModel", "links", "[I", true)
def tyX5 : Nat → FieldType := fun k => match k with
  | 0 => .int
  | 1 => .int
  | 2 => .array .int
  | 3 => .array .int
  | 4 => .array .int
  | 5 => .array .boolean
  | 6 => .array .int
  | 7 => .int
  | 8 => .int
  | 9 => .int
  | 10 => .int
  | 11 => .array .int
  | _ => .array .int
abbrev wsX50 : List Cond := u_ws RX5 TX5 13
theorem nmX5 : ∀ a, a < 13 → ∀ b, b < 13 → a ≠ b → (TX5 a).2.1 ≠ (TX5 b).2.1 := by decide +kernel
theorem tyX5_ok : ∀ k, k < 13 → parseFieldDescriptor (TX5 k).2.2.1 = some (tyX5 k) := by decide +kernel
abbrev cX5_init : ByteArray := prog_7_method_1_code
def yX5_init : MethodName := ⟨RX5, "<init>", "()V"⟩
abbrev cX5_thrown : ByteArray := prog_7_method_2_code
def yX5_thrown : MethodName := ⟨RX5, "thrown", "()I"⟩
abbrev cX5_holds : ByteArray := prog_7_method_3_code
def yX5_holds : MethodName := ⟨RX5, "holds", "(I)Z"⟩
abbrev cX5_in : ByteArray := prog_7_method_4_code
def yX5_in : MethodName := ⟨RX5, "in", "(III)Z"⟩
abbrev cX5_isTune : ByteArray := prog_7_method_5_code
def yX5_isTune : MethodName := ⟨RX5, "isTune", "(I)Z"⟩
abbrev cX5_isKnown : ByteArray := prog_7_method_6_code
def yX5_isKnown : MethodName := ⟨RX5, "isKnown", "(I)Z"⟩
abbrev cX5_isNote : ByteArray := prog_7_method_7_code
def yX5_isNote : MethodName := ⟨RX5, "isNote", "(II)Z"⟩
abbrev cX5_sets : ByteArray := prog_7_method_8_code
def yX5_sets : MethodName := ⟨RX5, "sets", "(IIII)V"⟩
abbrev cX5_add : ByteArray := prog_7_method_9_code
def yX5_add : MethodName := ⟨RX5, "add", "(II)I"⟩
abbrev cX5_note : ByteArray := prog_7_method_10_code
def yX5_note : MethodName := ⟨RX5, "note", "(III)I"⟩
abbrev cX5_correct : ByteArray := prog_7_method_11_code
def yX5_correct : MethodName := ⟨RX5, "correct", "(IIII)I"⟩
abbrev cX5_mayShift : ByteArray := prog_7_method_12_code
def yX5_mayShift : MethodName := ⟨RX5, "mayShift", "(II)Z"⟩
abbrev cX5_shift : ByteArray := prog_7_method_13_code
def yX5_shift : MethodName := ⟨RX5, "shift", "(II)V"⟩
abbrev cX5_retire : ByteArray := prog_7_method_14_code
def yX5_retire : MethodName := ⟨RX5, "retire", "(I)I"⟩
abbrev cX5_tunes : ByteArray := prog_7_method_15_code
def yX5_tunes : MethodName := ⟨RX5, "tunes", "()I"⟩
abbrev cX5_notes : ByteArray := prog_7_method_16_code
def yX5_notes : MethodName := ⟨RX5, "notes", "(I)I"⟩
abbrev cX5_stepOf : ByteArray := prog_7_method_17_code
def yX5_stepOf : MethodName := ⟨RX5, "stepOf", "(II)I"⟩
abbrev cX5_step : ByteArray := prog_7_method_18_code
def yX5_step : MethodName := ⟨RX5, "step", "(II)I"⟩
abbrev cX5_alike : ByteArray := prog_7_method_19_code
def yX5_alike : MethodName := ⟨RX5, "alike", "(IIII)I"⟩
abbrev cX5_shared : ByteArray := prog_7_method_20_code
def yX5_shared : MethodName := ⟨RX5, "shared", "(II)I"⟩
abbrev cX5_hum : ByteArray := prog_7_method_21_code
def yX5_hum : MethodName := ⟨RX5, "hum", "(I)I"⟩
abbrev cX5_hush : ByteArray := prog_7_method_22_code
def yX5_hush : MethodName := ⟨RX5, "hush", "()I"⟩
abbrev cX5_hummed : ByteArray := prog_7_method_23_code
def yX5_hummed : MethodName := ⟨RX5, "hummed", "()I"⟩
abbrev cX5_setCosts : ByteArray := prog_7_method_24_code
def yX5_setCosts : MethodName := ⟨RX5, "setCosts", "(III)V"⟩
abbrev cX5_costOfNotes : ByteArray := prog_7_method_25_code
def yX5_costOfNotes : MethodName := ⟨RX5, "costOfNotes", "(III)I"⟩
abbrev cX5_costOfPitches : ByteArray := prog_7_method_26_code
def yX5_costOfPitches : MethodName := ⟨RX5, "costOfPitches", "(II)I"⟩
abbrev cX5_laid : ByteArray := prog_7_method_27_code
def yX5_laid : MethodName := ⟨RX5, "laid", "(IIIII)I"⟩
abbrev cX5_least : ByteArray := prog_7_method_28_code
def yX5_least : MethodName := ⟨RX5, "least", "(II)I"⟩
abbrev cX5_costOf : ByteArray := prog_7_method_29_code
def yX5_costOf : MethodName := ⟨RX5, "costOf", "(I)I"⟩
abbrev cX5_cost : ByteArray := prog_7_method_30_code
def yX5_cost : MethodName := ⟨RX5, "cost", "(I)I"⟩
abbrev cX5_costByAll : ByteArray := prog_7_method_31_code
def yX5_costByAll : MethodName := ⟨RX5, "costByAll", "(I)I"⟩
abbrev cX5_many : ByteArray := prog_7_method_32_code
def yX5_many : MethodName := ⟨RX5, "many", "()I"⟩
abbrev cX5_matches : ByteArray := prog_7_method_33_code
def yX5_matches : MethodName := ⟨RX5, "matches", "()I"⟩
abbrev cX5_rank : ByteArray := prog_7_method_34_code
def yX5_rank : MethodName := ⟨RX5, "rank", "(I)I"⟩
abbrev cX5_found : ByteArray := prog_7_method_35_code
def yX5_found : MethodName := ⟨RX5, "found", "(I)I"⟩
abbrev cX5_sign : ByteArray := prog_7_method_36_code
def yX5_sign : MethodName := ⟨RX5, "sign", "(I)I"⟩
abbrev cX5_isLike : ByteArray := prog_7_method_37_code
def yX5_isLike : MethodName := ⟨RX5, "isLike", "(I)Z"⟩
abbrev cX5_likeContour : ByteArray := prog_7_method_38_code
def yX5_likeContour : MethodName := ⟨RX5, "likeContour", "()I"⟩
abbrev cX5_isRun : ByteArray := prog_7_method_39_code
def yX5_isRun : MethodName := ⟨RX5, "isRun", "(III)Z"⟩
abbrev cX5_errorOfRun : ByteArray := prog_7_method_40_code
def yX5_errorOfRun : MethodName := ⟨RX5, "errorOfRun", "(I)I"⟩
abbrev cX5_placesOf : ByteArray := prog_7_method_41_code
def yX5_placesOf : MethodName := ⟨RX5, "placesOf", "(I)I"⟩
abbrev cX5_places : ByteArray := prog_7_method_42_code
def yX5_places : MethodName := ⟨RX5, "places", "(I)I"⟩
abbrev cX5_place : ByteArray := prog_7_method_43_code
def yX5_place : MethodName := ⟨RX5, "place", "(II)I"⟩
abbrev cX5_familyOf : ByteArray := prog_7_method_44_code
def yX5_familyOf : MethodName := ⟨RX5, "familyOf", "(I)I"⟩
abbrev cX5_lowest : ByteArray := prog_7_method_45_code
def yX5_lowest : MethodName := ⟨RX5, "lowest", "(I)I"⟩
abbrev cX5_familiesOf : ByteArray := prog_7_method_46_code
def yX5_familiesOf : MethodName := ⟨RX5, "familiesOf", "()I"⟩
abbrev cX5_areLinked : ByteArray := prog_7_method_47_code
def yX5_areLinked : MethodName := ⟨RX5, "areLinked", "(II)Z"⟩
abbrev cX5_link : ByteArray := prog_7_method_48_code
def yX5_link : MethodName := ⟨RX5, "link", "(II)I"⟩
abbrev cX5_cut : ByteArray := prog_7_method_49_code
def yX5_cut : MethodName := ⟨RX5, "cut", "(II)I"⟩
abbrev cX5_family : ByteArray := prog_7_method_50_code
def yX5_family : MethodName := ⟨RX5, "family", "(I)I"⟩
abbrev cX5_families : ByteArray := prog_7_method_51_code
def yX5_families : MethodName := ⟨RX5, "families", "()I"⟩
def RJ9 : String := "java/lang/Math"
def TJ9 : u_T := fun k => match k with
  | _ => ("", "", "", false)
def tyJ9 : Nat → FieldType := fun k => match k with
  | _ => .int
abbrev wsJ90 : List Cond := u_ws RJ9 TJ9 0
theorem nmJ9 : ∀ a, a < 0 → ∀ b, b < 0 → a ≠ b → (TJ9 a).2.1 ≠ (TJ9 b).2.1 := by decide +kernel
theorem tyJ9_ok : ∀ k, k < 0 → parseFieldDescriptor (TJ9 k).2.2.1 = some (tyJ9 k) := by decide +kernel
abbrev cJ9_abs_0f7a4 : ByteArray := prog_12_method_59_code
def yJ9_abs_0f7a4 : MethodName := ⟨RJ9, "abs", "(I)I"⟩
abbrev cJ9_max_7cf53 : ByteArray := prog_12_method_65_code
def yJ9_max_7cf53 : MethodName := ⟨RJ9, "max", "(II)I"⟩
abbrev cJ9_min_7cf53 : ByteArray := prog_12_method_69_code
def yJ9_min_7cf53 : MethodName := ⟨RJ9, "min", "(II)I"⟩
def RJ0 : String := "java/lang/String"
def TJ0 : u_T := fun k => match k with
  | _ => ("", "", "", false)
def tyJ0 : Nat → FieldType := fun k => match k with
  | _ => .int
abbrev wsJ00 : List Cond := u_ws RJ0 TJ0 0
theorem nmJ0 : ∀ a, a < 0 → ∀ b, b < 0 → a ≠ b → (TJ0 a).2.1 ≠ (TJ0 b).2.1 := by decide +kernel
theorem tyJ0_ok : ∀ k, k < 0 → parseFieldDescriptor (TJ0 k).2.2.1 = some (tyJ0 k) := by decide +kernel
def RL : String := "TuneCatalogueLaw"
abbrev cL_add : ByteArray := method_3_code
def yL_add : MethodName := ⟨RL, "add", "(LTuneCatalogue;II[J)I"⟩
abbrev cL_note : ByteArray := method_4_code
def yL_note : MethodName := ⟨RL, "note", "(LTuneCatalogue;III[J)I"⟩
abbrev cL_correct : ByteArray := method_5_code
def yL_correct : MethodName := ⟨RL, "correct", "(LTuneCatalogue;IIII[J)I"⟩
abbrev cL_shift : ByteArray := method_6_code
def yL_shift : MethodName := ⟨RL, "shift", "(LTuneCatalogue;II)I"⟩
abbrev cL_retire : ByteArray := method_7_code
def yL_retire : MethodName := ⟨RL, "retire", "(LTuneCatalogue;I[J)I"⟩
abbrev cL_notes : ByteArray := method_8_code
def yL_notes : MethodName := ⟨RL, "notes", "(LTuneCatalogue;I[J)I"⟩
abbrev cL_step : ByteArray := method_9_code
def yL_step : MethodName := ⟨RL, "step", "(LTuneCatalogue;II[J)I"⟩
abbrev cL_shared : ByteArray := method_10_code
def yL_shared : MethodName := ⟨RL, "shared", "(LTuneCatalogue;II[J)I"⟩
abbrev cL_hum : ByteArray := method_11_code
def yL_hum : MethodName := ⟨RL, "hum", "(LTuneCatalogue;I[J)I"⟩
abbrev cL_setCosts : ByteArray := method_12_code
def yL_setCosts : MethodName := ⟨RL, "setCosts", "(LTuneCatalogue;III)I"⟩
abbrev cL_cost : ByteArray := method_13_code
def yL_cost : MethodName := ⟨RL, "cost", "(LTuneCatalogue;I[J)I"⟩
abbrev cL_costByAll : ByteArray := method_14_code
def yL_costByAll : MethodName := ⟨RL, "costByAll", "(LTuneCatalogue;I[J)I"⟩
abbrev cL_found : ByteArray := method_15_code
def yL_found : MethodName := ⟨RL, "found", "(LTuneCatalogue;I[J)I"⟩
abbrev cL_places : ByteArray := method_16_code
def yL_places : MethodName := ⟨RL, "places", "(LTuneCatalogue;I[J)I"⟩
abbrev cL_place : ByteArray := method_17_code
def yL_place : MethodName := ⟨RL, "place", "(LTuneCatalogue;II[J)I"⟩
abbrev cL_link : ByteArray := method_18_code
def yL_link : MethodName := ⟨RL, "link", "(LTuneCatalogue;II[J)I"⟩
abbrev cL_cut : ByteArray := method_19_code
def yL_cut : MethodName := ⟨RL, "cut", "(LTuneCatalogue;II[J)I"⟩
abbrev cL_family : ByteArray := method_20_code
def yL_family : MethodName := ⟨RL, "family", "(LTuneCatalogue;I[J)I"⟩
abbrev cL_law : ByteArray := code
def yL_law : MethodName := ⟨RL, "law", "([I)Z"⟩
def wsX2_init : List Cond := .code yX2_init cX2_init 2 none :: ([.methodLink RX2 1 objectInit, .instanceMethod objectInit, .code objectInit ⟨#[0xb1]⟩ 1 none, .methodLink RX2 7 Lib.Math.max.name, .static Lib.Math.max.name, .initialized "java/lang/Math", .code Lib.Math.max.name Lib.Math.max.code 2 (some .int), .arrayClass .int, .fieldLink RX2 13 "TuneCatalogue$Row" "numbers" "[I"] ++ wsX20)
def wsX0_init : List Cond := .code yX0_init cX0_init 1 none :: ([.methodLink RX0 3 objectInit, .instanceMethod objectInit, .code objectInit ⟨#[0xb1]⟩ 1 none, .classLink RX0 9 RX2, .instantiable RX2 2, .initialized RX2, .fieldLink RX0 14 "TuneCatalogue$Links" "partners" "LTuneCatalogue$Row;", .methodLink RX0 11 yX2_init, .instanceMethod yX2_init, .code yX2_init cX2_init 2 none, .methodLink RX2 1 objectInit, .methodLink RX2 7 Lib.Math.max.name, .static Lib.Math.max.name, .initialized "java/lang/Math", .code Lib.Math.max.name Lib.Math.max.code 2 (some .int), .arrayClass .int, .fieldLink RX2 13 "TuneCatalogue$Row" "numbers" "[I"] ++ wsX20 ++ wsX00)
def wsX2_append : List Cond := .code yX2_append cX2_append 2 none :: ([.fieldLink RX2 19 "TuneCatalogue$Row" "size" "I", .fieldLink RX2 13 "TuneCatalogue$Row" "numbers" "[I"] ++ wsX20)
def wsX0_admitTune : List Cond := .code yX0_admitTune cX0_admitTune 1 none :: ([.fieldLink RX0 14 "TuneCatalogue$Links" "partners" "LTuneCatalogue$Row;", .methodLink RX0 20 yX2_append, .instanceMethod yX2_append, .selects RX2 yX2_append yX2_append, .initialized RX2, .code yX2_append cX2_append 2 none, .fieldLink RX2 19 "TuneCatalogue$Row" "size" "I", .fieldLink RX2 13 "TuneCatalogue$Row" "numbers" "[I"] ++ wsX00 ++ wsX20)
def wsX2_at : List Cond := .code yX2_at cX2_at 2 (some .int) :: ([.fieldLink RX2 19 "TuneCatalogue$Row" "size" "I", .fieldLink RX2 13 "TuneCatalogue$Row" "numbers" "[I"] ++ wsX20)
def wsX0_setOf : List Cond := .code yX0_setOf cX0_setOf 1 (some .int) :: ([])
def wsX0_areLinked : List Cond := .code yX0_areLinked cX0_areLinked 3 (some .boolean) :: ([.fieldLink RX0 14 "TuneCatalogue$Links" "partners" "LTuneCatalogue$Row;", .methodLink RX0 23 yX2_at, .instanceMethod yX2_at, .selects RX2 yX2_at yX2_at, .initialized RX2, .code yX2_at cX2_at 2 (some .int), .fieldLink RX2 19 "TuneCatalogue$Row" "size" "I", .fieldLink RX2 13 "TuneCatalogue$Row" "numbers" "[I", .methodLink RX0 27 yX0_setOf, .static yX0_setOf, .initialized RX0, .code yX0_setOf cX0_setOf 1 (some .int)] ++ wsX00 ++ wsX20)
def wsX2_put : List Cond := .code yX2_put cX2_put 3 none :: ([.fieldLink RX2 19 "TuneCatalogue$Row" "size" "I", .fieldLink RX2 13 "TuneCatalogue$Row" "numbers" "[I"] ++ wsX20)
def wsX0_toggle : List Cond := .code yX0_toggle cX0_toggle 3 none :: ([.fieldLink RX0 14 "TuneCatalogue$Links" "partners" "LTuneCatalogue$Row;", .methodLink RX0 23 yX2_at, .instanceMethod yX2_at, .selects RX2 yX2_at yX2_at, .initialized RX2, .code yX2_at cX2_at 2 (some .int), .fieldLink RX2 19 "TuneCatalogue$Row" "size" "I", .fieldLink RX2 13 "TuneCatalogue$Row" "numbers" "[I", .methodLink RX0 27 yX0_setOf, .static yX0_setOf, .initialized RX0, .code yX0_setOf cX0_setOf 1 (some .int), .methodLink RX0 30 yX2_put, .instanceMethod yX2_put, .selects RX2 yX2_put yX2_put, .code yX2_put cX2_put 3 none] ++ wsX00 ++ wsX20)
def wsX2_size : List Cond := .code yX2_size cX2_size 1 (some .int) :: ([.fieldLink RX2 19 "TuneCatalogue$Row" "size" "I"] ++ wsX20)
def wsX0_withPartners : List Cond := .code yX0_withPartners cX0_withPartners 4 (some .int) :: ([.fieldLink RX0 14 "TuneCatalogue$Links" "partners" "LTuneCatalogue$Row;", .methodLink RX0 34 yX2_size, .instanceMethod yX2_size, .selects RX2 yX2_size yX2_size, .initialized RX2, .code yX2_size cX2_size 1 (some .int), .fieldLink RX2 19 "TuneCatalogue$Row" "size" "I", .methodLink RX0 27 yX0_setOf, .static yX0_setOf, .initialized RX0, .code yX0_setOf cX0_setOf 1 (some .int), .methodLink RX0 23 yX2_at, .instanceMethod yX2_at, .selects RX2 yX2_at yX2_at, .code yX2_at cX2_at 2 (some .int), .fieldLink RX2 13 "TuneCatalogue$Row" "numbers" "[I"] ++ wsX00 ++ wsX20)
def wsX0_lowestOfFamily : List Cond := .code yX0_lowestOfFamily cX0_lowestOfFamily 4 (some .int) :: ([.fieldLink RX0 14 "TuneCatalogue$Links" "partners" "LTuneCatalogue$Row;", .methodLink RX0 27 yX0_setOf, .static yX0_setOf, .initialized RX0, .code yX0_setOf cX0_setOf 1 (some .int), .methodLink RX0 34 yX2_size, .instanceMethod yX2_size, .selects RX2 yX2_size yX2_size, .initialized RX2, .code yX2_size cX2_size 1 (some .int), .fieldLink RX2 19 "TuneCatalogue$Row" "size" "I", .methodLink RX0 41 yX0_withPartners, .instanceMethod yX0_withPartners, .selects RX0 yX0_withPartners yX0_withPartners, .code yX0_withPartners cX0_withPartners 4 (some .int), .methodLink RX0 23 yX2_at, .instanceMethod yX2_at, .selects RX2 yX2_at yX2_at, .code yX2_at cX2_at 2 (some .int), .fieldLink RX2 13 "TuneCatalogue$Row" "numbers" "[I"] ++ wsX00 ++ wsX20)
def wsX0_countFamilies : List Cond := .code yX0_countFamilies cX0_countFamilies 3 (some .int) :: ([.fieldLink RX0 14 "TuneCatalogue$Links" "partners" "LTuneCatalogue$Row;", .methodLink RX0 34 yX2_size, .instanceMethod yX2_size, .selects RX2 yX2_size yX2_size, .initialized RX2, .code yX2_size cX2_size 1 (some .int), .fieldLink RX2 19 "TuneCatalogue$Row" "size" "I", .methodLink RX0 38 yX0_lowestOfFamily, .instanceMethod yX0_lowestOfFamily, .selects RX0 yX0_lowestOfFamily yX0_lowestOfFamily, .initialized RX0, .code yX0_lowestOfFamily cX0_lowestOfFamily 4 (some .int), .methodLink RX0 27 yX0_setOf, .static yX0_setOf, .code yX0_setOf cX0_setOf 1 (some .int), .methodLink RX0 41 yX0_withPartners, .instanceMethod yX0_withPartners, .selects RX0 yX0_withPartners yX0_withPartners, .code yX0_withPartners cX0_withPartners 4 (some .int), .methodLink RX0 23 yX2_at, .instanceMethod yX2_at, .selects RX2 yX2_at yX2_at, .code yX2_at cX2_at 2 (some .int), .fieldLink RX2 13 "TuneCatalogue$Row" "numbers" "[I"] ++ wsX00 ++ wsX20)
def wsX1_init : List Cond := .code yX1_init cX1_init 2 none :: ([.methodLink RX1 3 objectInit, .instanceMethod objectInit, .code objectInit ⟨#[0xb1]⟩ 1 none, .fieldLink RX1 9 "TuneCatalogue$Matching" "slip" "I", .fieldLink RX1 15 "TuneCatalogue$Matching" "ornament" "I", .fieldLink RX1 18 "TuneCatalogue$Matching" "repeat" "I", .arrayClass .int, .fieldLink RX1 21 "TuneCatalogue$Matching" "table" "[I", .fieldLink RX1 25 "TuneCatalogue$Matching" "hum" "LTuneCatalogue$Row;"] ++ wsX10)
def wsX3_size : List Cond := .code yX3_size cX3_size 1 (some .int) :: ([.fieldLink RX3 14 "TuneCatalogue$Tune" "pitches" "LTuneCatalogue$Row;", .methodLink RX3 23 yX2_size, .instanceMethod yX2_size, .selects RX2 yX2_size yX2_size, .initialized RX2, .code yX2_size cX2_size 1 (some .int), .fieldLink RX2 19 "TuneCatalogue$Row" "size" "I"] ++ wsX30 ++ wsX20)
def wsX4_isWithin : List Cond := .code yX4_isWithin cX4_isWithin 3 (some .boolean) :: ([])
def wsX1_tableAt : List Cond := .code yX1_tableAt cX1_tableAt 5 (some .int) :: ([.fieldLink RX1 21 "TuneCatalogue$Matching" "table" "[I", .static yX4_isWithin, .initialized RX4, .code yX4_isWithin cX4_isWithin 3 (some .boolean)] ++ wsX10)
def wsX1_costOfMove : List Cond := .code yX1_costOfMove cX1_costOfMove 11 (some .int) :: ([.fieldLink RX1 25 "TuneCatalogue$Matching" "hum" "LTuneCatalogue$Row;", .fieldLink RX1 9 "TuneCatalogue$Matching" "slip" "I", .methodLink RX1 79 Lib.Math.abs.name, .static Lib.Math.abs.name, .initialized "java/lang/Math", .code Lib.Math.abs.name Lib.Math.abs.code 1 (some .int), .fieldLink RX1 15 "TuneCatalogue$Matching" "ornament" "I", .fieldLink RX1 18 "TuneCatalogue$Matching" "repeat" "I", .methodLink RX1 75 yX2_at, .instanceMethod yX2_at, .selects RX2 yX2_at yX2_at, .initialized RX2, .code yX2_at cX2_at 2 (some .int), .fieldLink RX2 19 "TuneCatalogue$Row" "size" "I", .fieldLink RX2 13 "TuneCatalogue$Row" "numbers" "[I"] ++ wsX30 ++ wsX10 ++ wsX20)
def wsX1_costBy_r1 : List Cond := [Cond.methodLink RX1 46 yX1_tableAt, Cond.instanceMethod yX1_tableAt, Cond.selects RX1 yX1_tableAt yX1_tableAt, Cond.initialized RX1, Cond.code yX1_tableAt cX1_tableAt 5 (some .int), Cond.fieldLink RX1 21 "TuneCatalogue$Matching" "table" "[I", Cond.static yX4_isWithin, Cond.initialized RX4, Cond.code yX4_isWithin cX4_isWithin 3 (some .boolean), Cond.methodLink RX1 65 yX1_costOfMove, Cond.instanceMethod yX1_costOfMove, Cond.selects RX1 yX1_costOfMove yX1_costOfMove, Cond.code yX1_costOfMove cX1_costOfMove 11 (some .int), Cond.fieldLink RX1 25 "TuneCatalogue$Matching" "hum" "LTuneCatalogue$Row;", Cond.fieldLink RX1 9 "TuneCatalogue$Matching" "slip" "I", Cond.methodLink RX1 79 Lib.Math.abs.name, Cond.static Lib.Math.abs.name, Cond.initialized "java/lang/Math", Cond.code Lib.Math.abs.name Lib.Math.abs.code 1 (some .int), Cond.fieldLink RX1 15 "TuneCatalogue$Matching" "ornament" "I", Cond.fieldLink RX1 18 "TuneCatalogue$Matching" "repeat" "I", Cond.methodLink RX1 75 yX2_at, Cond.instanceMethod yX2_at, Cond.selects RX2 yX2_at yX2_at]
def wsX1_costBy_r2 : List Cond := [Cond.initialized RX2, Cond.code yX2_at cX2_at 2 (some .int), Cond.fieldLink RX2 19 "TuneCatalogue$Row" "size" "I", Cond.fieldLink RX2 13 "TuneCatalogue$Row" "numbers" "[I"]
def wsX1_costBy : List Cond := .code yX1_costBy cX1_costBy 7 (some .int) :: ((wsX1_costBy_r1 ++ wsX1_costBy_r2) ++ wsX10 ++ wsX30 ++ wsX20)
def wsX1_cheaper : List Cond := .code yX1_cheaper cX1_cheaper 2 (some .int) :: ([.methodLink RX1 87 Lib.Math.max.name, .static Lib.Math.max.name, .initialized "java/lang/Math", .code Lib.Math.max.name Lib.Math.max.code 2 (some .int), .methodLink RX1 90 Lib.Math.min.name, .static Lib.Math.min.name, .code Lib.Math.min.name Lib.Math.min.code 2 (some .int)])
def wsX1_cheapestTo_r1 : List Cond := [Cond.methodLink RX1 61 yX1_costBy, Cond.instanceMethod yX1_costBy, Cond.selects RX1 yX1_costBy yX1_costBy, Cond.initialized RX1, Cond.code yX1_costBy cX1_costBy 7 (some .int), Cond.methodLink RX1 46 yX1_tableAt, Cond.instanceMethod yX1_tableAt, Cond.selects RX1 yX1_tableAt yX1_tableAt, Cond.code yX1_tableAt cX1_tableAt 5 (some .int), Cond.fieldLink RX1 21 "TuneCatalogue$Matching" "table" "[I", Cond.static yX4_isWithin, Cond.initialized RX4, Cond.code yX4_isWithin cX4_isWithin 3 (some .boolean), Cond.methodLink RX1 65 yX1_costOfMove, Cond.instanceMethod yX1_costOfMove, Cond.selects RX1 yX1_costOfMove yX1_costOfMove, Cond.code yX1_costOfMove cX1_costOfMove 11 (some .int), Cond.fieldLink RX1 25 "TuneCatalogue$Matching" "hum" "LTuneCatalogue$Row;", Cond.fieldLink RX1 9 "TuneCatalogue$Matching" "slip" "I", Cond.methodLink RX1 79 Lib.Math.abs.name, Cond.static Lib.Math.abs.name, Cond.initialized "java/lang/Math", Cond.code Lib.Math.abs.name Lib.Math.abs.code 1 (some .int), Cond.fieldLink RX1 15 "TuneCatalogue$Matching" "ornament" "I"]
def wsX1_cheapestTo_r2 : List Cond := [Cond.fieldLink RX1 18 "TuneCatalogue$Matching" "repeat" "I", Cond.methodLink RX1 75 yX2_at, Cond.instanceMethod yX2_at, Cond.selects RX2 yX2_at yX2_at, Cond.initialized RX2, Cond.code yX2_at cX2_at 2 (some .int), Cond.fieldLink RX2 19 "TuneCatalogue$Row" "size" "I", Cond.fieldLink RX2 13 "TuneCatalogue$Row" "numbers" "[I", Cond.methodLink RX1 50 yX1_cheaper, Cond.static yX1_cheaper, Cond.code yX1_cheaper cX1_cheaper 2 (some .int), Cond.methodLink RX1 87 Lib.Math.max.name, Cond.static Lib.Math.max.name, Cond.code Lib.Math.max.name Lib.Math.max.code 2 (some .int), Cond.methodLink RX1 90 Lib.Math.min.name, Cond.static Lib.Math.min.name, Cond.code Lib.Math.min.name Lib.Math.min.code 2 (some .int)]
def wsX1_cheapestTo : List Cond := .code yX1_cheapestTo cX1_cheapestTo 6 (some .int) :: ((wsX1_cheapestTo_r1 ++ wsX1_cheapestTo_r2) ++ wsX10 ++ wsX30 ++ wsX20)
def wsX1_setTableAt : List Cond := .code yX1_setTableAt cX1_setTableAt 5 none :: ([.fieldLink RX1 21 "TuneCatalogue$Matching" "table" "[I"] ++ wsX10)
def wsX1_cheapestByTable_r1 : List Cond := [Cond.fieldLink RX1 25 "TuneCatalogue$Matching" "hum" "LTuneCatalogue$Row;", Cond.methodLink RX1 29 yX2_size, Cond.instanceMethod yX2_size, Cond.selects RX2 yX2_size yX2_size, Cond.initialized RX2, Cond.code yX2_size cX2_size 1 (some .int), Cond.fieldLink RX2 19 "TuneCatalogue$Row" "size" "I", Cond.methodLink RX1 35 yX3_size, Cond.instanceMethod yX3_size, Cond.selects RX3 yX3_size yX3_size, Cond.initialized RX3, Cond.code yX3_size cX3_size 1 (some .int), Cond.fieldLink RX3 14 "TuneCatalogue$Tune" "pitches" "LTuneCatalogue$Row;", Cond.methodLink RX3 23 yX2_size, Cond.methodLink RX1 38 yX1_cheapestTo, Cond.instanceMethod yX1_cheapestTo, Cond.selects RX1 yX1_cheapestTo yX1_cheapestTo, Cond.initialized RX1, Cond.code yX1_cheapestTo cX1_cheapestTo 6 (some .int), Cond.methodLink RX1 61 yX1_costBy, Cond.instanceMethod yX1_costBy, Cond.selects RX1 yX1_costBy yX1_costBy, Cond.code yX1_costBy cX1_costBy 7 (some .int), Cond.methodLink RX1 46 yX1_tableAt]
def wsX1_cheapestByTable_r2 : List Cond := [Cond.instanceMethod yX1_tableAt, Cond.selects RX1 yX1_tableAt yX1_tableAt, Cond.code yX1_tableAt cX1_tableAt 5 (some .int), Cond.fieldLink RX1 21 "TuneCatalogue$Matching" "table" "[I", Cond.static yX4_isWithin, Cond.initialized RX4, Cond.code yX4_isWithin cX4_isWithin 3 (some .boolean), Cond.methodLink RX1 65 yX1_costOfMove, Cond.instanceMethod yX1_costOfMove, Cond.selects RX1 yX1_costOfMove yX1_costOfMove, Cond.code yX1_costOfMove cX1_costOfMove 11 (some .int), Cond.fieldLink RX1 9 "TuneCatalogue$Matching" "slip" "I", Cond.methodLink RX1 79 Lib.Math.abs.name, Cond.static Lib.Math.abs.name, Cond.initialized "java/lang/Math", Cond.code Lib.Math.abs.name Lib.Math.abs.code 1 (some .int), Cond.fieldLink RX1 15 "TuneCatalogue$Matching" "ornament" "I", Cond.fieldLink RX1 18 "TuneCatalogue$Matching" "repeat" "I", Cond.methodLink RX1 75 yX2_at, Cond.instanceMethod yX2_at, Cond.selects RX2 yX2_at yX2_at, Cond.code yX2_at cX2_at 2 (some .int), Cond.fieldLink RX2 13 "TuneCatalogue$Row" "numbers" "[I", Cond.methodLink RX1 50 yX1_cheaper]
def wsX1_cheapestByTable_r3 : List Cond := [Cond.static yX1_cheaper, Cond.code yX1_cheaper cX1_cheaper 2 (some .int), Cond.methodLink RX1 87 Lib.Math.max.name, Cond.static Lib.Math.max.name, Cond.code Lib.Math.max.name Lib.Math.max.code 2 (some .int), Cond.methodLink RX1 90 Lib.Math.min.name, Cond.static Lib.Math.min.name, Cond.code Lib.Math.min.name Lib.Math.min.code 2 (some .int), Cond.methodLink RX1 42 yX1_setTableAt, Cond.instanceMethod yX1_setTableAt, Cond.selects RX1 yX1_setTableAt yX1_setTableAt, Cond.code yX1_setTableAt cX1_setTableAt 5 none]
def wsX1_cheapestByTable : List Cond := .code yX1_cheapestByTable cX1_cheapestByTable 4 (some .int) :: ((wsX1_cheapestByTable_r1 ++ (wsX1_cheapestByTable_r2 ++ wsX1_cheapestByTable_r3)) ++ wsX10 ++ wsX20 ++ wsX30)
def wsX1_cheapestOnward_r1 : List Cond := [Cond.fieldLink RX1 25 "TuneCatalogue$Matching" "hum" "LTuneCatalogue$Row;", Cond.methodLink RX1 29 yX2_size, Cond.instanceMethod yX2_size, Cond.selects RX2 yX2_size yX2_size, Cond.initialized RX2, Cond.code yX2_size cX2_size 1 (some .int), Cond.fieldLink RX2 19 "TuneCatalogue$Row" "size" "I", Cond.methodLink RX1 68 yX1_costOnwardBy, Cond.instanceMethod yX1_costOnwardBy, Cond.selects RX1 yX1_costOnwardBy yX1_costOnwardBy, Cond.initialized RX1, Cond.methodLink RX1 50 yX1_cheaper, Cond.static yX1_cheaper, Cond.code yX1_cheaper cX1_cheaper 2 (some .int), Cond.methodLink RX1 87 Lib.Math.max.name, Cond.static Lib.Math.max.name, Cond.initialized "java/lang/Math", Cond.code Lib.Math.max.name Lib.Math.max.code 2 (some .int), Cond.methodLink RX1 90 Lib.Math.min.name, Cond.static Lib.Math.min.name, Cond.code Lib.Math.min.name Lib.Math.min.code 2 (some .int), Cond.code yX1_costOnwardBy cX1_costOnwardBy 9 (some .int), Cond.methodLink RX1 35 yX3_size, Cond.instanceMethod yX3_size]
def wsX1_cheapestOnward_r2 : List Cond := [Cond.selects RX3 yX3_size yX3_size, Cond.initialized RX3, Cond.code yX3_size cX3_size 1 (some .int), Cond.fieldLink RX3 14 "TuneCatalogue$Tune" "pitches" "LTuneCatalogue$Row;", Cond.methodLink RX3 23 yX2_size, Cond.methodLink RX1 53 yX1_cheapestOnward, Cond.instanceMethod yX1_cheapestOnward, Cond.selects RX1 yX1_cheapestOnward yX1_cheapestOnward, Cond.methodLink RX1 65 yX1_costOfMove, Cond.instanceMethod yX1_costOfMove, Cond.selects RX1 yX1_costOfMove yX1_costOfMove, Cond.code yX1_costOfMove cX1_costOfMove 11 (some .int), Cond.fieldLink RX1 9 "TuneCatalogue$Matching" "slip" "I", Cond.methodLink RX1 79 Lib.Math.abs.name, Cond.static Lib.Math.abs.name, Cond.code Lib.Math.abs.name Lib.Math.abs.code 1 (some .int), Cond.fieldLink RX1 15 "TuneCatalogue$Matching" "ornament" "I", Cond.fieldLink RX1 18 "TuneCatalogue$Matching" "repeat" "I", Cond.methodLink RX1 75 yX2_at, Cond.instanceMethod yX2_at, Cond.selects RX2 yX2_at yX2_at, Cond.code yX2_at cX2_at 2 (some .int), Cond.fieldLink RX2 13 "TuneCatalogue$Row" "numbers" "[I"]
def wsX1_cheapestOnward : List Cond := .code yX1_cheapestOnward cX1_cheapestOnward 7 (some .int) :: ((wsX1_cheapestOnward_r1 ++ wsX1_cheapestOnward_r2) ++ wsX10 ++ wsX20 ++ wsX30)
def wsX1_costOnwardBy_r1 : List Cond := [Cond.fieldLink RX1 25 "TuneCatalogue$Matching" "hum" "LTuneCatalogue$Row;", Cond.methodLink RX1 29 yX2_size, Cond.instanceMethod yX2_size, Cond.selects RX2 yX2_size yX2_size, Cond.initialized RX2, Cond.code yX2_size cX2_size 1 (some .int), Cond.fieldLink RX2 19 "TuneCatalogue$Row" "size" "I", Cond.methodLink RX1 35 yX3_size, Cond.instanceMethod yX3_size, Cond.selects RX3 yX3_size yX3_size, Cond.initialized RX3, Cond.code yX3_size cX3_size 1 (some .int), Cond.fieldLink RX3 14 "TuneCatalogue$Tune" "pitches" "LTuneCatalogue$Row;", Cond.methodLink RX3 23 yX2_size, Cond.methodLink RX1 53 yX1_cheapestOnward, Cond.instanceMethod yX1_cheapestOnward, Cond.selects RX1 yX1_cheapestOnward yX1_cheapestOnward, Cond.initialized RX1, Cond.methodLink RX1 65 yX1_costOfMove, Cond.instanceMethod yX1_costOfMove, Cond.selects RX1 yX1_costOfMove yX1_costOfMove, Cond.code yX1_costOfMove cX1_costOfMove 11 (some .int), Cond.fieldLink RX1 9 "TuneCatalogue$Matching" "slip" "I", Cond.methodLink RX1 79 Lib.Math.abs.name]
def wsX1_costOnwardBy_r2 : List Cond := [Cond.static Lib.Math.abs.name, Cond.initialized "java/lang/Math", Cond.code Lib.Math.abs.name Lib.Math.abs.code 1 (some .int), Cond.fieldLink RX1 15 "TuneCatalogue$Matching" "ornament" "I", Cond.fieldLink RX1 18 "TuneCatalogue$Matching" "repeat" "I", Cond.methodLink RX1 75 yX2_at, Cond.instanceMethod yX2_at, Cond.selects RX2 yX2_at yX2_at, Cond.code yX2_at cX2_at 2 (some .int), Cond.fieldLink RX2 13 "TuneCatalogue$Row" "numbers" "[I", Cond.code yX1_cheapestOnward cX1_cheapestOnward 7 (some .int), Cond.methodLink RX1 68 yX1_costOnwardBy, Cond.instanceMethod yX1_costOnwardBy, Cond.selects RX1 yX1_costOnwardBy yX1_costOnwardBy, Cond.methodLink RX1 50 yX1_cheaper, Cond.static yX1_cheaper, Cond.code yX1_cheaper cX1_cheaper 2 (some .int), Cond.methodLink RX1 87 Lib.Math.max.name, Cond.static Lib.Math.max.name, Cond.code Lib.Math.max.name Lib.Math.max.code 2 (some .int), Cond.methodLink RX1 90 Lib.Math.min.name, Cond.static Lib.Math.min.name, Cond.code Lib.Math.min.name Lib.Math.min.code 2 (some .int)]
def wsX1_costOnwardBy : List Cond := .code yX1_costOnwardBy cX1_costOnwardBy 9 (some .int) :: ((wsX1_costOnwardBy_r1 ++ wsX1_costOnwardBy_r2) ++ wsX10 ++ wsX20 ++ wsX30)
def wsX1_cheapestByTrying_r1 : List Cond := [Cond.fieldLink RX1 25 "TuneCatalogue$Matching" "hum" "LTuneCatalogue$Row;", Cond.methodLink RX1 29 yX2_size, Cond.instanceMethod yX2_size, Cond.selects RX2 yX2_size yX2_size, Cond.initialized RX2, Cond.code yX2_size cX2_size 1 (some .int), Cond.fieldLink RX2 19 "TuneCatalogue$Row" "size" "I", Cond.methodLink RX1 53 yX1_cheapestOnward, Cond.instanceMethod yX1_cheapestOnward, Cond.selects RX1 yX1_cheapestOnward yX1_cheapestOnward, Cond.initialized RX1, Cond.code yX1_cheapestOnward cX1_cheapestOnward 7 (some .int), Cond.methodLink RX1 68 yX1_costOnwardBy, Cond.instanceMethod yX1_costOnwardBy, Cond.selects RX1 yX1_costOnwardBy yX1_costOnwardBy, Cond.methodLink RX1 50 yX1_cheaper, Cond.static yX1_cheaper, Cond.code yX1_cheaper cX1_cheaper 2 (some .int), Cond.methodLink RX1 87 Lib.Math.max.name, Cond.static Lib.Math.max.name, Cond.initialized "java/lang/Math", Cond.code Lib.Math.max.name Lib.Math.max.code 2 (some .int), Cond.methodLink RX1 90 Lib.Math.min.name, Cond.static Lib.Math.min.name]
def wsX1_cheapestByTrying_r2 : List Cond := [Cond.code Lib.Math.min.name Lib.Math.min.code 2 (some .int), Cond.code yX1_costOnwardBy cX1_costOnwardBy 9 (some .int), Cond.methodLink RX1 35 yX3_size, Cond.instanceMethod yX3_size, Cond.selects RX3 yX3_size yX3_size, Cond.initialized RX3, Cond.code yX3_size cX3_size 1 (some .int), Cond.fieldLink RX3 14 "TuneCatalogue$Tune" "pitches" "LTuneCatalogue$Row;", Cond.methodLink RX3 23 yX2_size, Cond.methodLink RX1 65 yX1_costOfMove, Cond.instanceMethod yX1_costOfMove, Cond.selects RX1 yX1_costOfMove yX1_costOfMove, Cond.code yX1_costOfMove cX1_costOfMove 11 (some .int), Cond.fieldLink RX1 9 "TuneCatalogue$Matching" "slip" "I", Cond.methodLink RX1 79 Lib.Math.abs.name, Cond.static Lib.Math.abs.name, Cond.code Lib.Math.abs.name Lib.Math.abs.code 1 (some .int), Cond.fieldLink RX1 15 "TuneCatalogue$Matching" "ornament" "I", Cond.fieldLink RX1 18 "TuneCatalogue$Matching" "repeat" "I", Cond.methodLink RX1 75 yX2_at, Cond.instanceMethod yX2_at, Cond.selects RX2 yX2_at yX2_at, Cond.code yX2_at cX2_at 2 (some .int), Cond.fieldLink RX2 13 "TuneCatalogue$Row" "numbers" "[I"]
def wsX1_cheapestByTrying : List Cond := .code yX1_cheapestByTrying cX1_cheapestByTrying 2 (some .int) :: ((wsX1_cheapestByTrying_r1 ++ wsX1_cheapestByTrying_r2) ++ wsX10 ++ wsX20 ++ wsX30)
def wsX2_isFull : List Cond := .code yX2_isFull cX2_isFull 1 (some .boolean) :: ([.fieldLink RX2 19 "TuneCatalogue$Row" "size" "I", .fieldLink RX2 13 "TuneCatalogue$Row" "numbers" "[I"] ++ wsX20)
def wsX2_clear : List Cond := .code yX2_clear cX2_clear 1 none :: ([.fieldLink RX2 19 "TuneCatalogue$Row" "size" "I"] ++ wsX20)
def wsX2_stepFrom : List Cond := .code yX2_stepFrom cX2_stepFrom 2 (some .int) :: ([.methodLink RX2 23 yX2_at, .instanceMethod yX2_at, .selects RX2 yX2_at yX2_at, .initialized RX2, .code yX2_at cX2_at 2 (some .int), .fieldLink RX2 19 "TuneCatalogue$Row" "size" "I", .fieldLink RX2 13 "TuneCatalogue$Row" "numbers" "[I"] ++ wsX20)
def wsX2_stepsInCommon : List Cond := .code yX2_stepsInCommon cX2_stepsInCommon 6 (some .int) :: ([.fieldLink RX2 19 "TuneCatalogue$Row" "size" "I", .methodLink RX2 27 Lib.Math.min.name, .static Lib.Math.min.name, .initialized "java/lang/Math", .code Lib.Math.min.name Lib.Math.min.code 2 (some .int), .methodLink RX2 30 yX2_stepFrom, .instanceMethod yX2_stepFrom, .selects RX2 yX2_stepFrom yX2_stepFrom, .initialized RX2, .code yX2_stepFrom cX2_stepFrom 2 (some .int), .methodLink RX2 23 yX2_at, .instanceMethod yX2_at, .selects RX2 yX2_at yX2_at, .code yX2_at cX2_at 2 (some .int), .fieldLink RX2 13 "TuneCatalogue$Row" "numbers" "[I"] ++ wsX20)
def wsX2_direction : List Cond := .code yX2_direction cX2_direction 1 (some .int) :: ([])
def wsX2_beginsWithContourOf : List Cond := .code yX2_beginsWithContourOf cX2_beginsWithContourOf 3 (some .boolean) :: ([.fieldLink RX2 19 "TuneCatalogue$Row" "size" "I", .methodLink RX2 30 yX2_stepFrom, .instanceMethod yX2_stepFrom, .selects RX2 yX2_stepFrom yX2_stepFrom, .initialized RX2, .code yX2_stepFrom cX2_stepFrom 2 (some .int), .methodLink RX2 23 yX2_at, .instanceMethod yX2_at, .selects RX2 yX2_at yX2_at, .code yX2_at cX2_at 2 (some .int), .fieldLink RX2 13 "TuneCatalogue$Row" "numbers" "[I", .methodLink RX2 33 yX2_direction, .static yX2_direction, .code yX2_direction cX2_direction 1 (some .int)] ++ wsX20)
def wsX3_init : List Cond := .code yX3_init cX3_init 1 none :: ([.methodLink RX3 3 objectInit, .instanceMethod objectInit, .code objectInit ⟨#[0xb1]⟩ 1 none, .classLink RX3 9 RX2, .instantiable RX2 2, .initialized RX2, .fieldLink RX3 14 "TuneCatalogue$Tune" "pitches" "LTuneCatalogue$Row;", .fieldLink RX3 20 "TuneCatalogue$Tune" "lengths" "LTuneCatalogue$Row;", .methodLink RX3 11 yX2_init, .instanceMethod yX2_init, .code yX2_init cX2_init 2 none, .methodLink RX2 1 objectInit, .methodLink RX2 7 Lib.Math.max.name, .static Lib.Math.max.name, .initialized "java/lang/Math", .code Lib.Math.max.name Lib.Math.max.code 2 (some .int), .arrayClass .int, .fieldLink RX2 13 "TuneCatalogue$Row" "numbers" "[I"] ++ wsX20 ++ wsX30)
def wsX3_append : List Cond := .code yX3_append cX3_append 3 none :: ([.fieldLink RX3 14 "TuneCatalogue$Tune" "pitches" "LTuneCatalogue$Row;", .fieldLink RX3 20 "TuneCatalogue$Tune" "lengths" "LTuneCatalogue$Row;", .methodLink RX3 27 yX2_append, .instanceMethod yX2_append, .selects RX2 yX2_append yX2_append, .initialized RX2, .code yX2_append cX2_append 2 none, .fieldLink RX2 19 "TuneCatalogue$Row" "size" "I", .fieldLink RX2 13 "TuneCatalogue$Row" "numbers" "[I"] ++ wsX30 ++ wsX20)
def wsX4_init_r1 : List Cond := [Cond.methodLink RX4 1 objectInit, Cond.instanceMethod objectInit, Cond.code objectInit ⟨#[0xb1]⟩ 1 none, Cond.classLink RX4 9 RX3, Cond.fieldLink RX4 11 "TuneCatalogue" "entries" "[LTuneCatalogue$Tune;", Cond.classLink RX4 15 RX2, Cond.instantiable RX2 2, Cond.initialized RX2, Cond.fieldLink RX4 20 "TuneCatalogue" "humRow" "LTuneCatalogue$Row;", Cond.classLink RX4 24 RX1, Cond.instantiable RX1 5, Cond.initialized RX1, Cond.fieldLink RX4 29 "TuneCatalogue" "matching" "LTuneCatalogue$Matching;", Cond.classLink RX4 33 RX0, Cond.instantiable RX0 1, Cond.initialized RX0, Cond.fieldLink RX4 36 "TuneCatalogue" "links" "LTuneCatalogue$Links;", Cond.fieldLink RX4 40 "TuneCatalogue" "priceRow" "LTuneCatalogue$Row;", Cond.fieldLink RX4 43 "TuneCatalogue" "placeRow" "LTuneCatalogue$Row;", Cond.methodLink RX4 17 yX2_init, Cond.instanceMethod yX2_init, Cond.code yX2_init cX2_init 2 none, Cond.methodLink RX2 1 objectInit, Cond.methodLink RX2 7 Lib.Math.max.name]
def wsX4_init_r2 : List Cond := [Cond.static Lib.Math.max.name, Cond.initialized "java/lang/Math", Cond.code Lib.Math.max.name Lib.Math.max.code 2 (some .int), Cond.arrayClass .int, Cond.fieldLink RX2 13 "TuneCatalogue$Row" "numbers" "[I", Cond.methodLink RX4 26 yX1_init, Cond.instanceMethod yX1_init, Cond.code yX1_init cX1_init 2 none, Cond.methodLink RX1 3 objectInit, Cond.fieldLink RX1 9 "TuneCatalogue$Matching" "slip" "I", Cond.fieldLink RX1 15 "TuneCatalogue$Matching" "ornament" "I", Cond.fieldLink RX1 18 "TuneCatalogue$Matching" "repeat" "I", Cond.fieldLink RX1 21 "TuneCatalogue$Matching" "table" "[I", Cond.fieldLink RX1 25 "TuneCatalogue$Matching" "hum" "LTuneCatalogue$Row;", Cond.instanceMethod yX0_init, Cond.code yX0_init cX0_init 1 none, Cond.methodLink RX0 3 objectInit, Cond.classLink RX0 9 RX2, Cond.fieldLink RX0 14 "TuneCatalogue$Links" "partners" "LTuneCatalogue$Row;", Cond.methodLink RX0 11 yX2_init]
def wsX4_init : List Cond := .code yX4_init cX4_init 1 none :: ((wsX4_init_r1 ++ wsX4_init_r2) ++ wsX40 ++ wsX20 ++ wsX10 ++ wsX00)
def wsX4_refuseUnlessWithin : List Cond := .code yX4_refuseUnlessWithin cX4_refuseUnlessWithin 3 none :: ([.classLink RX4 184 "java/lang/IllegalArgumentException", .initialized "java/lang/IllegalArgumentException", .methodLink RX4 54 yX4_isWithin, .static yX4_isWithin, .initialized RX4, .code yX4_isWithin cX4_isWithin 3 (some .boolean)] ++ (vx_atS RX4 188 "java/lang/IllegalArgumentException" ["java/lang/RuntimeException", "java/lang/Exception"]).filter goodWord)
def wsX4_refuseUnlessNote : List Cond := .code yX4_refuseUnlessNote cX4_refuseUnlessNote 2 none :: ([.methodLink RX4 104 yX4_refuseUnlessWithin, .static yX4_refuseUnlessWithin, .initialized RX4, .code yX4_refuseUnlessWithin cX4_refuseUnlessWithin 3 none, .classLink RX4 184 "java/lang/IllegalArgumentException", .initialized "java/lang/IllegalArgumentException", .methodLink RX4 54 yX4_isWithin, .static yX4_isWithin, .code yX4_isWithin cX4_isWithin 3 (some .boolean)] ++ (vx_atS RX4 188 "java/lang/IllegalArgumentException" ["java/lang/RuntimeException", "java/lang/Exception"]).filter goodWord)
def wsX4_add_r1 : List Cond := [Cond.classLink RX4 58 "java/lang/IllegalStateException", Cond.initialized "java/lang/IllegalStateException", Cond.fieldLink RX4 50 "TuneCatalogue" "entered" "I", Cond.fieldLink RX4 11 "TuneCatalogue" "entries" "[LTuneCatalogue$Tune;", Cond.classLink RX4 9 RX3, Cond.instantiable RX3 3, Cond.initialized RX3, Cond.fieldLink RX4 36 "TuneCatalogue" "links" "LTuneCatalogue$Links;", Cond.methodLink RX4 46 yX4_refuseUnlessNote, Cond.static yX4_refuseUnlessNote, Cond.initialized RX4, Cond.code yX4_refuseUnlessNote cX4_refuseUnlessNote 2 none, Cond.methodLink RX4 104 yX4_refuseUnlessWithin, Cond.static yX4_refuseUnlessWithin, Cond.code yX4_refuseUnlessWithin cX4_refuseUnlessWithin 3 none, Cond.classLink RX4 184 "java/lang/IllegalArgumentException", Cond.initialized "java/lang/IllegalArgumentException", Cond.methodLink RX4 54 yX4_isWithin, Cond.static yX4_isWithin, Cond.code yX4_isWithin cX4_isWithin 3 (some .boolean), Cond.instanceMethod yX3_init, Cond.code yX3_init cX3_init 1 none, Cond.methodLink RX3 3 objectInit, Cond.instanceMethod objectInit]
def wsX4_add_r2 : List Cond := [Cond.code objectInit ⟨#[0xb1]⟩ 1 none, Cond.classLink RX3 9 RX2, Cond.instantiable RX2 2, Cond.initialized RX2, Cond.fieldLink RX3 14 "TuneCatalogue$Tune" "pitches" "LTuneCatalogue$Row;", Cond.fieldLink RX3 20 "TuneCatalogue$Tune" "lengths" "LTuneCatalogue$Row;", Cond.methodLink RX3 11 yX2_init, Cond.instanceMethod yX2_init, Cond.code yX2_init cX2_init 2 none, Cond.methodLink RX2 1 objectInit, Cond.methodLink RX2 7 Lib.Math.max.name, Cond.static Lib.Math.max.name, Cond.initialized "java/lang/Math", Cond.code Lib.Math.max.name Lib.Math.max.code 2 (some .int), Cond.arrayClass .int, Cond.fieldLink RX2 13 "TuneCatalogue$Row" "numbers" "[I", Cond.methodLink RX4 66 yX3_append, Cond.instanceMethod yX3_append, Cond.selects RX3 yX3_append yX3_append, Cond.code yX3_append cX3_append 3 none, Cond.methodLink RX3 27 yX2_append, Cond.instanceMethod yX2_append, Cond.selects RX2 yX2_append yX2_append, Cond.code yX2_append cX2_append 2 none]
def wsX4_add_r3 : List Cond := [Cond.fieldLink RX2 19 "TuneCatalogue$Row" "size" "I", Cond.methodLink RX4 69 yX0_admitTune, Cond.instanceMethod yX0_admitTune, Cond.selects RX0 yX0_admitTune yX0_admitTune, Cond.initialized RX0, Cond.code yX0_admitTune cX0_admitTune 1 none, Cond.fieldLink RX0 14 "TuneCatalogue$Links" "partners" "LTuneCatalogue$Row;", Cond.methodLink RX0 20 yX2_append]
def wsX4_add : List Cond := .code yX4_add cX4_add 4 (some .int) :: ((wsX4_add_r1 ++ (wsX4_add_r2 ++ wsX4_add_r3)) ++ wsX40 ++ wsX30 ++ wsX20 ++ wsX00 ++ (vx_atS RX4 62 "java/lang/IllegalStateException" ["java/lang/RuntimeException", "java/lang/Exception"]).filter goodWord ++ (vx_atS RX4 188 "java/lang/IllegalArgumentException" ["java/lang/RuntimeException", "java/lang/Exception"]).filter goodWord)
def wsX4_enteredOrNull : List Cond := .code yX4_enteredOrNull cX4_enteredOrNull 2 (some (.object "TuneCatalogue$Tune")) :: ([.fieldLink RX4 50 "TuneCatalogue" "entered" "I", .fieldLink RX4 11 "TuneCatalogue" "entries" "[LTuneCatalogue$Tune;"] ++ wsX40)
def wsX4_knownOrNull : List Cond := .code yX4_knownOrNull cX4_knownOrNull 3 (some (.object "TuneCatalogue$Tune")) :: ([.methodLink RX4 210 yX4_enteredOrNull, .instanceMethod yX4_enteredOrNull, .selects RX4 yX4_enteredOrNull yX4_enteredOrNull, .initialized RX4, .code yX4_enteredOrNull cX4_enteredOrNull 2 (some (.object "TuneCatalogue$Tune")), .fieldLink RX4 50 "TuneCatalogue" "entered" "I", .fieldLink RX4 11 "TuneCatalogue" "entries" "[LTuneCatalogue$Tune;"] ++ wsX30 ++ wsX40)
def wsX4_knownOrThrow : List Cond := .code yX4_knownOrThrow cX4_knownOrThrow 3 (some (.object "TuneCatalogue$Tune")) :: ([.classLink RX4 89 "java/lang/IndexOutOfBoundsException", .initialized "java/lang/IndexOutOfBoundsException", .methodLink RX4 114 yX4_knownOrNull, .instanceMethod yX4_knownOrNull, .selects RX4 yX4_knownOrNull yX4_knownOrNull, .initialized RX4, .code yX4_knownOrNull cX4_knownOrNull 3 (some (.object "TuneCatalogue$Tune")), .methodLink RX4 210 yX4_enteredOrNull, .instanceMethod yX4_enteredOrNull, .selects RX4 yX4_enteredOrNull yX4_enteredOrNull, .code yX4_enteredOrNull cX4_enteredOrNull 2 (some (.object "TuneCatalogue$Tune")), .fieldLink RX4 50 "TuneCatalogue" "entered" "I", .fieldLink RX4 11 "TuneCatalogue" "entries" "[LTuneCatalogue$Tune;"] ++ wsX30 ++ wsX40 ++ (vx_atS RX4 93 "java/lang/IndexOutOfBoundsException" ["java/lang/RuntimeException", "java/lang/Exception"]).filter goodWord)
def wsX4_note_r1 : List Cond := [Cond.classLink RX4 58 "java/lang/IllegalStateException", Cond.initialized "java/lang/IllegalStateException", Cond.methodLink RX4 72 yX4_knownOrThrow, Cond.instanceMethod yX4_knownOrThrow, Cond.selects RX4 yX4_knownOrThrow yX4_knownOrThrow, Cond.initialized RX4, Cond.code yX4_knownOrThrow cX4_knownOrThrow 3 (some (.object "TuneCatalogue$Tune")), Cond.classLink RX4 89 "java/lang/IndexOutOfBoundsException", Cond.initialized "java/lang/IndexOutOfBoundsException", Cond.methodLink RX4 114 yX4_knownOrNull, Cond.instanceMethod yX4_knownOrNull, Cond.selects RX4 yX4_knownOrNull yX4_knownOrNull, Cond.code yX4_knownOrNull cX4_knownOrNull 3 (some (.object "TuneCatalogue$Tune")), Cond.methodLink RX4 210 yX4_enteredOrNull, Cond.instanceMethod yX4_enteredOrNull, Cond.selects RX4 yX4_enteredOrNull yX4_enteredOrNull, Cond.code yX4_enteredOrNull cX4_enteredOrNull 2 (some (.object "TuneCatalogue$Tune")), Cond.fieldLink RX4 50 "TuneCatalogue" "entered" "I", Cond.fieldLink RX4 11 "TuneCatalogue" "entries" "[LTuneCatalogue$Tune;", Cond.methodLink RX4 46 yX4_refuseUnlessNote, Cond.static yX4_refuseUnlessNote, Cond.code yX4_refuseUnlessNote cX4_refuseUnlessNote 2 none, Cond.methodLink RX4 104 yX4_refuseUnlessWithin, Cond.static yX4_refuseUnlessWithin]
def wsX4_note_r2 : List Cond := [Cond.code yX4_refuseUnlessWithin cX4_refuseUnlessWithin 3 none, Cond.classLink RX4 184 "java/lang/IllegalArgumentException", Cond.initialized "java/lang/IllegalArgumentException", Cond.methodLink RX4 54 yX4_isWithin, Cond.static yX4_isWithin, Cond.code yX4_isWithin cX4_isWithin 3 (some .boolean), Cond.methodLink RX4 79 yX2_isFull, Cond.instanceMethod yX2_isFull, Cond.selects RX2 yX2_isFull yX2_isFull, Cond.initialized RX2, Cond.code yX2_isFull cX2_isFull 1 (some .boolean), Cond.fieldLink RX2 19 "TuneCatalogue$Row" "size" "I", Cond.fieldLink RX2 13 "TuneCatalogue$Row" "numbers" "[I", Cond.methodLink RX4 66 yX3_append, Cond.instanceMethod yX3_append, Cond.selects RX3 yX3_append yX3_append, Cond.initialized RX3, Cond.code yX3_append cX3_append 3 none, Cond.fieldLink RX3 14 "TuneCatalogue$Tune" "pitches" "LTuneCatalogue$Row;", Cond.fieldLink RX3 20 "TuneCatalogue$Tune" "lengths" "LTuneCatalogue$Row;", Cond.methodLink RX3 27 yX2_append, Cond.instanceMethod yX2_append, Cond.selects RX2 yX2_append yX2_append, Cond.code yX2_append cX2_append 2 none]
def wsX4_note_r3 : List Cond := [Cond.methodLink RX4 85 yX3_size, Cond.instanceMethod yX3_size, Cond.selects RX3 yX3_size yX3_size, Cond.code yX3_size cX3_size 1 (some .int), Cond.methodLink RX3 23 yX2_size, Cond.instanceMethod yX2_size, Cond.selects RX2 yX2_size yX2_size, Cond.code yX2_size cX2_size 1 (some .int)]
def wsX4_note : List Cond := .code yX4_note cX4_note 5 (some .int) :: ((wsX4_note_r1 ++ (wsX4_note_r2 ++ wsX4_note_r3)) ++ wsX30 ++ wsX40 ++ wsX20 ++ (vx_atS RX4 62 "java/lang/IllegalStateException" ["java/lang/RuntimeException", "java/lang/Exception"]).filter goodWord ++ (vx_atS RX4 93 "java/lang/IndexOutOfBoundsException" ["java/lang/RuntimeException", "java/lang/Exception"]).filter goodWord ++ (vx_atS RX4 188 "java/lang/IllegalArgumentException" ["java/lang/RuntimeException", "java/lang/Exception"]).filter goodWord)
def wsX4_correct_r1 : List Cond := [Cond.classLink RX4 89 "java/lang/IndexOutOfBoundsException", Cond.initialized "java/lang/IndexOutOfBoundsException", Cond.methodLink RX4 72 yX4_knownOrThrow, Cond.instanceMethod yX4_knownOrThrow, Cond.selects RX4 yX4_knownOrThrow yX4_knownOrThrow, Cond.initialized RX4, Cond.code yX4_knownOrThrow cX4_knownOrThrow 3 (some (.object "TuneCatalogue$Tune")), Cond.methodLink RX4 114 yX4_knownOrNull, Cond.instanceMethod yX4_knownOrNull, Cond.selects RX4 yX4_knownOrNull yX4_knownOrNull, Cond.code yX4_knownOrNull cX4_knownOrNull 3 (some (.object "TuneCatalogue$Tune")), Cond.methodLink RX4 210 yX4_enteredOrNull, Cond.instanceMethod yX4_enteredOrNull, Cond.selects RX4 yX4_enteredOrNull yX4_enteredOrNull, Cond.code yX4_enteredOrNull cX4_enteredOrNull 2 (some (.object "TuneCatalogue$Tune")), Cond.fieldLink RX4 50 "TuneCatalogue" "entered" "I", Cond.fieldLink RX4 11 "TuneCatalogue" "entries" "[LTuneCatalogue$Tune;", Cond.methodLink RX4 85 yX3_size, Cond.instanceMethod yX3_size, Cond.selects RX3 yX3_size yX3_size, Cond.initialized RX3, Cond.code yX3_size cX3_size 1 (some .int), Cond.fieldLink RX3 14 "TuneCatalogue$Tune" "pitches" "LTuneCatalogue$Row;", Cond.methodLink RX3 23 yX2_size]
def wsX4_correct_r2 : List Cond := [Cond.instanceMethod yX2_size, Cond.selects RX2 yX2_size yX2_size, Cond.initialized RX2, Cond.code yX2_size cX2_size 1 (some .int), Cond.fieldLink RX2 19 "TuneCatalogue$Row" "size" "I", Cond.methodLink RX4 46 yX4_refuseUnlessNote, Cond.static yX4_refuseUnlessNote, Cond.code yX4_refuseUnlessNote cX4_refuseUnlessNote 2 none, Cond.methodLink RX4 104 yX4_refuseUnlessWithin, Cond.static yX4_refuseUnlessWithin, Cond.code yX4_refuseUnlessWithin cX4_refuseUnlessWithin 3 none, Cond.classLink RX4 184 "java/lang/IllegalArgumentException", Cond.initialized "java/lang/IllegalArgumentException", Cond.methodLink RX4 54 yX4_isWithin, Cond.static yX4_isWithin, Cond.code yX4_isWithin cX4_isWithin 3 (some .boolean), Cond.methodLink RX4 94 yX2_at, Cond.instanceMethod yX2_at, Cond.selects RX2 yX2_at yX2_at, Cond.code yX2_at cX2_at 2 (some .int), Cond.fieldLink RX2 13 "TuneCatalogue$Row" "numbers" "[I", Cond.methodLink RX4 98 yX2_put, Cond.instanceMethod yX2_put, Cond.selects RX2 yX2_put yX2_put]
def wsX4_correct_r3 : List Cond := [Cond.code yX2_put cX2_put 3 none]
def wsX4_correct : List Cond := .code yX4_correct cX4_correct 7 (some .int) :: ((wsX4_correct_r1 ++ (wsX4_correct_r2 ++ wsX4_correct_r3)) ++ wsX30 ++ wsX40 ++ wsX20 ++ (vx_atS RX4 93 "java/lang/IndexOutOfBoundsException" ["java/lang/RuntimeException", "java/lang/Exception"]).filter goodWord ++ (vx_atS RX4 188 "java/lang/IllegalArgumentException" ["java/lang/RuntimeException", "java/lang/Exception"]).filter goodWord)
def wsX4_shift_r1 : List Cond := [Cond.classLink RX4 58 "java/lang/IllegalStateException", Cond.initialized "java/lang/IllegalStateException", Cond.methodLink RX4 72 yX4_knownOrThrow, Cond.instanceMethod yX4_knownOrThrow, Cond.selects RX4 yX4_knownOrThrow yX4_knownOrThrow, Cond.initialized RX4, Cond.code yX4_knownOrThrow cX4_knownOrThrow 3 (some (.object "TuneCatalogue$Tune")), Cond.classLink RX4 89 "java/lang/IndexOutOfBoundsException", Cond.initialized "java/lang/IndexOutOfBoundsException", Cond.methodLink RX4 114 yX4_knownOrNull, Cond.instanceMethod yX4_knownOrNull, Cond.selects RX4 yX4_knownOrNull yX4_knownOrNull, Cond.code yX4_knownOrNull cX4_knownOrNull 3 (some (.object "TuneCatalogue$Tune")), Cond.methodLink RX4 210 yX4_enteredOrNull, Cond.instanceMethod yX4_enteredOrNull, Cond.selects RX4 yX4_enteredOrNull yX4_enteredOrNull, Cond.code yX4_enteredOrNull cX4_enteredOrNull 2 (some (.object "TuneCatalogue$Tune")), Cond.fieldLink RX4 50 "TuneCatalogue" "entered" "I", Cond.fieldLink RX4 11 "TuneCatalogue" "entries" "[LTuneCatalogue$Tune;", Cond.methodLink RX4 104 yX4_refuseUnlessWithin, Cond.static yX4_refuseUnlessWithin, Cond.code yX4_refuseUnlessWithin cX4_refuseUnlessWithin 3 none, Cond.classLink RX4 184 "java/lang/IllegalArgumentException", Cond.initialized "java/lang/IllegalArgumentException"]
def wsX4_shift_r2 : List Cond := [Cond.methodLink RX4 54 yX4_isWithin, Cond.static yX4_isWithin, Cond.code yX4_isWithin cX4_isWithin 3 (some .boolean), Cond.methodLink RX4 85 yX3_size, Cond.instanceMethod yX3_size, Cond.selects RX3 yX3_size yX3_size, Cond.initialized RX3, Cond.code yX3_size cX3_size 1 (some .int), Cond.fieldLink RX3 14 "TuneCatalogue$Tune" "pitches" "LTuneCatalogue$Row;", Cond.methodLink RX3 23 yX2_size, Cond.instanceMethod yX2_size, Cond.selects RX2 yX2_size yX2_size, Cond.initialized RX2, Cond.code yX2_size cX2_size 1 (some .int), Cond.fieldLink RX2 19 "TuneCatalogue$Row" "size" "I", Cond.methodLink RX4 94 yX2_at, Cond.instanceMethod yX2_at, Cond.selects RX2 yX2_at yX2_at, Cond.code yX2_at cX2_at 2 (some .int), Cond.fieldLink RX2 13 "TuneCatalogue$Row" "numbers" "[I", Cond.methodLink RX4 98 yX2_put, Cond.instanceMethod yX2_put, Cond.selects RX2 yX2_put yX2_put, Cond.code yX2_put cX2_put 3 none]
def wsX4_shift : List Cond := .code yX4_shift cX4_shift 5 none :: ((wsX4_shift_r1 ++ wsX4_shift_r2) ++ wsX30 ++ wsX40 ++ wsX20 ++ (vx_atS RX4 62 "java/lang/IllegalStateException" ["java/lang/RuntimeException", "java/lang/Exception"]).filter goodWord ++ (vx_atS RX4 93 "java/lang/IndexOutOfBoundsException" ["java/lang/RuntimeException", "java/lang/Exception"]).filter goodWord ++ (vx_atS RX4 188 "java/lang/IllegalArgumentException" ["java/lang/RuntimeException", "java/lang/Exception"]).filter goodWord)
def wsX4_retire : List Cond := .code yX4_retire cX4_retire 4 (some .int) :: ([.fieldLink RX4 50 "TuneCatalogue" "entered" "I", .methodLink RX4 72 yX4_knownOrThrow, .instanceMethod yX4_knownOrThrow, .selects RX4 yX4_knownOrThrow yX4_knownOrThrow, .initialized RX4, .code yX4_knownOrThrow cX4_knownOrThrow 3 (some (.object "TuneCatalogue$Tune")), .classLink RX4 89 "java/lang/IndexOutOfBoundsException", .initialized "java/lang/IndexOutOfBoundsException", .methodLink RX4 114 yX4_knownOrNull, .instanceMethod yX4_knownOrNull, .selects RX4 yX4_knownOrNull yX4_knownOrNull, .code yX4_knownOrNull cX4_knownOrNull 3 (some (.object "TuneCatalogue$Tune")), .methodLink RX4 210 yX4_enteredOrNull, .instanceMethod yX4_enteredOrNull, .selects RX4 yX4_enteredOrNull yX4_enteredOrNull, .code yX4_enteredOrNull cX4_enteredOrNull 2 (some (.object "TuneCatalogue$Tune")), .fieldLink RX4 11 "TuneCatalogue" "entries" "[LTuneCatalogue$Tune;"] ++ wsX30 ++ wsX40 ++ (vx_atS RX4 93 "java/lang/IndexOutOfBoundsException" ["java/lang/RuntimeException", "java/lang/Exception"]).filter goodWord)
def wsX4_tunes : List Cond := .code yX4_tunes cX4_tunes 1 (some .int) :: ([.fieldLink RX4 50 "TuneCatalogue" "entered" "I"] ++ wsX40)
def wsX4_enteredOrThrow : List Cond := .code yX4_enteredOrThrow cX4_enteredOrThrow 3 (some (.object "TuneCatalogue$Tune")) :: ([.classLink RX4 89 "java/lang/IndexOutOfBoundsException", .initialized "java/lang/IndexOutOfBoundsException", .methodLink RX4 210 yX4_enteredOrNull, .instanceMethod yX4_enteredOrNull, .selects RX4 yX4_enteredOrNull yX4_enteredOrNull, .initialized RX4, .code yX4_enteredOrNull cX4_enteredOrNull 2 (some (.object "TuneCatalogue$Tune")), .fieldLink RX4 50 "TuneCatalogue" "entered" "I", .fieldLink RX4 11 "TuneCatalogue" "entries" "[LTuneCatalogue$Tune;"] ++ wsX40 ++ (vx_atS RX4 93 "java/lang/IndexOutOfBoundsException" ["java/lang/RuntimeException", "java/lang/Exception"]).filter goodWord)
def wsX4_notes_r1 : List Cond := [Cond.methodLink RX4 117 yX4_enteredOrThrow, Cond.instanceMethod yX4_enteredOrThrow, Cond.selects RX4 yX4_enteredOrThrow yX4_enteredOrThrow, Cond.initialized RX4, Cond.code yX4_enteredOrThrow cX4_enteredOrThrow 3 (some (.object "TuneCatalogue$Tune")), Cond.classLink RX4 89 "java/lang/IndexOutOfBoundsException", Cond.initialized "java/lang/IndexOutOfBoundsException", Cond.methodLink RX4 210 yX4_enteredOrNull, Cond.instanceMethod yX4_enteredOrNull, Cond.selects RX4 yX4_enteredOrNull yX4_enteredOrNull, Cond.code yX4_enteredOrNull cX4_enteredOrNull 2 (some (.object "TuneCatalogue$Tune")), Cond.fieldLink RX4 50 "TuneCatalogue" "entered" "I", Cond.fieldLink RX4 11 "TuneCatalogue" "entries" "[LTuneCatalogue$Tune;", Cond.methodLink RX4 85 yX3_size, Cond.instanceMethod yX3_size, Cond.selects RX3 yX3_size yX3_size, Cond.initialized RX3, Cond.code yX3_size cX3_size 1 (some .int), Cond.fieldLink RX3 14 "TuneCatalogue$Tune" "pitches" "LTuneCatalogue$Row;", Cond.methodLink RX3 23 yX2_size, Cond.instanceMethod yX2_size, Cond.selects RX2 yX2_size yX2_size, Cond.initialized RX2, Cond.code yX2_size cX2_size 1 (some .int)]
def wsX4_notes_r2 : List Cond := [Cond.fieldLink RX2 19 "TuneCatalogue$Row" "size" "I"]
def wsX4_notes : List Cond := .code yX4_notes cX4_notes 2 (some .int) :: ((wsX4_notes_r1 ++ wsX4_notes_r2) ++ wsX40 ++ wsX30 ++ wsX20 ++ (vx_atS RX4 93 "java/lang/IndexOutOfBoundsException" ["java/lang/RuntimeException", "java/lang/Exception"]).filter goodWord)
def wsX4_step_r1 : List Cond := [Cond.classLink RX4 89 "java/lang/IndexOutOfBoundsException", Cond.initialized "java/lang/IndexOutOfBoundsException", Cond.methodLink RX4 117 yX4_enteredOrThrow, Cond.instanceMethod yX4_enteredOrThrow, Cond.selects RX4 yX4_enteredOrThrow yX4_enteredOrThrow, Cond.initialized RX4, Cond.code yX4_enteredOrThrow cX4_enteredOrThrow 3 (some (.object "TuneCatalogue$Tune")), Cond.methodLink RX4 210 yX4_enteredOrNull, Cond.instanceMethod yX4_enteredOrNull, Cond.selects RX4 yX4_enteredOrNull yX4_enteredOrNull, Cond.code yX4_enteredOrNull cX4_enteredOrNull 2 (some (.object "TuneCatalogue$Tune")), Cond.fieldLink RX4 50 "TuneCatalogue" "entered" "I", Cond.fieldLink RX4 11 "TuneCatalogue" "entries" "[LTuneCatalogue$Tune;", Cond.methodLink RX4 85 yX3_size, Cond.instanceMethod yX3_size, Cond.selects RX3 yX3_size yX3_size, Cond.initialized RX3, Cond.code yX3_size cX3_size 1 (some .int), Cond.fieldLink RX3 14 "TuneCatalogue$Tune" "pitches" "LTuneCatalogue$Row;", Cond.methodLink RX3 23 yX2_size, Cond.instanceMethod yX2_size, Cond.selects RX2 yX2_size yX2_size, Cond.initialized RX2, Cond.code yX2_size cX2_size 1 (some .int)]
def wsX4_step_r2 : List Cond := [Cond.fieldLink RX2 19 "TuneCatalogue$Row" "size" "I", Cond.methodLink RX4 122 yX2_stepFrom, Cond.instanceMethod yX2_stepFrom, Cond.selects RX2 yX2_stepFrom yX2_stepFrom, Cond.code yX2_stepFrom cX2_stepFrom 2 (some .int), Cond.methodLink RX2 23 yX2_at, Cond.instanceMethod yX2_at, Cond.selects RX2 yX2_at yX2_at, Cond.code yX2_at cX2_at 2 (some .int), Cond.fieldLink RX2 13 "TuneCatalogue$Row" "numbers" "[I"]
def wsX4_step : List Cond := .code yX4_step cX4_step 4 (some .int) :: ((wsX4_step_r1 ++ wsX4_step_r2) ++ wsX30 ++ wsX40 ++ wsX20 ++ (vx_atS RX4 93 "java/lang/IndexOutOfBoundsException" ["java/lang/RuntimeException", "java/lang/Exception"]).filter goodWord)
def wsX4_shared_r1 : List Cond := [Cond.methodLink RX4 130 Lib.Math.max.name, Cond.static Lib.Math.max.name, Cond.initialized "java/lang/Math", Cond.code Lib.Math.max.name Lib.Math.max.code 2 (some .int), Cond.methodLink RX4 117 yX4_enteredOrThrow, Cond.instanceMethod yX4_enteredOrThrow, Cond.selects RX4 yX4_enteredOrThrow yX4_enteredOrThrow, Cond.initialized RX4, Cond.code yX4_enteredOrThrow cX4_enteredOrThrow 3 (some (.object "TuneCatalogue$Tune")), Cond.classLink RX4 89 "java/lang/IndexOutOfBoundsException", Cond.initialized "java/lang/IndexOutOfBoundsException", Cond.methodLink RX4 210 yX4_enteredOrNull, Cond.instanceMethod yX4_enteredOrNull, Cond.selects RX4 yX4_enteredOrNull yX4_enteredOrNull, Cond.code yX4_enteredOrNull cX4_enteredOrNull 2 (some (.object "TuneCatalogue$Tune")), Cond.fieldLink RX4 50 "TuneCatalogue" "entered" "I", Cond.fieldLink RX4 11 "TuneCatalogue" "entries" "[LTuneCatalogue$Tune;", Cond.methodLink RX4 125 yX2_size, Cond.instanceMethod yX2_size, Cond.selects RX2 yX2_size yX2_size, Cond.initialized RX2, Cond.code yX2_size cX2_size 1 (some .int), Cond.fieldLink RX2 19 "TuneCatalogue$Row" "size" "I", Cond.methodLink RX4 126 yX2_stepsInCommon]
def wsX4_shared_r2 : List Cond := [Cond.instanceMethod yX2_stepsInCommon, Cond.selects RX2 yX2_stepsInCommon yX2_stepsInCommon, Cond.code yX2_stepsInCommon cX2_stepsInCommon 6 (some .int), Cond.methodLink RX2 27 Lib.Math.min.name, Cond.static Lib.Math.min.name, Cond.code Lib.Math.min.name Lib.Math.min.code 2 (some .int), Cond.methodLink RX2 30 yX2_stepFrom, Cond.instanceMethod yX2_stepFrom, Cond.selects RX2 yX2_stepFrom yX2_stepFrom, Cond.code yX2_stepFrom cX2_stepFrom 2 (some .int), Cond.methodLink RX2 23 yX2_at, Cond.instanceMethod yX2_at, Cond.selects RX2 yX2_at yX2_at, Cond.code yX2_at cX2_at 2 (some .int), Cond.fieldLink RX2 13 "TuneCatalogue$Row" "numbers" "[I"]
def wsX4_shared : List Cond := .code yX4_shared cX4_shared 8 (some .int) :: ((wsX4_shared_r1 ++ wsX4_shared_r2) ++ wsX30 ++ wsX40 ++ wsX20 ++ (vx_atS RX4 93 "java/lang/IndexOutOfBoundsException" ["java/lang/RuntimeException", "java/lang/Exception"]).filter goodWord)
def wsX4_hum_r1 : List Cond := [Cond.classLink RX4 58 "java/lang/IllegalStateException", Cond.initialized "java/lang/IllegalStateException", Cond.fieldLink RX4 20 "TuneCatalogue" "humRow" "LTuneCatalogue$Row;", Cond.methodLink RX4 104 yX4_refuseUnlessWithin, Cond.static yX4_refuseUnlessWithin, Cond.initialized RX4, Cond.code yX4_refuseUnlessWithin cX4_refuseUnlessWithin 3 none, Cond.classLink RX4 184 "java/lang/IllegalArgumentException", Cond.initialized "java/lang/IllegalArgumentException", Cond.methodLink RX4 54 yX4_isWithin, Cond.static yX4_isWithin, Cond.code yX4_isWithin cX4_isWithin 3 (some .boolean), Cond.methodLink RX4 79 yX2_isFull, Cond.instanceMethod yX2_isFull, Cond.selects RX2 yX2_isFull yX2_isFull, Cond.initialized RX2, Cond.code yX2_isFull cX2_isFull 1 (some .boolean), Cond.fieldLink RX2 19 "TuneCatalogue$Row" "size" "I", Cond.fieldLink RX2 13 "TuneCatalogue$Row" "numbers" "[I", Cond.methodLink RX4 138 yX2_append, Cond.instanceMethod yX2_append, Cond.selects RX2 yX2_append yX2_append, Cond.code yX2_append cX2_append 2 none, Cond.methodLink RX4 125 yX2_size]
def wsX4_hum_r2 : List Cond := [Cond.instanceMethod yX2_size, Cond.selects RX2 yX2_size yX2_size, Cond.code yX2_size cX2_size 1 (some .int)]
def wsX4_hum : List Cond := .code yX4_hum cX4_hum 2 (some .int) :: ((wsX4_hum_r1 ++ wsX4_hum_r2) ++ wsX40 ++ wsX20 ++ (vx_atS RX4 62 "java/lang/IllegalStateException" ["java/lang/RuntimeException", "java/lang/Exception"]).filter goodWord ++ (vx_atS RX4 188 "java/lang/IllegalArgumentException" ["java/lang/RuntimeException", "java/lang/Exception"]).filter goodWord)
def wsX4_hush : List Cond := .code yX4_hush cX4_hush 2 (some .int) :: ([.fieldLink RX4 20 "TuneCatalogue" "humRow" "LTuneCatalogue$Row;", .methodLink RX4 125 yX2_size, .instanceMethod yX2_size, .selects RX2 yX2_size yX2_size, .initialized RX2, .code yX2_size cX2_size 1 (some .int), .fieldLink RX2 19 "TuneCatalogue$Row" "size" "I", .methodLink RX4 140 yX2_clear, .instanceMethod yX2_clear, .selects RX2 yX2_clear yX2_clear, .code yX2_clear cX2_clear 1 none] ++ wsX40 ++ wsX20)
def wsX4_hummed : List Cond := .code yX4_hummed cX4_hummed 1 (some .int) :: ([.fieldLink RX4 20 "TuneCatalogue" "humRow" "LTuneCatalogue$Row;", .methodLink RX4 125 yX2_size, .instanceMethod yX2_size, .selects RX2 yX2_size yX2_size, .initialized RX2, .code yX2_size cX2_size 1 (some .int), .fieldLink RX2 19 "TuneCatalogue$Row" "size" "I"] ++ wsX40 ++ wsX20)
def wsX4_setCosts : List Cond := .code yX4_setCosts cX4_setCosts 4 none :: ([.fieldLink RX4 29 "TuneCatalogue" "matching" "LTuneCatalogue$Matching;", .methodLink RX4 104 yX4_refuseUnlessWithin, .static yX4_refuseUnlessWithin, .initialized RX4, .code yX4_refuseUnlessWithin cX4_refuseUnlessWithin 3 none, .classLink RX4 184 "java/lang/IllegalArgumentException", .initialized "java/lang/IllegalArgumentException", .methodLink RX4 54 yX4_isWithin, .static yX4_isWithin, .code yX4_isWithin cX4_isWithin 3 (some .boolean)] ++ wsX40 ++ wsX10 ++ (vx_atS RX4 188 "java/lang/IllegalArgumentException" ["java/lang/RuntimeException", "java/lang/Exception"]).filter goodWord)
def wsX4_cost_r1 : List Cond := [Cond.fieldLink RX4 29 "TuneCatalogue" "matching" "LTuneCatalogue$Matching;", Cond.methodLink RX4 72 yX4_knownOrThrow, Cond.instanceMethod yX4_knownOrThrow, Cond.selects RX4 yX4_knownOrThrow yX4_knownOrThrow, Cond.initialized RX4, Cond.code yX4_knownOrThrow cX4_knownOrThrow 3 (some (.object "TuneCatalogue$Tune")), Cond.classLink RX4 89 "java/lang/IndexOutOfBoundsException", Cond.initialized "java/lang/IndexOutOfBoundsException", Cond.methodLink RX4 114 yX4_knownOrNull, Cond.instanceMethod yX4_knownOrNull, Cond.selects RX4 yX4_knownOrNull yX4_knownOrNull, Cond.code yX4_knownOrNull cX4_knownOrNull 3 (some (.object "TuneCatalogue$Tune")), Cond.methodLink RX4 210 yX4_enteredOrNull, Cond.instanceMethod yX4_enteredOrNull, Cond.selects RX4 yX4_enteredOrNull yX4_enteredOrNull, Cond.code yX4_enteredOrNull cX4_enteredOrNull 2 (some (.object "TuneCatalogue$Tune")), Cond.fieldLink RX4 50 "TuneCatalogue" "entered" "I", Cond.fieldLink RX4 11 "TuneCatalogue" "entries" "[LTuneCatalogue$Tune;", Cond.methodLink RX4 152 yX1_cheapestByTable, Cond.instanceMethod yX1_cheapestByTable, Cond.selects RX1 yX1_cheapestByTable yX1_cheapestByTable, Cond.initialized RX1, Cond.code yX1_cheapestByTable cX1_cheapestByTable 4 (some .int), Cond.fieldLink RX1 25 "TuneCatalogue$Matching" "hum" "LTuneCatalogue$Row;"]
def wsX4_cost_r2 : List Cond := [Cond.methodLink RX1 29 yX2_size, Cond.instanceMethod yX2_size, Cond.selects RX2 yX2_size yX2_size, Cond.initialized RX2, Cond.code yX2_size cX2_size 1 (some .int), Cond.fieldLink RX2 19 "TuneCatalogue$Row" "size" "I", Cond.methodLink RX1 35 yX3_size, Cond.instanceMethod yX3_size, Cond.selects RX3 yX3_size yX3_size, Cond.initialized RX3, Cond.code yX3_size cX3_size 1 (some .int), Cond.fieldLink RX3 14 "TuneCatalogue$Tune" "pitches" "LTuneCatalogue$Row;", Cond.methodLink RX3 23 yX2_size, Cond.methodLink RX1 38 yX1_cheapestTo, Cond.instanceMethod yX1_cheapestTo, Cond.selects RX1 yX1_cheapestTo yX1_cheapestTo, Cond.code yX1_cheapestTo cX1_cheapestTo 6 (some .int), Cond.methodLink RX1 61 yX1_costBy, Cond.instanceMethod yX1_costBy, Cond.selects RX1 yX1_costBy yX1_costBy, Cond.code yX1_costBy cX1_costBy 7 (some .int), Cond.methodLink RX1 46 yX1_tableAt, Cond.instanceMethod yX1_tableAt, Cond.selects RX1 yX1_tableAt yX1_tableAt]
def wsX4_cost_r3 : List Cond := [Cond.code yX1_tableAt cX1_tableAt 5 (some .int), Cond.fieldLink RX1 21 "TuneCatalogue$Matching" "table" "[I", Cond.static yX4_isWithin, Cond.code yX4_isWithin cX4_isWithin 3 (some .boolean), Cond.methodLink RX1 65 yX1_costOfMove, Cond.instanceMethod yX1_costOfMove, Cond.selects RX1 yX1_costOfMove yX1_costOfMove, Cond.code yX1_costOfMove cX1_costOfMove 11 (some .int), Cond.fieldLink RX1 9 "TuneCatalogue$Matching" "slip" "I", Cond.methodLink RX1 79 Lib.Math.abs.name, Cond.static Lib.Math.abs.name, Cond.initialized "java/lang/Math", Cond.code Lib.Math.abs.name Lib.Math.abs.code 1 (some .int), Cond.fieldLink RX1 15 "TuneCatalogue$Matching" "ornament" "I", Cond.fieldLink RX1 18 "TuneCatalogue$Matching" "repeat" "I", Cond.methodLink RX1 75 yX2_at, Cond.instanceMethod yX2_at, Cond.selects RX2 yX2_at yX2_at, Cond.code yX2_at cX2_at 2 (some .int), Cond.fieldLink RX2 13 "TuneCatalogue$Row" "numbers" "[I", Cond.methodLink RX1 50 yX1_cheaper, Cond.static yX1_cheaper, Cond.code yX1_cheaper cX1_cheaper 2 (some .int), Cond.methodLink RX1 87 Lib.Math.max.name]
def wsX4_cost_r4 : List Cond := [Cond.static Lib.Math.max.name, Cond.code Lib.Math.max.name Lib.Math.max.code 2 (some .int), Cond.methodLink RX1 90 Lib.Math.min.name, Cond.static Lib.Math.min.name, Cond.code Lib.Math.min.name Lib.Math.min.code 2 (some .int), Cond.methodLink RX1 42 yX1_setTableAt, Cond.instanceMethod yX1_setTableAt, Cond.selects RX1 yX1_setTableAt yX1_setTableAt, Cond.code yX1_setTableAt cX1_setTableAt 5 none]
def wsX4_cost : List Cond := .code yX4_cost cX4_cost 2 (some .int) :: ((wsX4_cost_r1 ++ (wsX4_cost_r2 ++ (wsX4_cost_r3 ++ wsX4_cost_r4))) ++ wsX40 ++ wsX30 ++ wsX10 ++ wsX20 ++ (vx_atS RX4 93 "java/lang/IndexOutOfBoundsException" ["java/lang/RuntimeException", "java/lang/Exception"]).filter goodWord)
def wsX4_costByAll_r1 : List Cond := [Cond.classLink RX4 58 "java/lang/IllegalStateException", Cond.initialized "java/lang/IllegalStateException", Cond.fieldLink RX4 20 "TuneCatalogue" "humRow" "LTuneCatalogue$Row;", Cond.fieldLink RX4 29 "TuneCatalogue" "matching" "LTuneCatalogue$Matching;", Cond.methodLink RX4 72 yX4_knownOrThrow, Cond.instanceMethod yX4_knownOrThrow, Cond.selects RX4 yX4_knownOrThrow yX4_knownOrThrow, Cond.initialized RX4, Cond.code yX4_knownOrThrow cX4_knownOrThrow 3 (some (.object "TuneCatalogue$Tune")), Cond.classLink RX4 89 "java/lang/IndexOutOfBoundsException", Cond.initialized "java/lang/IndexOutOfBoundsException", Cond.methodLink RX4 114 yX4_knownOrNull, Cond.instanceMethod yX4_knownOrNull, Cond.selects RX4 yX4_knownOrNull yX4_knownOrNull, Cond.code yX4_knownOrNull cX4_knownOrNull 3 (some (.object "TuneCatalogue$Tune")), Cond.methodLink RX4 210 yX4_enteredOrNull, Cond.instanceMethod yX4_enteredOrNull, Cond.selects RX4 yX4_enteredOrNull yX4_enteredOrNull, Cond.code yX4_enteredOrNull cX4_enteredOrNull 2 (some (.object "TuneCatalogue$Tune")), Cond.fieldLink RX4 50 "TuneCatalogue" "entered" "I", Cond.fieldLink RX4 11 "TuneCatalogue" "entries" "[LTuneCatalogue$Tune;", Cond.methodLink RX4 125 yX2_size, Cond.instanceMethod yX2_size, Cond.selects RX2 yX2_size yX2_size]
def wsX4_costByAll_r2 : List Cond := [Cond.initialized RX2, Cond.code yX2_size cX2_size 1 (some .int), Cond.fieldLink RX2 19 "TuneCatalogue$Row" "size" "I", Cond.methodLink RX4 158 yX1_cheapestByTrying, Cond.instanceMethod yX1_cheapestByTrying, Cond.selects RX1 yX1_cheapestByTrying yX1_cheapestByTrying, Cond.initialized RX1, Cond.code yX1_cheapestByTrying cX1_cheapestByTrying 2 (some .int), Cond.fieldLink RX1 25 "TuneCatalogue$Matching" "hum" "LTuneCatalogue$Row;", Cond.methodLink RX1 29 yX2_size, Cond.methodLink RX1 53 yX1_cheapestOnward, Cond.instanceMethod yX1_cheapestOnward, Cond.selects RX1 yX1_cheapestOnward yX1_cheapestOnward, Cond.code yX1_cheapestOnward cX1_cheapestOnward 7 (some .int), Cond.methodLink RX1 68 yX1_costOnwardBy, Cond.instanceMethod yX1_costOnwardBy, Cond.selects RX1 yX1_costOnwardBy yX1_costOnwardBy, Cond.methodLink RX1 50 yX1_cheaper, Cond.static yX1_cheaper, Cond.code yX1_cheaper cX1_cheaper 2 (some .int), Cond.methodLink RX1 87 Lib.Math.max.name, Cond.static Lib.Math.max.name, Cond.initialized "java/lang/Math", Cond.code Lib.Math.max.name Lib.Math.max.code 2 (some .int)]
def wsX4_costByAll_r3 : List Cond := [Cond.methodLink RX1 90 Lib.Math.min.name, Cond.static Lib.Math.min.name, Cond.code Lib.Math.min.name Lib.Math.min.code 2 (some .int), Cond.code yX1_costOnwardBy cX1_costOnwardBy 9 (some .int), Cond.methodLink RX1 35 yX3_size, Cond.instanceMethod yX3_size, Cond.selects RX3 yX3_size yX3_size, Cond.initialized RX3, Cond.code yX3_size cX3_size 1 (some .int), Cond.fieldLink RX3 14 "TuneCatalogue$Tune" "pitches" "LTuneCatalogue$Row;", Cond.methodLink RX3 23 yX2_size, Cond.methodLink RX1 65 yX1_costOfMove, Cond.instanceMethod yX1_costOfMove, Cond.selects RX1 yX1_costOfMove yX1_costOfMove, Cond.code yX1_costOfMove cX1_costOfMove 11 (some .int), Cond.fieldLink RX1 9 "TuneCatalogue$Matching" "slip" "I", Cond.methodLink RX1 79 Lib.Math.abs.name, Cond.static Lib.Math.abs.name, Cond.code Lib.Math.abs.name Lib.Math.abs.code 1 (some .int), Cond.fieldLink RX1 15 "TuneCatalogue$Matching" "ornament" "I", Cond.fieldLink RX1 18 "TuneCatalogue$Matching" "repeat" "I", Cond.methodLink RX1 75 yX2_at, Cond.instanceMethod yX2_at, Cond.selects RX2 yX2_at yX2_at]
def wsX4_costByAll_r4 : List Cond := [Cond.code yX2_at cX2_at 2 (some .int), Cond.fieldLink RX2 13 "TuneCatalogue$Row" "numbers" "[I"]
def wsX4_costByAll : List Cond := .code yX4_costByAll cX4_costByAll 3 (some .int) :: ((wsX4_costByAll_r1 ++ (wsX4_costByAll_r2 ++ (wsX4_costByAll_r3 ++ wsX4_costByAll_r4))) ++ wsX40 ++ wsX30 ++ wsX20 ++ wsX10 ++ (vx_atS RX4 62 "java/lang/IllegalStateException" ["java/lang/RuntimeException", "java/lang/Exception"]).filter goodWord ++ (vx_atS RX4 93 "java/lang/IndexOutOfBoundsException" ["java/lang/RuntimeException", "java/lang/Exception"]).filter goodWord)
def wsX4_priceTunes_r1 : List Cond := [Cond.fieldLink RX4 40 "TuneCatalogue" "priceRow" "LTuneCatalogue$Row;", Cond.fieldLink RX4 50 "TuneCatalogue" "entered" "I", Cond.fieldLink RX4 29 "TuneCatalogue" "matching" "LTuneCatalogue$Matching;", Cond.methodLink RX4 140 yX2_clear, Cond.instanceMethod yX2_clear, Cond.selects RX2 yX2_clear yX2_clear, Cond.initialized RX2, Cond.code yX2_clear cX2_clear 1 none, Cond.fieldLink RX2 19 "TuneCatalogue$Row" "size" "I", Cond.methodLink RX4 114 yX4_knownOrNull, Cond.instanceMethod yX4_knownOrNull, Cond.selects RX4 yX4_knownOrNull yX4_knownOrNull, Cond.initialized RX4, Cond.code yX4_knownOrNull cX4_knownOrNull 3 (some (.object "TuneCatalogue$Tune")), Cond.methodLink RX4 210 yX4_enteredOrNull, Cond.instanceMethod yX4_enteredOrNull, Cond.selects RX4 yX4_enteredOrNull yX4_enteredOrNull, Cond.code yX4_enteredOrNull cX4_enteredOrNull 2 (some (.object "TuneCatalogue$Tune")), Cond.fieldLink RX4 11 "TuneCatalogue" "entries" "[LTuneCatalogue$Tune;", Cond.methodLink RX4 152 yX1_cheapestByTable, Cond.instanceMethod yX1_cheapestByTable, Cond.selects RX1 yX1_cheapestByTable yX1_cheapestByTable, Cond.initialized RX1, Cond.code yX1_cheapestByTable cX1_cheapestByTable 4 (some .int)]
def wsX4_priceTunes_r2 : List Cond := [Cond.fieldLink RX1 25 "TuneCatalogue$Matching" "hum" "LTuneCatalogue$Row;", Cond.methodLink RX1 29 yX2_size, Cond.instanceMethod yX2_size, Cond.selects RX2 yX2_size yX2_size, Cond.code yX2_size cX2_size 1 (some .int), Cond.methodLink RX1 35 yX3_size, Cond.instanceMethod yX3_size, Cond.selects RX3 yX3_size yX3_size, Cond.initialized RX3, Cond.code yX3_size cX3_size 1 (some .int), Cond.fieldLink RX3 14 "TuneCatalogue$Tune" "pitches" "LTuneCatalogue$Row;", Cond.methodLink RX3 23 yX2_size, Cond.methodLink RX1 38 yX1_cheapestTo, Cond.instanceMethod yX1_cheapestTo, Cond.selects RX1 yX1_cheapestTo yX1_cheapestTo, Cond.code yX1_cheapestTo cX1_cheapestTo 6 (some .int), Cond.methodLink RX1 61 yX1_costBy, Cond.instanceMethod yX1_costBy, Cond.selects RX1 yX1_costBy yX1_costBy, Cond.code yX1_costBy cX1_costBy 7 (some .int), Cond.methodLink RX1 46 yX1_tableAt, Cond.instanceMethod yX1_tableAt, Cond.selects RX1 yX1_tableAt yX1_tableAt, Cond.code yX1_tableAt cX1_tableAt 5 (some .int)]
def wsX4_priceTunes_r3 : List Cond := [Cond.fieldLink RX1 21 "TuneCatalogue$Matching" "table" "[I", Cond.static yX4_isWithin, Cond.code yX4_isWithin cX4_isWithin 3 (some .boolean), Cond.methodLink RX1 65 yX1_costOfMove, Cond.instanceMethod yX1_costOfMove, Cond.selects RX1 yX1_costOfMove yX1_costOfMove, Cond.code yX1_costOfMove cX1_costOfMove 11 (some .int), Cond.fieldLink RX1 9 "TuneCatalogue$Matching" "slip" "I", Cond.methodLink RX1 79 Lib.Math.abs.name, Cond.static Lib.Math.abs.name, Cond.initialized "java/lang/Math", Cond.code Lib.Math.abs.name Lib.Math.abs.code 1 (some .int), Cond.fieldLink RX1 15 "TuneCatalogue$Matching" "ornament" "I", Cond.fieldLink RX1 18 "TuneCatalogue$Matching" "repeat" "I", Cond.methodLink RX1 75 yX2_at, Cond.instanceMethod yX2_at, Cond.selects RX2 yX2_at yX2_at, Cond.code yX2_at cX2_at 2 (some .int), Cond.fieldLink RX2 13 "TuneCatalogue$Row" "numbers" "[I", Cond.methodLink RX1 50 yX1_cheaper, Cond.static yX1_cheaper, Cond.code yX1_cheaper cX1_cheaper 2 (some .int), Cond.methodLink RX1 87 Lib.Math.max.name, Cond.static Lib.Math.max.name]
def wsX4_priceTunes_r4 : List Cond := [Cond.code Lib.Math.max.name Lib.Math.max.code 2 (some .int), Cond.methodLink RX1 90 Lib.Math.min.name, Cond.static Lib.Math.min.name, Cond.code Lib.Math.min.name Lib.Math.min.code 2 (some .int), Cond.methodLink RX1 42 yX1_setTableAt, Cond.instanceMethod yX1_setTableAt, Cond.selects RX1 yX1_setTableAt yX1_setTableAt, Cond.code yX1_setTableAt cX1_setTableAt 5 none, Cond.methodLink RX4 138 yX2_append, Cond.instanceMethod yX2_append, Cond.selects RX2 yX2_append yX2_append, Cond.code yX2_append cX2_append 2 none]
def wsX4_priceTunes : List Cond := .code yX4_priceTunes cX4_priceTunes 3 none :: ((wsX4_priceTunes_r1 ++ (wsX4_priceTunes_r2 ++ (wsX4_priceTunes_r3 ++ wsX4_priceTunes_r4))) ++ wsX40 ++ wsX20 ++ wsX30 ++ wsX10)
def wsX4_matches_r1 : List Cond := [Cond.fieldLink RX4 40 "TuneCatalogue" "priceRow" "LTuneCatalogue$Row;", Cond.methodLink RX4 161 yX4_priceTunes, Cond.instanceMethod yX4_priceTunes, Cond.selects RX4 yX4_priceTunes yX4_priceTunes, Cond.initialized RX4, Cond.code yX4_priceTunes cX4_priceTunes 3 none, Cond.fieldLink RX4 50 "TuneCatalogue" "entered" "I", Cond.fieldLink RX4 29 "TuneCatalogue" "matching" "LTuneCatalogue$Matching;", Cond.methodLink RX4 140 yX2_clear, Cond.instanceMethod yX2_clear, Cond.selects RX2 yX2_clear yX2_clear, Cond.initialized RX2, Cond.code yX2_clear cX2_clear 1 none, Cond.fieldLink RX2 19 "TuneCatalogue$Row" "size" "I", Cond.methodLink RX4 114 yX4_knownOrNull, Cond.instanceMethod yX4_knownOrNull, Cond.selects RX4 yX4_knownOrNull yX4_knownOrNull, Cond.code yX4_knownOrNull cX4_knownOrNull 3 (some (.object "TuneCatalogue$Tune")), Cond.methodLink RX4 210 yX4_enteredOrNull, Cond.instanceMethod yX4_enteredOrNull, Cond.selects RX4 yX4_enteredOrNull yX4_enteredOrNull, Cond.code yX4_enteredOrNull cX4_enteredOrNull 2 (some (.object "TuneCatalogue$Tune")), Cond.fieldLink RX4 11 "TuneCatalogue" "entries" "[LTuneCatalogue$Tune;", Cond.methodLink RX4 152 yX1_cheapestByTable]
def wsX4_matches_r2 : List Cond := [Cond.instanceMethod yX1_cheapestByTable, Cond.selects RX1 yX1_cheapestByTable yX1_cheapestByTable, Cond.initialized RX1, Cond.code yX1_cheapestByTable cX1_cheapestByTable 4 (some .int), Cond.fieldLink RX1 25 "TuneCatalogue$Matching" "hum" "LTuneCatalogue$Row;", Cond.methodLink RX1 29 yX2_size, Cond.instanceMethod yX2_size, Cond.selects RX2 yX2_size yX2_size, Cond.code yX2_size cX2_size 1 (some .int), Cond.methodLink RX1 35 yX3_size, Cond.instanceMethod yX3_size, Cond.selects RX3 yX3_size yX3_size, Cond.initialized RX3, Cond.code yX3_size cX3_size 1 (some .int), Cond.fieldLink RX3 14 "TuneCatalogue$Tune" "pitches" "LTuneCatalogue$Row;", Cond.methodLink RX3 23 yX2_size, Cond.methodLink RX1 38 yX1_cheapestTo, Cond.instanceMethod yX1_cheapestTo, Cond.selects RX1 yX1_cheapestTo yX1_cheapestTo, Cond.code yX1_cheapestTo cX1_cheapestTo 6 (some .int), Cond.methodLink RX1 61 yX1_costBy, Cond.instanceMethod yX1_costBy, Cond.selects RX1 yX1_costBy yX1_costBy, Cond.code yX1_costBy cX1_costBy 7 (some .int)]
def wsX4_matches_r3 : List Cond := [Cond.methodLink RX1 46 yX1_tableAt, Cond.instanceMethod yX1_tableAt, Cond.selects RX1 yX1_tableAt yX1_tableAt, Cond.code yX1_tableAt cX1_tableAt 5 (some .int), Cond.fieldLink RX1 21 "TuneCatalogue$Matching" "table" "[I", Cond.static yX4_isWithin, Cond.code yX4_isWithin cX4_isWithin 3 (some .boolean), Cond.methodLink RX1 65 yX1_costOfMove, Cond.instanceMethod yX1_costOfMove, Cond.selects RX1 yX1_costOfMove yX1_costOfMove, Cond.code yX1_costOfMove cX1_costOfMove 11 (some .int), Cond.fieldLink RX1 9 "TuneCatalogue$Matching" "slip" "I", Cond.methodLink RX1 79 Lib.Math.abs.name, Cond.static Lib.Math.abs.name, Cond.initialized "java/lang/Math", Cond.code Lib.Math.abs.name Lib.Math.abs.code 1 (some .int), Cond.fieldLink RX1 15 "TuneCatalogue$Matching" "ornament" "I", Cond.fieldLink RX1 18 "TuneCatalogue$Matching" "repeat" "I", Cond.methodLink RX1 75 yX2_at, Cond.instanceMethod yX2_at, Cond.selects RX2 yX2_at yX2_at, Cond.code yX2_at cX2_at 2 (some .int), Cond.fieldLink RX2 13 "TuneCatalogue$Row" "numbers" "[I", Cond.methodLink RX1 50 yX1_cheaper]
def wsX4_matches_r4 : List Cond := [Cond.static yX1_cheaper, Cond.code yX1_cheaper cX1_cheaper 2 (some .int), Cond.methodLink RX1 87 Lib.Math.max.name, Cond.static Lib.Math.max.name, Cond.code Lib.Math.max.name Lib.Math.max.code 2 (some .int), Cond.methodLink RX1 90 Lib.Math.min.name, Cond.static Lib.Math.min.name, Cond.code Lib.Math.min.name Lib.Math.min.code 2 (some .int), Cond.methodLink RX1 42 yX1_setTableAt, Cond.instanceMethod yX1_setTableAt, Cond.selects RX1 yX1_setTableAt yX1_setTableAt, Cond.code yX1_setTableAt cX1_setTableAt 5 none, Cond.methodLink RX4 138 yX2_append, Cond.instanceMethod yX2_append, Cond.selects RX2 yX2_append yX2_append, Cond.code yX2_append cX2_append 2 none, Cond.methodLink RX4 125 yX2_size, Cond.methodLink RX4 94 yX2_at]
def wsX4_matches : List Cond := .code yX4_matches cX4_matches 3 (some .int) :: ((wsX4_matches_r1 ++ (wsX4_matches_r2 ++ (wsX4_matches_r3 ++ wsX4_matches_r4))) ++ wsX40 ++ wsX20 ++ wsX30 ++ wsX10)
def wsX4_rankByPrice : List Cond := .code yX4_rankByPrice cX4_rankByPrice 7 (some .int) :: ([.fieldLink RX4 40 "TuneCatalogue" "priceRow" "LTuneCatalogue$Row;", .methodLink RX4 94 yX2_at, .instanceMethod yX2_at, .selects RX2 yX2_at yX2_at, .initialized RX2, .code yX2_at cX2_at 2 (some .int), .fieldLink RX2 19 "TuneCatalogue$Row" "size" "I", .fieldLink RX2 13 "TuneCatalogue$Row" "numbers" "[I", .methodLink RX4 125 yX2_size, .instanceMethod yX2_size, .selects RX2 yX2_size yX2_size, .code yX2_size cX2_size 1 (some .int)] ++ wsX40 ++ wsX20)
def wsX4_found_r1 : List Cond := [Cond.classLink RX4 89 "java/lang/IndexOutOfBoundsException", Cond.initialized "java/lang/IndexOutOfBoundsException", Cond.fieldLink RX4 40 "TuneCatalogue" "priceRow" "LTuneCatalogue$Row;", Cond.methodLink RX4 161 yX4_priceTunes, Cond.instanceMethod yX4_priceTunes, Cond.selects RX4 yX4_priceTunes yX4_priceTunes, Cond.initialized RX4, Cond.code yX4_priceTunes cX4_priceTunes 3 none, Cond.fieldLink RX4 50 "TuneCatalogue" "entered" "I", Cond.fieldLink RX4 29 "TuneCatalogue" "matching" "LTuneCatalogue$Matching;", Cond.methodLink RX4 140 yX2_clear, Cond.instanceMethod yX2_clear, Cond.selects RX2 yX2_clear yX2_clear, Cond.initialized RX2, Cond.code yX2_clear cX2_clear 1 none, Cond.fieldLink RX2 19 "TuneCatalogue$Row" "size" "I", Cond.methodLink RX4 114 yX4_knownOrNull, Cond.instanceMethod yX4_knownOrNull, Cond.selects RX4 yX4_knownOrNull yX4_knownOrNull, Cond.code yX4_knownOrNull cX4_knownOrNull 3 (some (.object "TuneCatalogue$Tune")), Cond.methodLink RX4 210 yX4_enteredOrNull, Cond.instanceMethod yX4_enteredOrNull, Cond.selects RX4 yX4_enteredOrNull yX4_enteredOrNull, Cond.code yX4_enteredOrNull cX4_enteredOrNull 2 (some (.object "TuneCatalogue$Tune"))]
def wsX4_found_r2 : List Cond := [Cond.fieldLink RX4 11 "TuneCatalogue" "entries" "[LTuneCatalogue$Tune;", Cond.methodLink RX4 152 yX1_cheapestByTable, Cond.instanceMethod yX1_cheapestByTable, Cond.selects RX1 yX1_cheapestByTable yX1_cheapestByTable, Cond.initialized RX1, Cond.code yX1_cheapestByTable cX1_cheapestByTable 4 (some .int), Cond.fieldLink RX1 25 "TuneCatalogue$Matching" "hum" "LTuneCatalogue$Row;", Cond.methodLink RX1 29 yX2_size, Cond.instanceMethod yX2_size, Cond.selects RX2 yX2_size yX2_size, Cond.code yX2_size cX2_size 1 (some .int), Cond.methodLink RX1 35 yX3_size, Cond.instanceMethod yX3_size, Cond.selects RX3 yX3_size yX3_size, Cond.initialized RX3, Cond.code yX3_size cX3_size 1 (some .int), Cond.fieldLink RX3 14 "TuneCatalogue$Tune" "pitches" "LTuneCatalogue$Row;", Cond.methodLink RX3 23 yX2_size, Cond.methodLink RX1 38 yX1_cheapestTo, Cond.instanceMethod yX1_cheapestTo, Cond.selects RX1 yX1_cheapestTo yX1_cheapestTo, Cond.code yX1_cheapestTo cX1_cheapestTo 6 (some .int), Cond.methodLink RX1 61 yX1_costBy, Cond.instanceMethod yX1_costBy]
def wsX4_found_r3 : List Cond := [Cond.selects RX1 yX1_costBy yX1_costBy, Cond.code yX1_costBy cX1_costBy 7 (some .int), Cond.methodLink RX1 46 yX1_tableAt, Cond.instanceMethod yX1_tableAt, Cond.selects RX1 yX1_tableAt yX1_tableAt, Cond.code yX1_tableAt cX1_tableAt 5 (some .int), Cond.fieldLink RX1 21 "TuneCatalogue$Matching" "table" "[I", Cond.static yX4_isWithin, Cond.code yX4_isWithin cX4_isWithin 3 (some .boolean), Cond.methodLink RX1 65 yX1_costOfMove, Cond.instanceMethod yX1_costOfMove, Cond.selects RX1 yX1_costOfMove yX1_costOfMove, Cond.code yX1_costOfMove cX1_costOfMove 11 (some .int), Cond.fieldLink RX1 9 "TuneCatalogue$Matching" "slip" "I", Cond.methodLink RX1 79 Lib.Math.abs.name, Cond.static Lib.Math.abs.name, Cond.initialized "java/lang/Math", Cond.code Lib.Math.abs.name Lib.Math.abs.code 1 (some .int), Cond.fieldLink RX1 15 "TuneCatalogue$Matching" "ornament" "I", Cond.fieldLink RX1 18 "TuneCatalogue$Matching" "repeat" "I", Cond.methodLink RX1 75 yX2_at, Cond.instanceMethod yX2_at, Cond.selects RX2 yX2_at yX2_at, Cond.code yX2_at cX2_at 2 (some .int)]
def wsX4_found_r4 : List Cond := [Cond.fieldLink RX2 13 "TuneCatalogue$Row" "numbers" "[I", Cond.methodLink RX1 50 yX1_cheaper, Cond.static yX1_cheaper, Cond.code yX1_cheaper cX1_cheaper 2 (some .int), Cond.methodLink RX1 87 Lib.Math.max.name, Cond.static Lib.Math.max.name, Cond.code Lib.Math.max.name Lib.Math.max.code 2 (some .int), Cond.methodLink RX1 90 Lib.Math.min.name, Cond.static Lib.Math.min.name, Cond.code Lib.Math.min.name Lib.Math.min.code 2 (some .int), Cond.methodLink RX1 42 yX1_setTableAt, Cond.instanceMethod yX1_setTableAt, Cond.selects RX1 yX1_setTableAt yX1_setTableAt, Cond.code yX1_setTableAt cX1_setTableAt 5 none, Cond.methodLink RX4 138 yX2_append, Cond.instanceMethod yX2_append, Cond.selects RX2 yX2_append yX2_append, Cond.code yX2_append cX2_append 2 none, Cond.methodLink RX4 125 yX2_size, Cond.methodLink RX4 94 yX2_at, Cond.methodLink RX4 164 yX4_rankByPrice, Cond.instanceMethod yX4_rankByPrice, Cond.selects RX4 yX4_rankByPrice yX4_rankByPrice, Cond.code yX4_rankByPrice cX4_rankByPrice 7 (some .int)]
def wsX4_found : List Cond := .code yX4_found cX4_found 3 (some .int) :: ((wsX4_found_r1 ++ (wsX4_found_r2 ++ (wsX4_found_r3 ++ wsX4_found_r4))) ++ wsX40 ++ wsX20 ++ wsX30 ++ wsX10 ++ (vx_atS RX4 93 "java/lang/IndexOutOfBoundsException" ["java/lang/RuntimeException", "java/lang/Exception"]).filter goodWord)
def wsX4_likeContour_r1 : List Cond := [Cond.fieldLink RX4 50 "TuneCatalogue" "entered" "I", Cond.fieldLink RX4 20 "TuneCatalogue" "humRow" "LTuneCatalogue$Row;", Cond.methodLink RX4 114 yX4_knownOrNull, Cond.instanceMethod yX4_knownOrNull, Cond.selects RX4 yX4_knownOrNull yX4_knownOrNull, Cond.initialized RX4, Cond.code yX4_knownOrNull cX4_knownOrNull 3 (some (.object "TuneCatalogue$Tune")), Cond.methodLink RX4 210 yX4_enteredOrNull, Cond.instanceMethod yX4_enteredOrNull, Cond.selects RX4 yX4_enteredOrNull yX4_enteredOrNull, Cond.code yX4_enteredOrNull cX4_enteredOrNull 2 (some (.object "TuneCatalogue$Tune")), Cond.fieldLink RX4 11 "TuneCatalogue" "entries" "[LTuneCatalogue$Tune;", Cond.methodLink RX4 169 yX2_beginsWithContourOf, Cond.instanceMethod yX2_beginsWithContourOf, Cond.selects RX2 yX2_beginsWithContourOf yX2_beginsWithContourOf, Cond.initialized RX2, Cond.code yX2_beginsWithContourOf cX2_beginsWithContourOf 3 (some .boolean), Cond.fieldLink RX2 19 "TuneCatalogue$Row" "size" "I", Cond.methodLink RX2 30 yX2_stepFrom, Cond.instanceMethod yX2_stepFrom, Cond.selects RX2 yX2_stepFrom yX2_stepFrom, Cond.code yX2_stepFrom cX2_stepFrom 2 (some .int), Cond.methodLink RX2 23 yX2_at, Cond.instanceMethod yX2_at]
def wsX4_likeContour_r2 : List Cond := [Cond.selects RX2 yX2_at yX2_at, Cond.code yX2_at cX2_at 2 (some .int), Cond.fieldLink RX2 13 "TuneCatalogue$Row" "numbers" "[I", Cond.methodLink RX2 33 yX2_direction, Cond.static yX2_direction, Cond.code yX2_direction cX2_direction 1 (some .int)]
def wsX4_likeContour : List Cond := .code yX4_likeContour cX4_likeContour 4 (some .int) :: ((wsX4_likeContour_r1 ++ wsX4_likeContour_r2) ++ wsX40 ++ wsX30 ++ wsX20)
def wsX4_refuseUnlessRunOfHum : List Cond := .code yX4_refuseUnlessRunOfHum cX4_refuseUnlessRunOfHum 2 none :: ([.classLink RX4 58 "java/lang/IllegalStateException", .initialized "java/lang/IllegalStateException", .fieldLink RX4 20 "TuneCatalogue" "humRow" "LTuneCatalogue$Row;", .methodLink RX4 104 yX4_refuseUnlessWithin, .static yX4_refuseUnlessWithin, .initialized RX4, .code yX4_refuseUnlessWithin cX4_refuseUnlessWithin 3 none, .classLink RX4 184 "java/lang/IllegalArgumentException", .initialized "java/lang/IllegalArgumentException", .methodLink RX4 54 yX4_isWithin, .static yX4_isWithin, .code yX4_isWithin cX4_isWithin 3 (some .boolean), .methodLink RX4 125 yX2_size, .instanceMethod yX2_size, .selects RX2 yX2_size yX2_size, .initialized RX2, .code yX2_size cX2_size 1 (some .int), .fieldLink RX2 19 "TuneCatalogue$Row" "size" "I"] ++ wsX40 ++ wsX20 ++ (vx_atS RX4 62 "java/lang/IllegalStateException" ["java/lang/RuntimeException", "java/lang/Exception"]).filter goodWord ++ (vx_atS RX4 188 "java/lang/IllegalArgumentException" ["java/lang/RuntimeException", "java/lang/Exception"]).filter goodWord)
def wsX4_collectPlacesOf_r1 : List Cond := [Cond.fieldLink RX4 20 "TuneCatalogue" "humRow" "LTuneCatalogue$Row;", Cond.fieldLink RX4 43 "TuneCatalogue" "placeRow" "LTuneCatalogue$Row;", Cond.methodLink RX4 125 yX2_size, Cond.instanceMethod yX2_size, Cond.selects RX2 yX2_size yX2_size, Cond.initialized RX2, Cond.code yX2_size cX2_size 1 (some .int), Cond.fieldLink RX2 19 "TuneCatalogue$Row" "size" "I", Cond.methodLink RX4 126 yX2_stepsInCommon, Cond.instanceMethod yX2_stepsInCommon, Cond.selects RX2 yX2_stepsInCommon yX2_stepsInCommon, Cond.code yX2_stepsInCommon cX2_stepsInCommon 6 (some .int), Cond.methodLink RX2 27 Lib.Math.min.name, Cond.static Lib.Math.min.name, Cond.initialized "java/lang/Math", Cond.code Lib.Math.min.name Lib.Math.min.code 2 (some .int), Cond.methodLink RX2 30 yX2_stepFrom, Cond.instanceMethod yX2_stepFrom, Cond.selects RX2 yX2_stepFrom yX2_stepFrom, Cond.code yX2_stepFrom cX2_stepFrom 2 (some .int), Cond.methodLink RX2 23 yX2_at, Cond.instanceMethod yX2_at, Cond.selects RX2 yX2_at yX2_at, Cond.code yX2_at cX2_at 2 (some .int)]
def wsX4_collectPlacesOf_r2 : List Cond := [Cond.fieldLink RX2 13 "TuneCatalogue$Row" "numbers" "[I", Cond.methodLink RX4 138 yX2_append, Cond.instanceMethod yX2_append, Cond.selects RX2 yX2_append yX2_append, Cond.code yX2_append cX2_append 2 none]
def wsX4_collectPlacesOf : List Cond := .code yX4_collectPlacesOf cX4_collectPlacesOf 6 none :: ((wsX4_collectPlacesOf_r1 ++ wsX4_collectPlacesOf_r2) ++ wsX40 ++ wsX20)
def wsX4_collectPlaces_r1 : List Cond := [Cond.fieldLink RX4 43 "TuneCatalogue" "placeRow" "LTuneCatalogue$Row;", Cond.fieldLink RX4 50 "TuneCatalogue" "entered" "I", Cond.methodLink RX4 140 yX2_clear, Cond.instanceMethod yX2_clear, Cond.selects RX2 yX2_clear yX2_clear, Cond.initialized RX2, Cond.code yX2_clear cX2_clear 1 none, Cond.fieldLink RX2 19 "TuneCatalogue$Row" "size" "I", Cond.methodLink RX4 114 yX4_knownOrNull, Cond.instanceMethod yX4_knownOrNull, Cond.selects RX4 yX4_knownOrNull yX4_knownOrNull, Cond.initialized RX4, Cond.code yX4_knownOrNull cX4_knownOrNull 3 (some (.object "TuneCatalogue$Tune")), Cond.methodLink RX4 210 yX4_enteredOrNull, Cond.instanceMethod yX4_enteredOrNull, Cond.selects RX4 yX4_enteredOrNull yX4_enteredOrNull, Cond.code yX4_enteredOrNull cX4_enteredOrNull 2 (some (.object "TuneCatalogue$Tune")), Cond.fieldLink RX4 11 "TuneCatalogue" "entries" "[LTuneCatalogue$Tune;", Cond.methodLink RX4 217 yX4_collectPlacesOf, Cond.instanceMethod yX4_collectPlacesOf, Cond.selects RX4 yX4_collectPlacesOf yX4_collectPlacesOf, Cond.code yX4_collectPlacesOf cX4_collectPlacesOf 6 none, Cond.fieldLink RX4 20 "TuneCatalogue" "humRow" "LTuneCatalogue$Row;", Cond.methodLink RX4 125 yX2_size]
def wsX4_collectPlaces_r2 : List Cond := [Cond.instanceMethod yX2_size, Cond.selects RX2 yX2_size yX2_size, Cond.code yX2_size cX2_size 1 (some .int), Cond.methodLink RX4 126 yX2_stepsInCommon, Cond.instanceMethod yX2_stepsInCommon, Cond.selects RX2 yX2_stepsInCommon yX2_stepsInCommon, Cond.code yX2_stepsInCommon cX2_stepsInCommon 6 (some .int), Cond.methodLink RX2 27 Lib.Math.min.name, Cond.static Lib.Math.min.name, Cond.initialized "java/lang/Math", Cond.code Lib.Math.min.name Lib.Math.min.code 2 (some .int), Cond.methodLink RX2 30 yX2_stepFrom, Cond.instanceMethod yX2_stepFrom, Cond.selects RX2 yX2_stepFrom yX2_stepFrom, Cond.code yX2_stepFrom cX2_stepFrom 2 (some .int), Cond.methodLink RX2 23 yX2_at, Cond.instanceMethod yX2_at, Cond.selects RX2 yX2_at yX2_at, Cond.code yX2_at cX2_at 2 (some .int), Cond.fieldLink RX2 13 "TuneCatalogue$Row" "numbers" "[I", Cond.methodLink RX4 138 yX2_append, Cond.instanceMethod yX2_append, Cond.selects RX2 yX2_append yX2_append, Cond.code yX2_append cX2_append 2 none]
def wsX4_collectPlaces : List Cond := .code yX4_collectPlaces cX4_collectPlaces 4 none :: ((wsX4_collectPlaces_r1 ++ wsX4_collectPlaces_r2) ++ wsX40 ++ wsX30 ++ wsX20)
def wsX4_places_r1 : List Cond := [Cond.fieldLink RX4 43 "TuneCatalogue" "placeRow" "LTuneCatalogue$Row;", Cond.methodLink RX4 173 yX4_refuseUnlessRunOfHum, Cond.instanceMethod yX4_refuseUnlessRunOfHum, Cond.selects RX4 yX4_refuseUnlessRunOfHum yX4_refuseUnlessRunOfHum, Cond.initialized RX4, Cond.code yX4_refuseUnlessRunOfHum cX4_refuseUnlessRunOfHum 2 none, Cond.classLink RX4 58 "java/lang/IllegalStateException", Cond.initialized "java/lang/IllegalStateException", Cond.fieldLink RX4 20 "TuneCatalogue" "humRow" "LTuneCatalogue$Row;", Cond.methodLink RX4 104 yX4_refuseUnlessWithin, Cond.static yX4_refuseUnlessWithin, Cond.code yX4_refuseUnlessWithin cX4_refuseUnlessWithin 3 none, Cond.classLink RX4 184 "java/lang/IllegalArgumentException", Cond.initialized "java/lang/IllegalArgumentException", Cond.methodLink RX4 54 yX4_isWithin, Cond.static yX4_isWithin, Cond.code yX4_isWithin cX4_isWithin 3 (some .boolean), Cond.methodLink RX4 125 yX2_size, Cond.instanceMethod yX2_size, Cond.selects RX2 yX2_size yX2_size, Cond.initialized RX2, Cond.code yX2_size cX2_size 1 (some .int), Cond.fieldLink RX2 19 "TuneCatalogue$Row" "size" "I", Cond.methodLink RX4 176 yX4_collectPlaces]
def wsX4_places_r2 : List Cond := [Cond.instanceMethod yX4_collectPlaces, Cond.selects RX4 yX4_collectPlaces yX4_collectPlaces, Cond.code yX4_collectPlaces cX4_collectPlaces 4 none, Cond.fieldLink RX4 50 "TuneCatalogue" "entered" "I", Cond.methodLink RX4 140 yX2_clear, Cond.instanceMethod yX2_clear, Cond.selects RX2 yX2_clear yX2_clear, Cond.code yX2_clear cX2_clear 1 none, Cond.methodLink RX4 114 yX4_knownOrNull, Cond.instanceMethod yX4_knownOrNull, Cond.selects RX4 yX4_knownOrNull yX4_knownOrNull, Cond.code yX4_knownOrNull cX4_knownOrNull 3 (some (.object "TuneCatalogue$Tune")), Cond.methodLink RX4 210 yX4_enteredOrNull, Cond.instanceMethod yX4_enteredOrNull, Cond.selects RX4 yX4_enteredOrNull yX4_enteredOrNull, Cond.code yX4_enteredOrNull cX4_enteredOrNull 2 (some (.object "TuneCatalogue$Tune")), Cond.fieldLink RX4 11 "TuneCatalogue" "entries" "[LTuneCatalogue$Tune;", Cond.methodLink RX4 217 yX4_collectPlacesOf, Cond.instanceMethod yX4_collectPlacesOf, Cond.selects RX4 yX4_collectPlacesOf yX4_collectPlacesOf, Cond.code yX4_collectPlacesOf cX4_collectPlacesOf 6 none, Cond.methodLink RX4 126 yX2_stepsInCommon, Cond.instanceMethod yX2_stepsInCommon, Cond.selects RX2 yX2_stepsInCommon yX2_stepsInCommon]
def wsX4_places_r3 : List Cond := [Cond.code yX2_stepsInCommon cX2_stepsInCommon 6 (some .int), Cond.methodLink RX2 27 Lib.Math.min.name, Cond.static Lib.Math.min.name, Cond.initialized "java/lang/Math", Cond.code Lib.Math.min.name Lib.Math.min.code 2 (some .int), Cond.methodLink RX2 30 yX2_stepFrom, Cond.instanceMethod yX2_stepFrom, Cond.selects RX2 yX2_stepFrom yX2_stepFrom, Cond.code yX2_stepFrom cX2_stepFrom 2 (some .int), Cond.methodLink RX2 23 yX2_at, Cond.instanceMethod yX2_at, Cond.selects RX2 yX2_at yX2_at, Cond.code yX2_at cX2_at 2 (some .int), Cond.fieldLink RX2 13 "TuneCatalogue$Row" "numbers" "[I", Cond.methodLink RX4 138 yX2_append, Cond.instanceMethod yX2_append, Cond.selects RX2 yX2_append yX2_append, Cond.code yX2_append cX2_append 2 none]
def wsX4_places : List Cond := .code yX4_places cX4_places 2 (some .int) :: ((wsX4_places_r1 ++ (wsX4_places_r2 ++ wsX4_places_r3)) ++ wsX40 ++ wsX20 ++ wsX30 ++ (vx_atS RX4 62 "java/lang/IllegalStateException" ["java/lang/RuntimeException", "java/lang/Exception"]).filter goodWord ++ (vx_atS RX4 188 "java/lang/IllegalArgumentException" ["java/lang/RuntimeException", "java/lang/Exception"]).filter goodWord)
def wsX4_place_r1 : List Cond := [Cond.classLink RX4 89 "java/lang/IndexOutOfBoundsException", Cond.initialized "java/lang/IndexOutOfBoundsException", Cond.fieldLink RX4 43 "TuneCatalogue" "placeRow" "LTuneCatalogue$Row;", Cond.methodLink RX4 173 yX4_refuseUnlessRunOfHum, Cond.instanceMethod yX4_refuseUnlessRunOfHum, Cond.selects RX4 yX4_refuseUnlessRunOfHum yX4_refuseUnlessRunOfHum, Cond.initialized RX4, Cond.code yX4_refuseUnlessRunOfHum cX4_refuseUnlessRunOfHum 2 none, Cond.classLink RX4 58 "java/lang/IllegalStateException", Cond.initialized "java/lang/IllegalStateException", Cond.fieldLink RX4 20 "TuneCatalogue" "humRow" "LTuneCatalogue$Row;", Cond.methodLink RX4 104 yX4_refuseUnlessWithin, Cond.static yX4_refuseUnlessWithin, Cond.code yX4_refuseUnlessWithin cX4_refuseUnlessWithin 3 none, Cond.classLink RX4 184 "java/lang/IllegalArgumentException", Cond.initialized "java/lang/IllegalArgumentException", Cond.methodLink RX4 54 yX4_isWithin, Cond.static yX4_isWithin, Cond.code yX4_isWithin cX4_isWithin 3 (some .boolean), Cond.methodLink RX4 125 yX2_size, Cond.instanceMethod yX2_size, Cond.selects RX2 yX2_size yX2_size, Cond.initialized RX2, Cond.code yX2_size cX2_size 1 (some .int)]
def wsX4_place_r2 : List Cond := [Cond.fieldLink RX2 19 "TuneCatalogue$Row" "size" "I", Cond.methodLink RX4 176 yX4_collectPlaces, Cond.instanceMethod yX4_collectPlaces, Cond.selects RX4 yX4_collectPlaces yX4_collectPlaces, Cond.code yX4_collectPlaces cX4_collectPlaces 4 none, Cond.fieldLink RX4 50 "TuneCatalogue" "entered" "I", Cond.methodLink RX4 140 yX2_clear, Cond.instanceMethod yX2_clear, Cond.selects RX2 yX2_clear yX2_clear, Cond.code yX2_clear cX2_clear 1 none, Cond.methodLink RX4 114 yX4_knownOrNull, Cond.instanceMethod yX4_knownOrNull, Cond.selects RX4 yX4_knownOrNull yX4_knownOrNull, Cond.code yX4_knownOrNull cX4_knownOrNull 3 (some (.object "TuneCatalogue$Tune")), Cond.methodLink RX4 210 yX4_enteredOrNull, Cond.instanceMethod yX4_enteredOrNull, Cond.selects RX4 yX4_enteredOrNull yX4_enteredOrNull, Cond.code yX4_enteredOrNull cX4_enteredOrNull 2 (some (.object "TuneCatalogue$Tune")), Cond.fieldLink RX4 11 "TuneCatalogue" "entries" "[LTuneCatalogue$Tune;", Cond.methodLink RX4 217 yX4_collectPlacesOf, Cond.instanceMethod yX4_collectPlacesOf, Cond.selects RX4 yX4_collectPlacesOf yX4_collectPlacesOf, Cond.code yX4_collectPlacesOf cX4_collectPlacesOf 6 none, Cond.methodLink RX4 126 yX2_stepsInCommon]
def wsX4_place_r3 : List Cond := [Cond.instanceMethod yX2_stepsInCommon, Cond.selects RX2 yX2_stepsInCommon yX2_stepsInCommon, Cond.code yX2_stepsInCommon cX2_stepsInCommon 6 (some .int), Cond.methodLink RX2 27 Lib.Math.min.name, Cond.static Lib.Math.min.name, Cond.initialized "java/lang/Math", Cond.code Lib.Math.min.name Lib.Math.min.code 2 (some .int), Cond.methodLink RX2 30 yX2_stepFrom, Cond.instanceMethod yX2_stepFrom, Cond.selects RX2 yX2_stepFrom yX2_stepFrom, Cond.code yX2_stepFrom cX2_stepFrom 2 (some .int), Cond.methodLink RX2 23 yX2_at, Cond.instanceMethod yX2_at, Cond.selects RX2 yX2_at yX2_at, Cond.code yX2_at cX2_at 2 (some .int), Cond.fieldLink RX2 13 "TuneCatalogue$Row" "numbers" "[I", Cond.methodLink RX4 138 yX2_append, Cond.instanceMethod yX2_append, Cond.selects RX2 yX2_append yX2_append, Cond.code yX2_append cX2_append 2 none, Cond.methodLink RX4 94 yX2_at]
def wsX4_place : List Cond := .code yX4_place cX4_place 3 (some .int) :: ((wsX4_place_r1 ++ (wsX4_place_r2 ++ wsX4_place_r3)) ++ wsX40 ++ wsX20 ++ wsX30 ++ (vx_atS RX4 93 "java/lang/IndexOutOfBoundsException" ["java/lang/RuntimeException", "java/lang/Exception"]).filter goodWord ++ (vx_atS RX4 62 "java/lang/IllegalStateException" ["java/lang/RuntimeException", "java/lang/Exception"]).filter goodWord ++ (vx_atS RX4 188 "java/lang/IllegalArgumentException" ["java/lang/RuntimeException", "java/lang/Exception"]).filter goodWord)
def wsX4_refuseUnlessEntered : List Cond := .code yX4_refuseUnlessEntered cX4_refuseUnlessEntered 3 none :: ([.methodLink RX4 117 yX4_enteredOrThrow, .instanceMethod yX4_enteredOrThrow, .selects RX4 yX4_enteredOrThrow yX4_enteredOrThrow, .initialized RX4, .code yX4_enteredOrThrow cX4_enteredOrThrow 3 (some (.object "TuneCatalogue$Tune")), .classLink RX4 89 "java/lang/IndexOutOfBoundsException", .initialized "java/lang/IndexOutOfBoundsException", .methodLink RX4 210 yX4_enteredOrNull, .instanceMethod yX4_enteredOrNull, .selects RX4 yX4_enteredOrNull yX4_enteredOrNull, .code yX4_enteredOrNull cX4_enteredOrNull 2 (some (.object "TuneCatalogue$Tune")), .fieldLink RX4 50 "TuneCatalogue" "entered" "I", .fieldLink RX4 11 "TuneCatalogue" "entries" "[LTuneCatalogue$Tune;"] ++ wsX40 ++ (vx_atS RX4 93 "java/lang/IndexOutOfBoundsException" ["java/lang/RuntimeException", "java/lang/Exception"]).filter goodWord)
def wsX4_link_r1 : List Cond := [Cond.classLink RX4 184 "java/lang/IllegalArgumentException", Cond.initialized "java/lang/IllegalArgumentException", Cond.classLink RX4 58 "java/lang/IllegalStateException", Cond.initialized "java/lang/IllegalStateException", Cond.fieldLink RX4 36 "TuneCatalogue" "links" "LTuneCatalogue$Links;", Cond.methodLink RX4 181 yX4_refuseUnlessEntered, Cond.instanceMethod yX4_refuseUnlessEntered, Cond.selects RX4 yX4_refuseUnlessEntered yX4_refuseUnlessEntered, Cond.initialized RX4, Cond.code yX4_refuseUnlessEntered cX4_refuseUnlessEntered 3 none, Cond.methodLink RX4 117 yX4_enteredOrThrow, Cond.instanceMethod yX4_enteredOrThrow, Cond.selects RX4 yX4_enteredOrThrow yX4_enteredOrThrow, Cond.code yX4_enteredOrThrow cX4_enteredOrThrow 3 (some (.object "TuneCatalogue$Tune")), Cond.classLink RX4 89 "java/lang/IndexOutOfBoundsException", Cond.initialized "java/lang/IndexOutOfBoundsException", Cond.methodLink RX4 210 yX4_enteredOrNull, Cond.instanceMethod yX4_enteredOrNull, Cond.selects RX4 yX4_enteredOrNull yX4_enteredOrNull, Cond.code yX4_enteredOrNull cX4_enteredOrNull 2 (some (.object "TuneCatalogue$Tune")), Cond.fieldLink RX4 50 "TuneCatalogue" "entered" "I", Cond.fieldLink RX4 11 "TuneCatalogue" "entries" "[LTuneCatalogue$Tune;", Cond.methodLink RX4 189 yX0_areLinked, Cond.instanceMethod yX0_areLinked]
def wsX4_link_r2 : List Cond := [Cond.selects RX0 yX0_areLinked yX0_areLinked, Cond.initialized RX0, Cond.code yX0_areLinked cX0_areLinked 3 (some .boolean), Cond.fieldLink RX0 14 "TuneCatalogue$Links" "partners" "LTuneCatalogue$Row;", Cond.methodLink RX0 23 yX2_at, Cond.instanceMethod yX2_at, Cond.selects RX2 yX2_at yX2_at, Cond.initialized RX2, Cond.code yX2_at cX2_at 2 (some .int), Cond.fieldLink RX2 19 "TuneCatalogue$Row" "size" "I", Cond.fieldLink RX2 13 "TuneCatalogue$Row" "numbers" "[I", Cond.methodLink RX0 27 yX0_setOf, Cond.static yX0_setOf, Cond.code yX0_setOf cX0_setOf 1 (some .int), Cond.methodLink RX4 195 yX0_toggle, Cond.instanceMethod yX0_toggle, Cond.selects RX0 yX0_toggle yX0_toggle, Cond.code yX0_toggle cX0_toggle 3 none, Cond.methodLink RX0 30 yX2_put, Cond.instanceMethod yX2_put, Cond.selects RX2 yX2_put yX2_put, Cond.code yX2_put cX2_put 3 none, Cond.methodLink RX4 198 yX0_countFamilies, Cond.instanceMethod yX0_countFamilies]
def wsX4_link_r3 : List Cond := [Cond.selects RX0 yX0_countFamilies yX0_countFamilies, Cond.code yX0_countFamilies cX0_countFamilies 3 (some .int), Cond.methodLink RX0 34 yX2_size, Cond.instanceMethod yX2_size, Cond.selects RX2 yX2_size yX2_size, Cond.code yX2_size cX2_size 1 (some .int), Cond.methodLink RX0 38 yX0_lowestOfFamily, Cond.instanceMethod yX0_lowestOfFamily, Cond.selects RX0 yX0_lowestOfFamily yX0_lowestOfFamily, Cond.code yX0_lowestOfFamily cX0_lowestOfFamily 4 (some .int), Cond.methodLink RX0 41 yX0_withPartners, Cond.instanceMethod yX0_withPartners, Cond.selects RX0 yX0_withPartners yX0_withPartners, Cond.code yX0_withPartners cX0_withPartners 4 (some .int)]
def wsX4_link : List Cond := .code yX4_link cX4_link 3 (some .int) :: ((wsX4_link_r1 ++ (wsX4_link_r2 ++ wsX4_link_r3)) ++ wsX40 ++ wsX00 ++ wsX20 ++ (vx_atS RX4 188 "java/lang/IllegalArgumentException" ["java/lang/RuntimeException", "java/lang/Exception"]).filter goodWord ++ (vx_atS RX4 62 "java/lang/IllegalStateException" ["java/lang/RuntimeException", "java/lang/Exception"]).filter goodWord ++ (vx_atS RX4 93 "java/lang/IndexOutOfBoundsException" ["java/lang/RuntimeException", "java/lang/Exception"]).filter goodWord)
def wsX4_cut_r1 : List Cond := [Cond.classLink RX4 58 "java/lang/IllegalStateException", Cond.initialized "java/lang/IllegalStateException", Cond.fieldLink RX4 36 "TuneCatalogue" "links" "LTuneCatalogue$Links;", Cond.methodLink RX4 181 yX4_refuseUnlessEntered, Cond.instanceMethod yX4_refuseUnlessEntered, Cond.selects RX4 yX4_refuseUnlessEntered yX4_refuseUnlessEntered, Cond.initialized RX4, Cond.code yX4_refuseUnlessEntered cX4_refuseUnlessEntered 3 none, Cond.methodLink RX4 117 yX4_enteredOrThrow, Cond.instanceMethod yX4_enteredOrThrow, Cond.selects RX4 yX4_enteredOrThrow yX4_enteredOrThrow, Cond.code yX4_enteredOrThrow cX4_enteredOrThrow 3 (some (.object "TuneCatalogue$Tune")), Cond.classLink RX4 89 "java/lang/IndexOutOfBoundsException", Cond.initialized "java/lang/IndexOutOfBoundsException", Cond.methodLink RX4 210 yX4_enteredOrNull, Cond.instanceMethod yX4_enteredOrNull, Cond.selects RX4 yX4_enteredOrNull yX4_enteredOrNull, Cond.code yX4_enteredOrNull cX4_enteredOrNull 2 (some (.object "TuneCatalogue$Tune")), Cond.fieldLink RX4 50 "TuneCatalogue" "entered" "I", Cond.fieldLink RX4 11 "TuneCatalogue" "entries" "[LTuneCatalogue$Tune;", Cond.methodLink RX4 189 yX0_areLinked, Cond.instanceMethod yX0_areLinked, Cond.selects RX0 yX0_areLinked yX0_areLinked, Cond.initialized RX0]
def wsX4_cut_r2 : List Cond := [Cond.code yX0_areLinked cX0_areLinked 3 (some .boolean), Cond.fieldLink RX0 14 "TuneCatalogue$Links" "partners" "LTuneCatalogue$Row;", Cond.methodLink RX0 23 yX2_at, Cond.instanceMethod yX2_at, Cond.selects RX2 yX2_at yX2_at, Cond.initialized RX2, Cond.code yX2_at cX2_at 2 (some .int), Cond.fieldLink RX2 19 "TuneCatalogue$Row" "size" "I", Cond.fieldLink RX2 13 "TuneCatalogue$Row" "numbers" "[I", Cond.methodLink RX0 27 yX0_setOf, Cond.static yX0_setOf, Cond.code yX0_setOf cX0_setOf 1 (some .int), Cond.methodLink RX4 195 yX0_toggle, Cond.instanceMethod yX0_toggle, Cond.selects RX0 yX0_toggle yX0_toggle, Cond.code yX0_toggle cX0_toggle 3 none, Cond.methodLink RX0 30 yX2_put, Cond.instanceMethod yX2_put, Cond.selects RX2 yX2_put yX2_put, Cond.code yX2_put cX2_put 3 none, Cond.methodLink RX4 198 yX0_countFamilies, Cond.instanceMethod yX0_countFamilies, Cond.selects RX0 yX0_countFamilies yX0_countFamilies, Cond.code yX0_countFamilies cX0_countFamilies 3 (some .int)]
def wsX4_cut_r3 : List Cond := [Cond.methodLink RX0 34 yX2_size, Cond.instanceMethod yX2_size, Cond.selects RX2 yX2_size yX2_size, Cond.code yX2_size cX2_size 1 (some .int), Cond.methodLink RX0 38 yX0_lowestOfFamily, Cond.instanceMethod yX0_lowestOfFamily, Cond.selects RX0 yX0_lowestOfFamily yX0_lowestOfFamily, Cond.code yX0_lowestOfFamily cX0_lowestOfFamily 4 (some .int), Cond.methodLink RX0 41 yX0_withPartners, Cond.instanceMethod yX0_withPartners, Cond.selects RX0 yX0_withPartners yX0_withPartners, Cond.code yX0_withPartners cX0_withPartners 4 (some .int)]
def wsX4_cut : List Cond := .code yX4_cut cX4_cut 3 (some .int) :: ((wsX4_cut_r1 ++ (wsX4_cut_r2 ++ wsX4_cut_r3)) ++ wsX40 ++ wsX00 ++ wsX20 ++ (vx_atS RX4 62 "java/lang/IllegalStateException" ["java/lang/RuntimeException", "java/lang/Exception"]).filter goodWord ++ (vx_atS RX4 93 "java/lang/IndexOutOfBoundsException" ["java/lang/RuntimeException", "java/lang/Exception"]).filter goodWord)
def wsX4_family_r1 : List Cond := [Cond.fieldLink RX4 36 "TuneCatalogue" "links" "LTuneCatalogue$Links;", Cond.methodLink RX4 117 yX4_enteredOrThrow, Cond.instanceMethod yX4_enteredOrThrow, Cond.selects RX4 yX4_enteredOrThrow yX4_enteredOrThrow, Cond.initialized RX4, Cond.code yX4_enteredOrThrow cX4_enteredOrThrow 3 (some (.object "TuneCatalogue$Tune")), Cond.classLink RX4 89 "java/lang/IndexOutOfBoundsException", Cond.initialized "java/lang/IndexOutOfBoundsException", Cond.methodLink RX4 210 yX4_enteredOrNull, Cond.instanceMethod yX4_enteredOrNull, Cond.selects RX4 yX4_enteredOrNull yX4_enteredOrNull, Cond.code yX4_enteredOrNull cX4_enteredOrNull 2 (some (.object "TuneCatalogue$Tune")), Cond.fieldLink RX4 50 "TuneCatalogue" "entered" "I", Cond.fieldLink RX4 11 "TuneCatalogue" "entries" "[LTuneCatalogue$Tune;", Cond.methodLink RX4 203 yX0_lowestOfFamily, Cond.instanceMethod yX0_lowestOfFamily, Cond.selects RX0 yX0_lowestOfFamily yX0_lowestOfFamily, Cond.initialized RX0, Cond.code yX0_lowestOfFamily cX0_lowestOfFamily 4 (some .int), Cond.fieldLink RX0 14 "TuneCatalogue$Links" "partners" "LTuneCatalogue$Row;", Cond.methodLink RX0 27 yX0_setOf, Cond.static yX0_setOf, Cond.code yX0_setOf cX0_setOf 1 (some .int), Cond.methodLink RX0 34 yX2_size]
def wsX4_family_r2 : List Cond := [Cond.instanceMethod yX2_size, Cond.selects RX2 yX2_size yX2_size, Cond.initialized RX2, Cond.code yX2_size cX2_size 1 (some .int), Cond.fieldLink RX2 19 "TuneCatalogue$Row" "size" "I", Cond.methodLink RX0 41 yX0_withPartners, Cond.instanceMethod yX0_withPartners, Cond.selects RX0 yX0_withPartners yX0_withPartners, Cond.code yX0_withPartners cX0_withPartners 4 (some .int), Cond.methodLink RX0 23 yX2_at, Cond.instanceMethod yX2_at, Cond.selects RX2 yX2_at yX2_at, Cond.code yX2_at cX2_at 2 (some .int), Cond.fieldLink RX2 13 "TuneCatalogue$Row" "numbers" "[I"]
def wsX4_family : List Cond := .code yX4_family cX4_family 2 (some .int) :: ((wsX4_family_r1 ++ wsX4_family_r2) ++ wsX40 ++ wsX00 ++ wsX20 ++ (vx_atS RX4 93 "java/lang/IndexOutOfBoundsException" ["java/lang/RuntimeException", "java/lang/Exception"]).filter goodWord)
def wsX4_families_r1 : List Cond := [Cond.fieldLink RX4 36 "TuneCatalogue" "links" "LTuneCatalogue$Links;", Cond.methodLink RX4 198 yX0_countFamilies, Cond.instanceMethod yX0_countFamilies, Cond.selects RX0 yX0_countFamilies yX0_countFamilies, Cond.initialized RX0, Cond.code yX0_countFamilies cX0_countFamilies 3 (some .int), Cond.fieldLink RX0 14 "TuneCatalogue$Links" "partners" "LTuneCatalogue$Row;", Cond.methodLink RX0 34 yX2_size, Cond.instanceMethod yX2_size, Cond.selects RX2 yX2_size yX2_size, Cond.initialized RX2, Cond.code yX2_size cX2_size 1 (some .int), Cond.fieldLink RX2 19 "TuneCatalogue$Row" "size" "I", Cond.methodLink RX0 38 yX0_lowestOfFamily, Cond.instanceMethod yX0_lowestOfFamily, Cond.selects RX0 yX0_lowestOfFamily yX0_lowestOfFamily, Cond.code yX0_lowestOfFamily cX0_lowestOfFamily 4 (some .int), Cond.methodLink RX0 27 yX0_setOf, Cond.static yX0_setOf, Cond.code yX0_setOf cX0_setOf 1 (some .int), Cond.methodLink RX0 41 yX0_withPartners, Cond.instanceMethod yX0_withPartners, Cond.selects RX0 yX0_withPartners yX0_withPartners, Cond.code yX0_withPartners cX0_withPartners 4 (some .int)]
def wsX4_families_r2 : List Cond := [Cond.methodLink RX0 23 yX2_at, Cond.instanceMethod yX2_at, Cond.selects RX2 yX2_at yX2_at, Cond.code yX2_at cX2_at 2 (some .int), Cond.fieldLink RX2 13 "TuneCatalogue$Row" "numbers" "[I"]
def wsX4_families : List Cond := .code yX4_families cX4_families 1 (some .int) :: ((wsX4_families_r1 ++ wsX4_families_r2) ++ wsX40 ++ wsX00 ++ wsX20)
def wsX5_init : List Cond := .code yX5_init cX5_init 1 none :: ([.methodLink RX5 1 objectInit, .instanceMethod objectInit, .code objectInit ⟨#[0xb1]⟩ 1 none, .arrayClass .int, .fieldLink RX5 7 "TuneCatalogueModel" "pitches" "[I", .fieldLink RX5 13 "TuneCatalogueModel" "lengths" "[I", .fieldLink RX5 16 "TuneCatalogueModel" "sizes" "[I", .arrayClass .boolean, .fieldLink RX5 19 "TuneCatalogueModel" "areRetired" "[Z", .fieldLink RX5 23 "TuneCatalogueModel" "hum" "[I", .fieldLink RX5 26 "TuneCatalogueModel" "slip" "I", .fieldLink RX5 30 "TuneCatalogueModel" "ornament" "I", .fieldLink RX5 33 "TuneCatalogueModel" "repeat" "I", .fieldLink RX5 36 "TuneCatalogueModel" "costs" "[I", .fieldLink RX5 39 "TuneCatalogueModel" "links" "[I"] ++ wsX50)
def wsX5_thrown : List Cond := .code yX5_thrown cX5_thrown 1 (some .int) :: ([.fieldLink RX5 42 "TuneCatalogueModel" "thrown" "I"] ++ wsX50)
def wsX5_holds : List Cond := .code yX5_holds cX5_holds 2 (some .boolean) :: ([.fieldLink RX5 42 "TuneCatalogueModel" "thrown" "I"] ++ wsX50)
def wsX5_in : List Cond := .code yX5_in cX5_in 3 (some .boolean) :: ([])
def wsX5_isTune : List Cond := .code yX5_isTune cX5_isTune 2 (some .boolean) :: ([.fieldLink RX5 45 "TuneCatalogueModel" "tunes" "I", .methodLink RX5 48 yX5_in, .static yX5_in, .initialized RX5, .code yX5_in cX5_in 3 (some .boolean)] ++ wsX50)
def wsX5_isKnown : List Cond := .code yX5_isKnown cX5_isKnown 2 (some .boolean) :: ([.fieldLink RX5 19 "TuneCatalogueModel" "areRetired" "[Z", .methodLink RX5 52 yX5_isTune, .instanceMethod yX5_isTune, .selects RX5 yX5_isTune yX5_isTune, .initialized RX5, .code yX5_isTune cX5_isTune 2 (some .boolean), .fieldLink RX5 45 "TuneCatalogueModel" "tunes" "I", .methodLink RX5 48 yX5_in, .static yX5_in, .code yX5_in cX5_in 3 (some .boolean)] ++ wsX50)
def wsX5_isNote : List Cond := .code yX5_isNote cX5_isNote 2 (some .boolean) :: ([.methodLink RX5 48 yX5_in, .static yX5_in, .initialized RX5, .code yX5_in cX5_in 3 (some .boolean)])
def wsX5_sets : List Cond := .code yX5_sets cX5_sets 5 none :: ([.fieldLink RX5 7 "TuneCatalogueModel" "pitches" "[I", .fieldLink RX5 13 "TuneCatalogueModel" "lengths" "[I"] ++ wsX50)
def wsX5_add : List Cond := .code yX5_add cX5_add 3 (some .int) :: ([.fieldLink RX5 45 "TuneCatalogueModel" "tunes" "I", .fieldLink RX5 16 "TuneCatalogueModel" "sizes" "[I", .methodLink RX5 56 yX5_isNote, .static yX5_isNote, .initialized RX5, .code yX5_isNote cX5_isNote 2 (some .boolean), .methodLink RX5 48 yX5_in, .static yX5_in, .code yX5_in cX5_in 3 (some .boolean), .methodLink RX5 60 yX5_holds, .instanceMethod yX5_holds, .selects RX5 yX5_holds yX5_holds, .code yX5_holds cX5_holds 2 (some .boolean), .fieldLink RX5 42 "TuneCatalogueModel" "thrown" "I", .methodLink RX5 63 yX5_sets, .instanceMethod yX5_sets, .selects RX5 yX5_sets yX5_sets, .code yX5_sets cX5_sets 5 none, .fieldLink RX5 7 "TuneCatalogueModel" "pitches" "[I", .fieldLink RX5 13 "TuneCatalogueModel" "lengths" "[I"] ++ wsX50)
def wsX5_note_r1 : List Cond := [Cond.fieldLink RX5 16 "TuneCatalogueModel" "sizes" "[I", Cond.methodLink RX5 67 yX5_isKnown, Cond.instanceMethod yX5_isKnown, Cond.selects RX5 yX5_isKnown yX5_isKnown, Cond.initialized RX5, Cond.code yX5_isKnown cX5_isKnown 2 (some .boolean), Cond.fieldLink RX5 19 "TuneCatalogueModel" "areRetired" "[Z", Cond.methodLink RX5 52 yX5_isTune, Cond.instanceMethod yX5_isTune, Cond.selects RX5 yX5_isTune yX5_isTune, Cond.code yX5_isTune cX5_isTune 2 (some .boolean), Cond.fieldLink RX5 45 "TuneCatalogueModel" "tunes" "I", Cond.methodLink RX5 48 yX5_in, Cond.static yX5_in, Cond.code yX5_in cX5_in 3 (some .boolean), Cond.methodLink RX5 56 yX5_isNote, Cond.static yX5_isNote, Cond.code yX5_isNote cX5_isNote 2 (some .boolean), Cond.methodLink RX5 60 yX5_holds, Cond.instanceMethod yX5_holds, Cond.selects RX5 yX5_holds yX5_holds, Cond.code yX5_holds cX5_holds 2 (some .boolean), Cond.fieldLink RX5 42 "TuneCatalogueModel" "thrown" "I", Cond.methodLink RX5 63 yX5_sets]
def wsX5_note_r2 : List Cond := [Cond.instanceMethod yX5_sets, Cond.selects RX5 yX5_sets yX5_sets, Cond.code yX5_sets cX5_sets 5 none, Cond.fieldLink RX5 7 "TuneCatalogueModel" "pitches" "[I", Cond.fieldLink RX5 13 "TuneCatalogueModel" "lengths" "[I"]
def wsX5_note : List Cond := .code yX5_note cX5_note 4 (some .int) :: ((wsX5_note_r1 ++ wsX5_note_r2) ++ wsX50)
def wsX5_correct_r1 : List Cond := [Cond.fieldLink RX5 16 "TuneCatalogueModel" "sizes" "[I", Cond.fieldLink RX5 7 "TuneCatalogueModel" "pitches" "[I", Cond.methodLink RX5 67 yX5_isKnown, Cond.instanceMethod yX5_isKnown, Cond.selects RX5 yX5_isKnown yX5_isKnown, Cond.initialized RX5, Cond.code yX5_isKnown cX5_isKnown 2 (some .boolean), Cond.fieldLink RX5 19 "TuneCatalogueModel" "areRetired" "[Z", Cond.methodLink RX5 52 yX5_isTune, Cond.instanceMethod yX5_isTune, Cond.selects RX5 yX5_isTune yX5_isTune, Cond.code yX5_isTune cX5_isTune 2 (some .boolean), Cond.fieldLink RX5 45 "TuneCatalogueModel" "tunes" "I", Cond.methodLink RX5 48 yX5_in, Cond.static yX5_in, Cond.code yX5_in cX5_in 3 (some .boolean), Cond.methodLink RX5 56 yX5_isNote, Cond.static yX5_isNote, Cond.code yX5_isNote cX5_isNote 2 (some .boolean), Cond.methodLink RX5 60 yX5_holds, Cond.instanceMethod yX5_holds, Cond.selects RX5 yX5_holds yX5_holds, Cond.code yX5_holds cX5_holds 2 (some .boolean), Cond.fieldLink RX5 42 "TuneCatalogueModel" "thrown" "I"]
def wsX5_correct_r2 : List Cond := [Cond.methodLink RX5 63 yX5_sets, Cond.instanceMethod yX5_sets, Cond.selects RX5 yX5_sets yX5_sets, Cond.code yX5_sets cX5_sets 5 none, Cond.fieldLink RX5 13 "TuneCatalogueModel" "lengths" "[I"]
def wsX5_correct : List Cond := .code yX5_correct cX5_correct 7 (some .int) :: ((wsX5_correct_r1 ++ wsX5_correct_r2) ++ wsX50)
def wsX5_mayShift : List Cond := .code yX5_mayShift cX5_mayShift 4 (some .boolean) :: ([.fieldLink RX5 16 "TuneCatalogueModel" "sizes" "[I", .fieldLink RX5 7 "TuneCatalogueModel" "pitches" "[I", .methodLink RX5 48 yX5_in, .static yX5_in, .initialized RX5, .code yX5_in cX5_in 3 (some .boolean)] ++ wsX50)
def wsX5_shift_r1 : List Cond := [Cond.fieldLink RX5 16 "TuneCatalogueModel" "sizes" "[I", Cond.fieldLink RX5 7 "TuneCatalogueModel" "pitches" "[I", Cond.methodLink RX5 67 yX5_isKnown, Cond.instanceMethod yX5_isKnown, Cond.selects RX5 yX5_isKnown yX5_isKnown, Cond.initialized RX5, Cond.code yX5_isKnown cX5_isKnown 2 (some .boolean), Cond.fieldLink RX5 19 "TuneCatalogueModel" "areRetired" "[Z", Cond.methodLink RX5 52 yX5_isTune, Cond.instanceMethod yX5_isTune, Cond.selects RX5 yX5_isTune yX5_isTune, Cond.code yX5_isTune cX5_isTune 2 (some .boolean), Cond.fieldLink RX5 45 "TuneCatalogueModel" "tunes" "I", Cond.methodLink RX5 48 yX5_in, Cond.static yX5_in, Cond.code yX5_in cX5_in 3 (some .boolean), Cond.methodLink RX5 70 yX5_mayShift, Cond.instanceMethod yX5_mayShift, Cond.selects RX5 yX5_mayShift yX5_mayShift, Cond.code yX5_mayShift cX5_mayShift 4 (some .boolean), Cond.methodLink RX5 60 yX5_holds, Cond.instanceMethod yX5_holds, Cond.selects RX5 yX5_holds yX5_holds, Cond.code yX5_holds cX5_holds 2 (some .boolean)]
def wsX5_shift_r2 : List Cond := [Cond.fieldLink RX5 42 "TuneCatalogueModel" "thrown" "I"]
def wsX5_shift : List Cond := .code yX5_shift cX5_shift 4 none :: ((wsX5_shift_r1 ++ wsX5_shift_r2) ++ wsX50)
def wsX5_retire : List Cond := .code yX5_retire cX5_retire 4 (some .int) :: ([.fieldLink RX5 19 "TuneCatalogueModel" "areRetired" "[Z", .fieldLink RX5 45 "TuneCatalogueModel" "tunes" "I", .methodLink RX5 67 yX5_isKnown, .instanceMethod yX5_isKnown, .selects RX5 yX5_isKnown yX5_isKnown, .initialized RX5, .code yX5_isKnown cX5_isKnown 2 (some .boolean), .methodLink RX5 52 yX5_isTune, .instanceMethod yX5_isTune, .selects RX5 yX5_isTune yX5_isTune, .code yX5_isTune cX5_isTune 2 (some .boolean), .methodLink RX5 48 yX5_in, .static yX5_in, .code yX5_in cX5_in 3 (some .boolean), .methodLink RX5 60 yX5_holds, .instanceMethod yX5_holds, .selects RX5 yX5_holds yX5_holds, .code yX5_holds cX5_holds 2 (some .boolean), .fieldLink RX5 42 "TuneCatalogueModel" "thrown" "I"] ++ wsX50)
def wsX5_tunes : List Cond := .code yX5_tunes cX5_tunes 1 (some .int) :: ([.fieldLink RX5 42 "TuneCatalogueModel" "thrown" "I", .fieldLink RX5 45 "TuneCatalogueModel" "tunes" "I"] ++ wsX50)
def wsX5_notes : List Cond := .code yX5_notes cX5_notes 2 (some .int) :: ([.fieldLink RX5 16 "TuneCatalogueModel" "sizes" "[I", .methodLink RX5 52 yX5_isTune, .instanceMethod yX5_isTune, .selects RX5 yX5_isTune yX5_isTune, .initialized RX5, .code yX5_isTune cX5_isTune 2 (some .boolean), .fieldLink RX5 45 "TuneCatalogueModel" "tunes" "I", .methodLink RX5 48 yX5_in, .static yX5_in, .code yX5_in cX5_in 3 (some .boolean), .methodLink RX5 60 yX5_holds, .instanceMethod yX5_holds, .selects RX5 yX5_holds yX5_holds, .code yX5_holds cX5_holds 2 (some .boolean), .fieldLink RX5 42 "TuneCatalogueModel" "thrown" "I"] ++ wsX50)
def wsX5_stepOf : List Cond := .code yX5_stepOf cX5_stepOf 3 (some .int) :: ([.fieldLink RX5 7 "TuneCatalogueModel" "pitches" "[I"] ++ wsX50)
def wsX5_step : List Cond := .code yX5_step cX5_step 3 (some .int) :: ([.fieldLink RX5 16 "TuneCatalogueModel" "sizes" "[I", .methodLink RX5 52 yX5_isTune, .instanceMethod yX5_isTune, .selects RX5 yX5_isTune yX5_isTune, .initialized RX5, .code yX5_isTune cX5_isTune 2 (some .boolean), .fieldLink RX5 45 "TuneCatalogueModel" "tunes" "I", .methodLink RX5 48 yX5_in, .static yX5_in, .code yX5_in cX5_in 3 (some .boolean), .methodLink RX5 60 yX5_holds, .instanceMethod yX5_holds, .selects RX5 yX5_holds yX5_holds, .code yX5_holds cX5_holds 2 (some .boolean), .fieldLink RX5 42 "TuneCatalogueModel" "thrown" "I", .methodLink RX5 73 yX5_stepOf, .instanceMethod yX5_stepOf, .selects RX5 yX5_stepOf yX5_stepOf, .code yX5_stepOf cX5_stepOf 3 (some .int), .fieldLink RX5 7 "TuneCatalogueModel" "pitches" "[I"] ++ wsX50)
def wsX5_alike : List Cond := .code yX5_alike cX5_alike 6 (some .int) :: ([.fieldLink RX5 16 "TuneCatalogueModel" "sizes" "[I", .methodLink RX5 73 yX5_stepOf, .instanceMethod yX5_stepOf, .selects RX5 yX5_stepOf yX5_stepOf, .initialized RX5, .code yX5_stepOf cX5_stepOf 3 (some .int), .fieldLink RX5 7 "TuneCatalogueModel" "pitches" "[I"] ++ wsX50)
def wsX5_shared : List Cond := .code yX5_shared cX5_shared 6 (some .int) :: ([.methodLink RX5 52 yX5_isTune, .instanceMethod yX5_isTune, .selects RX5 yX5_isTune yX5_isTune, .initialized RX5, .code yX5_isTune cX5_isTune 2 (some .boolean), .fieldLink RX5 45 "TuneCatalogueModel" "tunes" "I", .methodLink RX5 48 yX5_in, .static yX5_in, .code yX5_in cX5_in 3 (some .boolean), .methodLink RX5 60 yX5_holds, .instanceMethod yX5_holds, .selects RX5 yX5_holds yX5_holds, .code yX5_holds cX5_holds 2 (some .boolean), .fieldLink RX5 42 "TuneCatalogueModel" "thrown" "I", .methodLink RX5 77 yX5_alike, .instanceMethod yX5_alike, .selects RX5 yX5_alike yX5_alike, .code yX5_alike cX5_alike 6 (some .int), .fieldLink RX5 16 "TuneCatalogueModel" "sizes" "[I", .methodLink RX5 73 yX5_stepOf, .instanceMethod yX5_stepOf, .selects RX5 yX5_stepOf yX5_stepOf, .code yX5_stepOf cX5_stepOf 3 (some .int), .fieldLink RX5 7 "TuneCatalogueModel" "pitches" "[I"] ++ wsX50)
def wsX5_hum : List Cond := .code yX5_hum cX5_hum 2 (some .int) :: ([.fieldLink RX5 81 "TuneCatalogueModel" "hummed" "I", .fieldLink RX5 23 "TuneCatalogueModel" "hum" "[I", .methodLink RX5 48 yX5_in, .static yX5_in, .initialized RX5, .code yX5_in cX5_in 3 (some .boolean), .methodLink RX5 60 yX5_holds, .instanceMethod yX5_holds, .selects RX5 yX5_holds yX5_holds, .code yX5_holds cX5_holds 2 (some .boolean), .fieldLink RX5 42 "TuneCatalogueModel" "thrown" "I"] ++ wsX50)
def wsX5_hush : List Cond := .code yX5_hush cX5_hush 2 (some .int) :: ([.fieldLink RX5 42 "TuneCatalogueModel" "thrown" "I", .fieldLink RX5 81 "TuneCatalogueModel" "hummed" "I"] ++ wsX50)
def wsX5_hummed : List Cond := .code yX5_hummed cX5_hummed 1 (some .int) :: ([.fieldLink RX5 42 "TuneCatalogueModel" "thrown" "I", .fieldLink RX5 81 "TuneCatalogueModel" "hummed" "I"] ++ wsX50)
def wsX5_setCosts : List Cond := .code yX5_setCosts cX5_setCosts 4 none :: ([.fieldLink RX5 26 "TuneCatalogueModel" "slip" "I", .fieldLink RX5 30 "TuneCatalogueModel" "ornament" "I", .fieldLink RX5 33 "TuneCatalogueModel" "repeat" "I", .methodLink RX5 48 yX5_in, .static yX5_in, .initialized RX5, .code yX5_in cX5_in 3 (some .boolean), .methodLink RX5 60 yX5_holds, .instanceMethod yX5_holds, .selects RX5 yX5_holds yX5_holds, .code yX5_holds cX5_holds 2 (some .boolean), .fieldLink RX5 42 "TuneCatalogueModel" "thrown" "I"] ++ wsX50)
def wsX5_costOfNotes : List Cond := .code yX5_costOfNotes cX5_costOfNotes 6 (some .int) :: ([.fieldLink RX5 30 "TuneCatalogueModel" "ornament" "I", .fieldLink RX5 13 "TuneCatalogueModel" "lengths" "[I"] ++ wsX50)
def wsX5_costOfPitches : List Cond := .code yX5_costOfPitches cX5_costOfPitches 5 (some .int) :: ([.fieldLink RX5 23 "TuneCatalogueModel" "hum" "[I", .fieldLink RX5 33 "TuneCatalogueModel" "repeat" "I"] ++ wsX50)
def wsX5_laid : List Cond := .code yX5_laid cX5_laid 7 (some .int) :: ([.fieldLink RX5 36 "TuneCatalogueModel" "costs" "[I", .constant RX5 84 (1000000000), .fieldLink RX5 7 "TuneCatalogueModel" "pitches" "[I", .fieldLink RX5 23 "TuneCatalogueModel" "hum" "[I", .fieldLink RX5 26 "TuneCatalogueModel" "slip" "I", .methodLink RX5 85 yX5_costOfNotes, .instanceMethod yX5_costOfNotes, .selects RX5 yX5_costOfNotes yX5_costOfNotes, .initialized RX5, .code yX5_costOfNotes cX5_costOfNotes 6 (some .int), .fieldLink RX5 30 "TuneCatalogueModel" "ornament" "I", .fieldLink RX5 13 "TuneCatalogueModel" "lengths" "[I", .methodLink RX5 89 yX5_costOfPitches, .instanceMethod yX5_costOfPitches, .selects RX5 yX5_costOfPitches yX5_costOfPitches, .code yX5_costOfPitches cX5_costOfPitches 5 (some .int), .fieldLink RX5 33 "TuneCatalogueModel" "repeat" "I"] ++ wsX50)
def wsX5_least : List Cond := .code yX5_least cX5_least 2 (some .int) :: ([])
def wsX5_costOf_r1 : List Cond := [Cond.constant RX5 84 (1000000000), Cond.fieldLink RX5 81 "TuneCatalogueModel" "hummed" "I", Cond.fieldLink RX5 36 "TuneCatalogueModel" "costs" "[I", Cond.fieldLink RX5 16 "TuneCatalogueModel" "sizes" "[I", Cond.methodLink RX5 92 yX5_laid, Cond.instanceMethod yX5_laid, Cond.selects RX5 yX5_laid yX5_laid, Cond.initialized RX5, Cond.code yX5_laid cX5_laid 7 (some .int), Cond.fieldLink RX5 7 "TuneCatalogueModel" "pitches" "[I", Cond.fieldLink RX5 23 "TuneCatalogueModel" "hum" "[I", Cond.fieldLink RX5 26 "TuneCatalogueModel" "slip" "I", Cond.methodLink RX5 85 yX5_costOfNotes, Cond.instanceMethod yX5_costOfNotes, Cond.selects RX5 yX5_costOfNotes yX5_costOfNotes, Cond.code yX5_costOfNotes cX5_costOfNotes 6 (some .int), Cond.fieldLink RX5 30 "TuneCatalogueModel" "ornament" "I", Cond.fieldLink RX5 13 "TuneCatalogueModel" "lengths" "[I", Cond.methodLink RX5 89 yX5_costOfPitches, Cond.instanceMethod yX5_costOfPitches, Cond.selects RX5 yX5_costOfPitches yX5_costOfPitches, Cond.code yX5_costOfPitches cX5_costOfPitches 5 (some .int), Cond.fieldLink RX5 33 "TuneCatalogueModel" "repeat" "I", Cond.methodLink RX5 96 yX5_least]
def wsX5_costOf_r2 : List Cond := [Cond.static yX5_least, Cond.code yX5_least cX5_least 2 (some .int)]
def wsX5_costOf : List Cond := .code yX5_costOf cX5_costOf 7 (some .int) :: ((wsX5_costOf_r1 ++ wsX5_costOf_r2) ++ wsX50)
def wsX5_cost_r1 : List Cond := [Cond.methodLink RX5 67 yX5_isKnown, Cond.instanceMethod yX5_isKnown, Cond.selects RX5 yX5_isKnown yX5_isKnown, Cond.initialized RX5, Cond.code yX5_isKnown cX5_isKnown 2 (some .boolean), Cond.fieldLink RX5 19 "TuneCatalogueModel" "areRetired" "[Z", Cond.methodLink RX5 52 yX5_isTune, Cond.instanceMethod yX5_isTune, Cond.selects RX5 yX5_isTune yX5_isTune, Cond.code yX5_isTune cX5_isTune 2 (some .boolean), Cond.fieldLink RX5 45 "TuneCatalogueModel" "tunes" "I", Cond.methodLink RX5 48 yX5_in, Cond.static yX5_in, Cond.code yX5_in cX5_in 3 (some .boolean), Cond.methodLink RX5 60 yX5_holds, Cond.instanceMethod yX5_holds, Cond.selects RX5 yX5_holds yX5_holds, Cond.code yX5_holds cX5_holds 2 (some .boolean), Cond.fieldLink RX5 42 "TuneCatalogueModel" "thrown" "I", Cond.methodLink RX5 99 yX5_costOf, Cond.instanceMethod yX5_costOf, Cond.selects RX5 yX5_costOf yX5_costOf, Cond.code yX5_costOf cX5_costOf 7 (some .int), Cond.constant RX5 84 (1000000000)]
def wsX5_cost_r2 : List Cond := [Cond.fieldLink RX5 81 "TuneCatalogueModel" "hummed" "I", Cond.fieldLink RX5 36 "TuneCatalogueModel" "costs" "[I", Cond.fieldLink RX5 16 "TuneCatalogueModel" "sizes" "[I", Cond.methodLink RX5 92 yX5_laid, Cond.instanceMethod yX5_laid, Cond.selects RX5 yX5_laid yX5_laid, Cond.code yX5_laid cX5_laid 7 (some .int), Cond.fieldLink RX5 7 "TuneCatalogueModel" "pitches" "[I", Cond.fieldLink RX5 23 "TuneCatalogueModel" "hum" "[I", Cond.fieldLink RX5 26 "TuneCatalogueModel" "slip" "I", Cond.methodLink RX5 85 yX5_costOfNotes, Cond.instanceMethod yX5_costOfNotes, Cond.selects RX5 yX5_costOfNotes yX5_costOfNotes, Cond.code yX5_costOfNotes cX5_costOfNotes 6 (some .int), Cond.fieldLink RX5 30 "TuneCatalogueModel" "ornament" "I", Cond.fieldLink RX5 13 "TuneCatalogueModel" "lengths" "[I", Cond.methodLink RX5 89 yX5_costOfPitches, Cond.instanceMethod yX5_costOfPitches, Cond.selects RX5 yX5_costOfPitches yX5_costOfPitches, Cond.code yX5_costOfPitches cX5_costOfPitches 5 (some .int), Cond.fieldLink RX5 33 "TuneCatalogueModel" "repeat" "I", Cond.methodLink RX5 96 yX5_least, Cond.static yX5_least, Cond.code yX5_least cX5_least 2 (some .int)]
def wsX5_cost : List Cond := .code yX5_cost cX5_cost 2 (some .int) :: ((wsX5_cost_r1 ++ wsX5_cost_r2) ++ wsX50)
def wsX5_costByAll_r1 : List Cond := [Cond.fieldLink RX5 81 "TuneCatalogueModel" "hummed" "I", Cond.methodLink RX5 67 yX5_isKnown, Cond.instanceMethod yX5_isKnown, Cond.selects RX5 yX5_isKnown yX5_isKnown, Cond.initialized RX5, Cond.code yX5_isKnown cX5_isKnown 2 (some .boolean), Cond.fieldLink RX5 19 "TuneCatalogueModel" "areRetired" "[Z", Cond.methodLink RX5 52 yX5_isTune, Cond.instanceMethod yX5_isTune, Cond.selects RX5 yX5_isTune yX5_isTune, Cond.code yX5_isTune cX5_isTune 2 (some .boolean), Cond.fieldLink RX5 45 "TuneCatalogueModel" "tunes" "I", Cond.methodLink RX5 48 yX5_in, Cond.static yX5_in, Cond.code yX5_in cX5_in 3 (some .boolean), Cond.methodLink RX5 60 yX5_holds, Cond.instanceMethod yX5_holds, Cond.selects RX5 yX5_holds yX5_holds, Cond.code yX5_holds cX5_holds 2 (some .boolean), Cond.fieldLink RX5 42 "TuneCatalogueModel" "thrown" "I", Cond.methodLink RX5 99 yX5_costOf, Cond.instanceMethod yX5_costOf, Cond.selects RX5 yX5_costOf yX5_costOf, Cond.code yX5_costOf cX5_costOf 7 (some .int)]
def wsX5_costByAll_r2 : List Cond := [Cond.constant RX5 84 (1000000000), Cond.fieldLink RX5 36 "TuneCatalogueModel" "costs" "[I", Cond.fieldLink RX5 16 "TuneCatalogueModel" "sizes" "[I", Cond.methodLink RX5 92 yX5_laid, Cond.instanceMethod yX5_laid, Cond.selects RX5 yX5_laid yX5_laid, Cond.code yX5_laid cX5_laid 7 (some .int), Cond.fieldLink RX5 7 "TuneCatalogueModel" "pitches" "[I", Cond.fieldLink RX5 23 "TuneCatalogueModel" "hum" "[I", Cond.fieldLink RX5 26 "TuneCatalogueModel" "slip" "I", Cond.methodLink RX5 85 yX5_costOfNotes, Cond.instanceMethod yX5_costOfNotes, Cond.selects RX5 yX5_costOfNotes yX5_costOfNotes, Cond.code yX5_costOfNotes cX5_costOfNotes 6 (some .int), Cond.fieldLink RX5 30 "TuneCatalogueModel" "ornament" "I", Cond.fieldLink RX5 13 "TuneCatalogueModel" "lengths" "[I", Cond.methodLink RX5 89 yX5_costOfPitches, Cond.instanceMethod yX5_costOfPitches, Cond.selects RX5 yX5_costOfPitches yX5_costOfPitches, Cond.code yX5_costOfPitches cX5_costOfPitches 5 (some .int), Cond.fieldLink RX5 33 "TuneCatalogueModel" "repeat" "I", Cond.methodLink RX5 96 yX5_least, Cond.static yX5_least, Cond.code yX5_least cX5_least 2 (some .int)]
def wsX5_costByAll : List Cond := .code yX5_costByAll cX5_costByAll 2 (some .int) :: ((wsX5_costByAll_r1 ++ wsX5_costByAll_r2) ++ wsX50)
def wsX5_many_r1 : List Cond := [Cond.fieldLink RX5 45 "TuneCatalogueModel" "tunes" "I", Cond.methodLink RX5 67 yX5_isKnown, Cond.instanceMethod yX5_isKnown, Cond.selects RX5 yX5_isKnown yX5_isKnown, Cond.initialized RX5, Cond.code yX5_isKnown cX5_isKnown 2 (some .boolean), Cond.fieldLink RX5 19 "TuneCatalogueModel" "areRetired" "[Z", Cond.methodLink RX5 52 yX5_isTune, Cond.instanceMethod yX5_isTune, Cond.selects RX5 yX5_isTune yX5_isTune, Cond.code yX5_isTune cX5_isTune 2 (some .boolean), Cond.methodLink RX5 48 yX5_in, Cond.static yX5_in, Cond.code yX5_in cX5_in 3 (some .boolean), Cond.methodLink RX5 99 yX5_costOf, Cond.instanceMethod yX5_costOf, Cond.selects RX5 yX5_costOf yX5_costOf, Cond.code yX5_costOf cX5_costOf 7 (some .int), Cond.constant RX5 84 (1000000000), Cond.fieldLink RX5 81 "TuneCatalogueModel" "hummed" "I", Cond.fieldLink RX5 36 "TuneCatalogueModel" "costs" "[I", Cond.fieldLink RX5 16 "TuneCatalogueModel" "sizes" "[I", Cond.methodLink RX5 92 yX5_laid, Cond.instanceMethod yX5_laid]
def wsX5_many_r2 : List Cond := [Cond.selects RX5 yX5_laid yX5_laid, Cond.code yX5_laid cX5_laid 7 (some .int), Cond.fieldLink RX5 7 "TuneCatalogueModel" "pitches" "[I", Cond.fieldLink RX5 23 "TuneCatalogueModel" "hum" "[I", Cond.fieldLink RX5 26 "TuneCatalogueModel" "slip" "I", Cond.methodLink RX5 85 yX5_costOfNotes, Cond.instanceMethod yX5_costOfNotes, Cond.selects RX5 yX5_costOfNotes yX5_costOfNotes, Cond.code yX5_costOfNotes cX5_costOfNotes 6 (some .int), Cond.fieldLink RX5 30 "TuneCatalogueModel" "ornament" "I", Cond.fieldLink RX5 13 "TuneCatalogueModel" "lengths" "[I", Cond.methodLink RX5 89 yX5_costOfPitches, Cond.instanceMethod yX5_costOfPitches, Cond.selects RX5 yX5_costOfPitches yX5_costOfPitches, Cond.code yX5_costOfPitches cX5_costOfPitches 5 (some .int), Cond.fieldLink RX5 33 "TuneCatalogueModel" "repeat" "I", Cond.methodLink RX5 96 yX5_least, Cond.static yX5_least, Cond.code yX5_least cX5_least 2 (some .int)]
def wsX5_many : List Cond := .code yX5_many cX5_many 3 (some .int) :: ((wsX5_many_r1 ++ wsX5_many_r2) ++ wsX50)
def wsX5_matches_r1 : List Cond := [Cond.fieldLink RX5 42 "TuneCatalogueModel" "thrown" "I", Cond.methodLink RX5 103 yX5_many, Cond.instanceMethod yX5_many, Cond.selects RX5 yX5_many yX5_many, Cond.initialized RX5, Cond.code yX5_many cX5_many 3 (some .int), Cond.fieldLink RX5 45 "TuneCatalogueModel" "tunes" "I", Cond.methodLink RX5 67 yX5_isKnown, Cond.instanceMethod yX5_isKnown, Cond.selects RX5 yX5_isKnown yX5_isKnown, Cond.code yX5_isKnown cX5_isKnown 2 (some .boolean), Cond.fieldLink RX5 19 "TuneCatalogueModel" "areRetired" "[Z", Cond.methodLink RX5 52 yX5_isTune, Cond.instanceMethod yX5_isTune, Cond.selects RX5 yX5_isTune yX5_isTune, Cond.code yX5_isTune cX5_isTune 2 (some .boolean), Cond.methodLink RX5 48 yX5_in, Cond.static yX5_in, Cond.code yX5_in cX5_in 3 (some .boolean), Cond.methodLink RX5 99 yX5_costOf, Cond.instanceMethod yX5_costOf, Cond.selects RX5 yX5_costOf yX5_costOf, Cond.code yX5_costOf cX5_costOf 7 (some .int), Cond.constant RX5 84 (1000000000)]
def wsX5_matches_r2 : List Cond := [Cond.fieldLink RX5 81 "TuneCatalogueModel" "hummed" "I", Cond.fieldLink RX5 36 "TuneCatalogueModel" "costs" "[I", Cond.fieldLink RX5 16 "TuneCatalogueModel" "sizes" "[I", Cond.methodLink RX5 92 yX5_laid, Cond.instanceMethod yX5_laid, Cond.selects RX5 yX5_laid yX5_laid, Cond.code yX5_laid cX5_laid 7 (some .int), Cond.fieldLink RX5 7 "TuneCatalogueModel" "pitches" "[I", Cond.fieldLink RX5 23 "TuneCatalogueModel" "hum" "[I", Cond.fieldLink RX5 26 "TuneCatalogueModel" "slip" "I", Cond.methodLink RX5 85 yX5_costOfNotes, Cond.instanceMethod yX5_costOfNotes, Cond.selects RX5 yX5_costOfNotes yX5_costOfNotes, Cond.code yX5_costOfNotes cX5_costOfNotes 6 (some .int), Cond.fieldLink RX5 30 "TuneCatalogueModel" "ornament" "I", Cond.fieldLink RX5 13 "TuneCatalogueModel" "lengths" "[I", Cond.methodLink RX5 89 yX5_costOfPitches, Cond.instanceMethod yX5_costOfPitches, Cond.selects RX5 yX5_costOfPitches yX5_costOfPitches, Cond.code yX5_costOfPitches cX5_costOfPitches 5 (some .int), Cond.fieldLink RX5 33 "TuneCatalogueModel" "repeat" "I", Cond.methodLink RX5 96 yX5_least, Cond.static yX5_least, Cond.code yX5_least cX5_least 2 (some .int)]
def wsX5_matches : List Cond := .code yX5_matches cX5_matches 1 (some .int) :: ((wsX5_matches_r1 ++ wsX5_matches_r2) ++ wsX50)
def wsX5_rank_r1 : List Cond := [Cond.fieldLink RX5 45 "TuneCatalogueModel" "tunes" "I", Cond.methodLink RX5 99 yX5_costOf, Cond.instanceMethod yX5_costOf, Cond.selects RX5 yX5_costOf yX5_costOf, Cond.initialized RX5, Cond.code yX5_costOf cX5_costOf 7 (some .int), Cond.constant RX5 84 (1000000000), Cond.fieldLink RX5 81 "TuneCatalogueModel" "hummed" "I", Cond.fieldLink RX5 36 "TuneCatalogueModel" "costs" "[I", Cond.fieldLink RX5 16 "TuneCatalogueModel" "sizes" "[I", Cond.methodLink RX5 92 yX5_laid, Cond.instanceMethod yX5_laid, Cond.selects RX5 yX5_laid yX5_laid, Cond.code yX5_laid cX5_laid 7 (some .int), Cond.fieldLink RX5 7 "TuneCatalogueModel" "pitches" "[I", Cond.fieldLink RX5 23 "TuneCatalogueModel" "hum" "[I", Cond.fieldLink RX5 26 "TuneCatalogueModel" "slip" "I", Cond.methodLink RX5 85 yX5_costOfNotes, Cond.instanceMethod yX5_costOfNotes, Cond.selects RX5 yX5_costOfNotes yX5_costOfNotes, Cond.code yX5_costOfNotes cX5_costOfNotes 6 (some .int), Cond.fieldLink RX5 30 "TuneCatalogueModel" "ornament" "I", Cond.fieldLink RX5 13 "TuneCatalogueModel" "lengths" "[I", Cond.methodLink RX5 89 yX5_costOfPitches]
def wsX5_rank_r2 : List Cond := [Cond.instanceMethod yX5_costOfPitches, Cond.selects RX5 yX5_costOfPitches yX5_costOfPitches, Cond.code yX5_costOfPitches cX5_costOfPitches 5 (some .int), Cond.fieldLink RX5 33 "TuneCatalogueModel" "repeat" "I", Cond.methodLink RX5 96 yX5_least, Cond.static yX5_least, Cond.code yX5_least cX5_least 2 (some .int), Cond.methodLink RX5 67 yX5_isKnown, Cond.instanceMethod yX5_isKnown, Cond.selects RX5 yX5_isKnown yX5_isKnown, Cond.code yX5_isKnown cX5_isKnown 2 (some .boolean), Cond.fieldLink RX5 19 "TuneCatalogueModel" "areRetired" "[Z", Cond.methodLink RX5 52 yX5_isTune, Cond.instanceMethod yX5_isTune, Cond.selects RX5 yX5_isTune yX5_isTune, Cond.code yX5_isTune cX5_isTune 2 (some .boolean), Cond.methodLink RX5 48 yX5_in, Cond.static yX5_in, Cond.code yX5_in cX5_in 3 (some .boolean)]
def wsX5_rank : List Cond := .code yX5_rank cX5_rank 6 (some .int) :: ((wsX5_rank_r1 ++ wsX5_rank_r2) ++ wsX50)
def wsX5_found_r1 : List Cond := [Cond.methodLink RX5 103 yX5_many, Cond.instanceMethod yX5_many, Cond.selects RX5 yX5_many yX5_many, Cond.initialized RX5, Cond.code yX5_many cX5_many 3 (some .int), Cond.fieldLink RX5 45 "TuneCatalogueModel" "tunes" "I", Cond.methodLink RX5 67 yX5_isKnown, Cond.instanceMethod yX5_isKnown, Cond.selects RX5 yX5_isKnown yX5_isKnown, Cond.code yX5_isKnown cX5_isKnown 2 (some .boolean), Cond.fieldLink RX5 19 "TuneCatalogueModel" "areRetired" "[Z", Cond.methodLink RX5 52 yX5_isTune, Cond.instanceMethod yX5_isTune, Cond.selects RX5 yX5_isTune yX5_isTune, Cond.code yX5_isTune cX5_isTune 2 (some .boolean), Cond.methodLink RX5 48 yX5_in, Cond.static yX5_in, Cond.code yX5_in cX5_in 3 (some .boolean), Cond.methodLink RX5 99 yX5_costOf, Cond.instanceMethod yX5_costOf, Cond.selects RX5 yX5_costOf yX5_costOf, Cond.code yX5_costOf cX5_costOf 7 (some .int), Cond.constant RX5 84 (1000000000), Cond.fieldLink RX5 81 "TuneCatalogueModel" "hummed" "I"]
def wsX5_found_r2 : List Cond := [Cond.fieldLink RX5 36 "TuneCatalogueModel" "costs" "[I", Cond.fieldLink RX5 16 "TuneCatalogueModel" "sizes" "[I", Cond.methodLink RX5 92 yX5_laid, Cond.instanceMethod yX5_laid, Cond.selects RX5 yX5_laid yX5_laid, Cond.code yX5_laid cX5_laid 7 (some .int), Cond.fieldLink RX5 7 "TuneCatalogueModel" "pitches" "[I", Cond.fieldLink RX5 23 "TuneCatalogueModel" "hum" "[I", Cond.fieldLink RX5 26 "TuneCatalogueModel" "slip" "I", Cond.methodLink RX5 85 yX5_costOfNotes, Cond.instanceMethod yX5_costOfNotes, Cond.selects RX5 yX5_costOfNotes yX5_costOfNotes, Cond.code yX5_costOfNotes cX5_costOfNotes 6 (some .int), Cond.fieldLink RX5 30 "TuneCatalogueModel" "ornament" "I", Cond.fieldLink RX5 13 "TuneCatalogueModel" "lengths" "[I", Cond.methodLink RX5 89 yX5_costOfPitches, Cond.instanceMethod yX5_costOfPitches, Cond.selects RX5 yX5_costOfPitches yX5_costOfPitches, Cond.code yX5_costOfPitches cX5_costOfPitches 5 (some .int), Cond.fieldLink RX5 33 "TuneCatalogueModel" "repeat" "I", Cond.methodLink RX5 96 yX5_least, Cond.static yX5_least, Cond.code yX5_least cX5_least 2 (some .int), Cond.methodLink RX5 60 yX5_holds]
def wsX5_found_r3 : List Cond := [Cond.instanceMethod yX5_holds, Cond.selects RX5 yX5_holds yX5_holds, Cond.code yX5_holds cX5_holds 2 (some .boolean), Cond.fieldLink RX5 42 "TuneCatalogueModel" "thrown" "I", Cond.methodLink RX5 107 yX5_rank, Cond.instanceMethod yX5_rank, Cond.selects RX5 yX5_rank yX5_rank, Cond.code yX5_rank cX5_rank 6 (some .int)]
def wsX5_found : List Cond := .code yX5_found cX5_found 3 (some .int) :: ((wsX5_found_r1 ++ (wsX5_found_r2 ++ wsX5_found_r3)) ++ wsX50)
def wsX5_sign : List Cond := .code yX5_sign cX5_sign 1 (some .int) :: ([])
def wsX5_isLike : List Cond := .code yX5_isLike cX5_isLike 3 (some .boolean) :: ([.fieldLink RX5 81 "TuneCatalogueModel" "hummed" "I", .fieldLink RX5 16 "TuneCatalogueModel" "sizes" "[I", .fieldLink RX5 23 "TuneCatalogueModel" "hum" "[I", .methodLink RX5 73 yX5_stepOf, .instanceMethod yX5_stepOf, .selects RX5 yX5_stepOf yX5_stepOf, .initialized RX5, .code yX5_stepOf cX5_stepOf 3 (some .int), .fieldLink RX5 7 "TuneCatalogueModel" "pitches" "[I", .methodLink RX5 110 yX5_sign, .static yX5_sign, .code yX5_sign cX5_sign 1 (some .int)] ++ wsX50)
def wsX5_likeContour_r1 : List Cond := [Cond.fieldLink RX5 42 "TuneCatalogueModel" "thrown" "I", Cond.fieldLink RX5 45 "TuneCatalogueModel" "tunes" "I", Cond.methodLink RX5 67 yX5_isKnown, Cond.instanceMethod yX5_isKnown, Cond.selects RX5 yX5_isKnown yX5_isKnown, Cond.initialized RX5, Cond.code yX5_isKnown cX5_isKnown 2 (some .boolean), Cond.fieldLink RX5 19 "TuneCatalogueModel" "areRetired" "[Z", Cond.methodLink RX5 52 yX5_isTune, Cond.instanceMethod yX5_isTune, Cond.selects RX5 yX5_isTune yX5_isTune, Cond.code yX5_isTune cX5_isTune 2 (some .boolean), Cond.methodLink RX5 48 yX5_in, Cond.static yX5_in, Cond.code yX5_in cX5_in 3 (some .boolean), Cond.methodLink RX5 113 yX5_isLike, Cond.instanceMethod yX5_isLike, Cond.selects RX5 yX5_isLike yX5_isLike, Cond.code yX5_isLike cX5_isLike 3 (some .boolean), Cond.fieldLink RX5 81 "TuneCatalogueModel" "hummed" "I", Cond.fieldLink RX5 16 "TuneCatalogueModel" "sizes" "[I", Cond.fieldLink RX5 23 "TuneCatalogueModel" "hum" "[I", Cond.methodLink RX5 73 yX5_stepOf, Cond.instanceMethod yX5_stepOf]
def wsX5_likeContour_r2 : List Cond := [Cond.selects RX5 yX5_stepOf yX5_stepOf, Cond.code yX5_stepOf cX5_stepOf 3 (some .int), Cond.fieldLink RX5 7 "TuneCatalogueModel" "pitches" "[I", Cond.methodLink RX5 110 yX5_sign, Cond.static yX5_sign, Cond.code yX5_sign cX5_sign 1 (some .int)]
def wsX5_likeContour : List Cond := .code yX5_likeContour cX5_likeContour 3 (some .int) :: ((wsX5_likeContour_r1 ++ wsX5_likeContour_r2) ++ wsX50)
def wsX5_isRun : List Cond := .code yX5_isRun cX5_isRun 6 (some .boolean) :: ([.fieldLink RX5 81 "TuneCatalogueModel" "hummed" "I", .fieldLink RX5 16 "TuneCatalogueModel" "sizes" "[I", .fieldLink RX5 23 "TuneCatalogueModel" "hum" "[I", .fieldLink RX5 19 "TuneCatalogueModel" "areRetired" "[Z", .methodLink RX5 73 yX5_stepOf, .instanceMethod yX5_stepOf, .selects RX5 yX5_stepOf yX5_stepOf, .initialized RX5, .code yX5_stepOf cX5_stepOf 3 (some .int), .fieldLink RX5 7 "TuneCatalogueModel" "pitches" "[I"] ++ wsX50)
def wsX5_errorOfRun : List Cond := .code yX5_errorOfRun cX5_errorOfRun 2 (some .int) :: ([.fieldLink RX5 81 "TuneCatalogueModel" "hummed" "I", .methodLink RX5 48 yX5_in, .static yX5_in, .initialized RX5, .code yX5_in cX5_in 3 (some .boolean)] ++ wsX50)
def wsX5_placesOf : List Cond := .code yX5_placesOf cX5_placesOf 4 (some .int) :: ([.fieldLink RX5 45 "TuneCatalogueModel" "tunes" "I", .fieldLink RX5 16 "TuneCatalogueModel" "sizes" "[I", .methodLink RX5 116 yX5_isRun, .instanceMethod yX5_isRun, .selects RX5 yX5_isRun yX5_isRun, .initialized RX5, .code yX5_isRun cX5_isRun 6 (some .boolean), .fieldLink RX5 81 "TuneCatalogueModel" "hummed" "I", .fieldLink RX5 23 "TuneCatalogueModel" "hum" "[I", .fieldLink RX5 19 "TuneCatalogueModel" "areRetired" "[Z", .methodLink RX5 73 yX5_stepOf, .instanceMethod yX5_stepOf, .selects RX5 yX5_stepOf yX5_stepOf, .code yX5_stepOf cX5_stepOf 3 (some .int), .fieldLink RX5 7 "TuneCatalogueModel" "pitches" "[I"] ++ wsX50)
def wsX5_places_r1 : List Cond := [Cond.methodLink RX5 119 yX5_errorOfRun, Cond.instanceMethod yX5_errorOfRun, Cond.selects RX5 yX5_errorOfRun yX5_errorOfRun, Cond.initialized RX5, Cond.code yX5_errorOfRun cX5_errorOfRun 2 (some .int), Cond.fieldLink RX5 81 "TuneCatalogueModel" "hummed" "I", Cond.methodLink RX5 48 yX5_in, Cond.static yX5_in, Cond.code yX5_in cX5_in 3 (some .boolean), Cond.methodLink RX5 60 yX5_holds, Cond.instanceMethod yX5_holds, Cond.selects RX5 yX5_holds yX5_holds, Cond.code yX5_holds cX5_holds 2 (some .boolean), Cond.fieldLink RX5 42 "TuneCatalogueModel" "thrown" "I", Cond.methodLink RX5 122 yX5_placesOf, Cond.instanceMethod yX5_placesOf, Cond.selects RX5 yX5_placesOf yX5_placesOf, Cond.code yX5_placesOf cX5_placesOf 4 (some .int), Cond.fieldLink RX5 45 "TuneCatalogueModel" "tunes" "I", Cond.fieldLink RX5 16 "TuneCatalogueModel" "sizes" "[I", Cond.methodLink RX5 116 yX5_isRun, Cond.instanceMethod yX5_isRun, Cond.selects RX5 yX5_isRun yX5_isRun, Cond.code yX5_isRun cX5_isRun 6 (some .boolean)]
def wsX5_places_r2 : List Cond := [Cond.fieldLink RX5 23 "TuneCatalogueModel" "hum" "[I", Cond.fieldLink RX5 19 "TuneCatalogueModel" "areRetired" "[Z", Cond.methodLink RX5 73 yX5_stepOf, Cond.instanceMethod yX5_stepOf, Cond.selects RX5 yX5_stepOf yX5_stepOf, Cond.code yX5_stepOf cX5_stepOf 3 (some .int), Cond.fieldLink RX5 7 "TuneCatalogueModel" "pitches" "[I"]
def wsX5_places : List Cond := .code yX5_places cX5_places 2 (some .int) :: ((wsX5_places_r1 ++ wsX5_places_r2) ++ wsX50)
def wsX5_place_r1 : List Cond := [Cond.fieldLink RX5 16 "TuneCatalogueModel" "sizes" "[I", Cond.methodLink RX5 119 yX5_errorOfRun, Cond.instanceMethod yX5_errorOfRun, Cond.selects RX5 yX5_errorOfRun yX5_errorOfRun, Cond.initialized RX5, Cond.code yX5_errorOfRun cX5_errorOfRun 2 (some .int), Cond.fieldLink RX5 81 "TuneCatalogueModel" "hummed" "I", Cond.methodLink RX5 48 yX5_in, Cond.static yX5_in, Cond.code yX5_in cX5_in 3 (some .boolean), Cond.methodLink RX5 122 yX5_placesOf, Cond.instanceMethod yX5_placesOf, Cond.selects RX5 yX5_placesOf yX5_placesOf, Cond.code yX5_placesOf cX5_placesOf 4 (some .int), Cond.fieldLink RX5 45 "TuneCatalogueModel" "tunes" "I", Cond.methodLink RX5 116 yX5_isRun, Cond.instanceMethod yX5_isRun, Cond.selects RX5 yX5_isRun yX5_isRun, Cond.code yX5_isRun cX5_isRun 6 (some .boolean), Cond.fieldLink RX5 23 "TuneCatalogueModel" "hum" "[I", Cond.fieldLink RX5 19 "TuneCatalogueModel" "areRetired" "[Z", Cond.methodLink RX5 73 yX5_stepOf, Cond.instanceMethod yX5_stepOf, Cond.selects RX5 yX5_stepOf yX5_stepOf]
def wsX5_place_r2 : List Cond := [Cond.code yX5_stepOf cX5_stepOf 3 (some .int), Cond.fieldLink RX5 7 "TuneCatalogueModel" "pitches" "[I", Cond.methodLink RX5 60 yX5_holds, Cond.instanceMethod yX5_holds, Cond.selects RX5 yX5_holds yX5_holds, Cond.code yX5_holds cX5_holds 2 (some .boolean), Cond.fieldLink RX5 42 "TuneCatalogueModel" "thrown" "I"]
def wsX5_place : List Cond := .code yX5_place cX5_place 6 (some .int) :: ((wsX5_place_r1 ++ wsX5_place_r2) ++ wsX50)
def wsX5_familyOf : List Cond := .code yX5_familyOf cX5_familyOf 5 (some .int) :: ([.fieldLink RX5 45 "TuneCatalogueModel" "tunes" "I", .fieldLink RX5 39 "TuneCatalogueModel" "links" "[I"] ++ wsX50)
def wsX5_lowest : List Cond := .code yX5_lowest cX5_lowest 4 (some .int) :: ([.methodLink RX5 125 yX5_familyOf, .instanceMethod yX5_familyOf, .selects RX5 yX5_familyOf yX5_familyOf, .initialized RX5, .code yX5_familyOf cX5_familyOf 5 (some .int), .fieldLink RX5 45 "TuneCatalogueModel" "tunes" "I", .fieldLink RX5 39 "TuneCatalogueModel" "links" "[I"] ++ wsX50)
def wsX5_familiesOf : List Cond := .code yX5_familiesOf cX5_familiesOf 3 (some .int) :: ([.fieldLink RX5 45 "TuneCatalogueModel" "tunes" "I", .methodLink RX5 128 yX5_lowest, .instanceMethod yX5_lowest, .selects RX5 yX5_lowest yX5_lowest, .initialized RX5, .code yX5_lowest cX5_lowest 4 (some .int), .methodLink RX5 125 yX5_familyOf, .instanceMethod yX5_familyOf, .selects RX5 yX5_familyOf yX5_familyOf, .code yX5_familyOf cX5_familyOf 5 (some .int), .fieldLink RX5 39 "TuneCatalogueModel" "links" "[I"] ++ wsX50)
def wsX5_areLinked : List Cond := .code yX5_areLinked cX5_areLinked 3 (some .boolean) :: ([.fieldLink RX5 39 "TuneCatalogueModel" "links" "[I"] ++ wsX50)
def wsX5_link_r1 : List Cond := [Cond.fieldLink RX5 39 "TuneCatalogueModel" "links" "[I", Cond.methodLink RX5 52 yX5_isTune, Cond.instanceMethod yX5_isTune, Cond.selects RX5 yX5_isTune yX5_isTune, Cond.initialized RX5, Cond.code yX5_isTune cX5_isTune 2 (some .boolean), Cond.fieldLink RX5 45 "TuneCatalogueModel" "tunes" "I", Cond.methodLink RX5 48 yX5_in, Cond.static yX5_in, Cond.code yX5_in cX5_in 3 (some .boolean), Cond.methodLink RX5 131 yX5_areLinked, Cond.instanceMethod yX5_areLinked, Cond.selects RX5 yX5_areLinked yX5_areLinked, Cond.code yX5_areLinked cX5_areLinked 3 (some .boolean), Cond.methodLink RX5 60 yX5_holds, Cond.instanceMethod yX5_holds, Cond.selects RX5 yX5_holds yX5_holds, Cond.code yX5_holds cX5_holds 2 (some .boolean), Cond.fieldLink RX5 42 "TuneCatalogueModel" "thrown" "I", Cond.methodLink RX5 134 yX5_familiesOf, Cond.instanceMethod yX5_familiesOf, Cond.selects RX5 yX5_familiesOf yX5_familiesOf, Cond.code yX5_familiesOf cX5_familiesOf 3 (some .int), Cond.methodLink RX5 128 yX5_lowest]
def wsX5_link_r2 : List Cond := [Cond.instanceMethod yX5_lowest, Cond.selects RX5 yX5_lowest yX5_lowest, Cond.code yX5_lowest cX5_lowest 4 (some .int), Cond.methodLink RX5 125 yX5_familyOf, Cond.instanceMethod yX5_familyOf, Cond.selects RX5 yX5_familyOf yX5_familyOf, Cond.code yX5_familyOf cX5_familyOf 5 (some .int)]
def wsX5_link : List Cond := .code yX5_link cX5_link 4 (some .int) :: ((wsX5_link_r1 ++ wsX5_link_r2) ++ wsX50)
def wsX5_cut_r1 : List Cond := [Cond.fieldLink RX5 39 "TuneCatalogueModel" "links" "[I", Cond.methodLink RX5 52 yX5_isTune, Cond.instanceMethod yX5_isTune, Cond.selects RX5 yX5_isTune yX5_isTune, Cond.initialized RX5, Cond.code yX5_isTune cX5_isTune 2 (some .boolean), Cond.fieldLink RX5 45 "TuneCatalogueModel" "tunes" "I", Cond.methodLink RX5 48 yX5_in, Cond.static yX5_in, Cond.code yX5_in cX5_in 3 (some .boolean), Cond.methodLink RX5 131 yX5_areLinked, Cond.instanceMethod yX5_areLinked, Cond.selects RX5 yX5_areLinked yX5_areLinked, Cond.code yX5_areLinked cX5_areLinked 3 (some .boolean), Cond.methodLink RX5 60 yX5_holds, Cond.instanceMethod yX5_holds, Cond.selects RX5 yX5_holds yX5_holds, Cond.code yX5_holds cX5_holds 2 (some .boolean), Cond.fieldLink RX5 42 "TuneCatalogueModel" "thrown" "I", Cond.methodLink RX5 134 yX5_familiesOf, Cond.instanceMethod yX5_familiesOf, Cond.selects RX5 yX5_familiesOf yX5_familiesOf, Cond.code yX5_familiesOf cX5_familiesOf 3 (some .int), Cond.methodLink RX5 128 yX5_lowest]
def wsX5_cut_r2 : List Cond := [Cond.instanceMethod yX5_lowest, Cond.selects RX5 yX5_lowest yX5_lowest, Cond.code yX5_lowest cX5_lowest 4 (some .int), Cond.methodLink RX5 125 yX5_familyOf, Cond.instanceMethod yX5_familyOf, Cond.selects RX5 yX5_familyOf yX5_familyOf, Cond.code yX5_familyOf cX5_familyOf 5 (some .int)]
def wsX5_cut : List Cond := .code yX5_cut cX5_cut 4 (some .int) :: ((wsX5_cut_r1 ++ wsX5_cut_r2) ++ wsX50)
def wsX5_family : List Cond := .code yX5_family cX5_family 2 (some .int) :: ([.methodLink RX5 52 yX5_isTune, .instanceMethod yX5_isTune, .selects RX5 yX5_isTune yX5_isTune, .initialized RX5, .code yX5_isTune cX5_isTune 2 (some .boolean), .fieldLink RX5 45 "TuneCatalogueModel" "tunes" "I", .methodLink RX5 48 yX5_in, .static yX5_in, .code yX5_in cX5_in 3 (some .boolean), .methodLink RX5 60 yX5_holds, .instanceMethod yX5_holds, .selects RX5 yX5_holds yX5_holds, .code yX5_holds cX5_holds 2 (some .boolean), .fieldLink RX5 42 "TuneCatalogueModel" "thrown" "I", .methodLink RX5 128 yX5_lowest, .instanceMethod yX5_lowest, .selects RX5 yX5_lowest yX5_lowest, .code yX5_lowest cX5_lowest 4 (some .int), .methodLink RX5 125 yX5_familyOf, .instanceMethod yX5_familyOf, .selects RX5 yX5_familyOf yX5_familyOf, .code yX5_familyOf cX5_familyOf 5 (some .int), .fieldLink RX5 39 "TuneCatalogueModel" "links" "[I"] ++ wsX50)
def wsX5_families : List Cond := .code yX5_families cX5_families 1 (some .int) :: ([.fieldLink RX5 42 "TuneCatalogueModel" "thrown" "I", .methodLink RX5 134 yX5_familiesOf, .instanceMethod yX5_familiesOf, .selects RX5 yX5_familiesOf yX5_familiesOf, .initialized RX5, .code yX5_familiesOf cX5_familiesOf 3 (some .int), .fieldLink RX5 45 "TuneCatalogueModel" "tunes" "I", .methodLink RX5 128 yX5_lowest, .instanceMethod yX5_lowest, .selects RX5 yX5_lowest yX5_lowest, .code yX5_lowest cX5_lowest 4 (some .int), .methodLink RX5 125 yX5_familyOf, .instanceMethod yX5_familyOf, .selects RX5 yX5_familyOf yX5_familyOf, .code yX5_familyOf cX5_familyOf 5 (some .int), .fieldLink RX5 39 "TuneCatalogueModel" "links" "[I"] ++ wsX50)
def wsJ9_abs_0f7a4 : List Cond := .code yJ9_abs_0f7a4 cJ9_abs_0f7a4 1 (some .int) :: ([])
def wsJ9_max_7cf53 : List Cond := .code yJ9_max_7cf53 cJ9_max_7cf53 2 (some .int) :: ([])
def wsJ9_min_7cf53 : List Cond := .code yJ9_min_7cf53 cJ9_min_7cf53 2 (some .int) :: ([])
def wsL_add_r1 : List Cond := [Cond.classLink RL 13 "java/lang/IllegalArgumentException", Cond.classLink RL 15 "java/lang/IllegalStateException", Cond.methodLink RL 7 yX4_add, Cond.instanceMethod yX4_add, Cond.selects RX4 yX4_add yX4_add, Cond.initialized RX4, Cond.code yX4_add cX4_add 4 (some .int), Cond.classLink RX4 58 "java/lang/IllegalStateException", Cond.initialized "java/lang/IllegalStateException", Cond.fieldLink RX4 50 "TuneCatalogue" "entered" "I", Cond.fieldLink RX4 11 "TuneCatalogue" "entries" "[LTuneCatalogue$Tune;", Cond.classLink RX4 9 RX3, Cond.instantiable RX3 3, Cond.initialized RX3, Cond.fieldLink RX4 36 "TuneCatalogue" "links" "LTuneCatalogue$Links;", Cond.methodLink RX4 46 yX4_refuseUnlessNote, Cond.static yX4_refuseUnlessNote, Cond.code yX4_refuseUnlessNote cX4_refuseUnlessNote 2 none, Cond.methodLink RX4 104 yX4_refuseUnlessWithin, Cond.static yX4_refuseUnlessWithin, Cond.code yX4_refuseUnlessWithin cX4_refuseUnlessWithin 3 none, Cond.classLink RX4 184 "java/lang/IllegalArgumentException", Cond.initialized "java/lang/IllegalArgumentException", Cond.methodLink RX4 54 yX4_isWithin]
def wsL_add_r2 : List Cond := [Cond.static yX4_isWithin, Cond.code yX4_isWithin cX4_isWithin 3 (some .boolean), Cond.instanceMethod yX3_init, Cond.code yX3_init cX3_init 1 none, Cond.methodLink RX3 3 objectInit, Cond.instanceMethod objectInit, Cond.code objectInit ⟨#[0xb1]⟩ 1 none, Cond.classLink RX3 9 RX2, Cond.instantiable RX2 2, Cond.initialized RX2, Cond.fieldLink RX3 14 "TuneCatalogue$Tune" "pitches" "LTuneCatalogue$Row;", Cond.fieldLink RX3 20 "TuneCatalogue$Tune" "lengths" "LTuneCatalogue$Row;", Cond.methodLink RX3 11 yX2_init, Cond.instanceMethod yX2_init, Cond.code yX2_init cX2_init 2 none, Cond.methodLink RX2 1 objectInit, Cond.methodLink RX2 7 Lib.Math.max.name, Cond.static Lib.Math.max.name, Cond.initialized "java/lang/Math", Cond.code Lib.Math.max.name Lib.Math.max.code 2 (some .int), Cond.arrayClass .int, Cond.fieldLink RX2 13 "TuneCatalogue$Row" "numbers" "[I", Cond.methodLink RX4 66 yX3_append, Cond.instanceMethod yX3_append]
def wsL_add_r3 : List Cond := [Cond.selects RX3 yX3_append yX3_append, Cond.code yX3_append cX3_append 3 none, Cond.methodLink RX3 27 yX2_append, Cond.instanceMethod yX2_append, Cond.selects RX2 yX2_append yX2_append, Cond.code yX2_append cX2_append 2 none, Cond.fieldLink RX2 19 "TuneCatalogue$Row" "size" "I", Cond.methodLink RX4 69 yX0_admitTune, Cond.instanceMethod yX0_admitTune, Cond.selects RX0 yX0_admitTune yX0_admitTune, Cond.initialized RX0, Cond.code yX0_admitTune cX0_admitTune 1 none, Cond.fieldLink RX0 14 "TuneCatalogue$Links" "partners" "LTuneCatalogue$Row;", Cond.methodLink RX0 20 yX2_append]
def wsL_add : List Cond := .codeWith yL_add cL_add 5 (some .int) [(0, 10, 13, 13), (0, 10, 17, 15)] :: ((wsL_add_r1 ++ (wsL_add_r2 ++ wsL_add_r3)) ++ wsX40 ++ wsX30 ++ wsX20 ++ wsX00 ++ (vx_atS RX4 62 "java/lang/IllegalStateException" ["java/lang/RuntimeException", "java/lang/Exception"]).filter goodWord ++ (vx_atS RX4 188 "java/lang/IllegalArgumentException" ["java/lang/RuntimeException", "java/lang/Exception"]).filter goodWord)
def wsL_note_r1 : List Cond := [Cond.classLink RL 21 "java/lang/IndexOutOfBoundsException", Cond.classLink RL 13 "java/lang/IllegalArgumentException", Cond.classLink RL 15 "java/lang/IllegalStateException", Cond.methodLink RL 17 yX4_note, Cond.instanceMethod yX4_note, Cond.selects RX4 yX4_note yX4_note, Cond.initialized RX4, Cond.code yX4_note cX4_note 5 (some .int), Cond.classLink RX4 58 "java/lang/IllegalStateException", Cond.initialized "java/lang/IllegalStateException", Cond.methodLink RX4 72 yX4_knownOrThrow, Cond.instanceMethod yX4_knownOrThrow, Cond.selects RX4 yX4_knownOrThrow yX4_knownOrThrow, Cond.code yX4_knownOrThrow cX4_knownOrThrow 3 (some (.object "TuneCatalogue$Tune")), Cond.classLink RX4 89 "java/lang/IndexOutOfBoundsException", Cond.initialized "java/lang/IndexOutOfBoundsException", Cond.methodLink RX4 114 yX4_knownOrNull, Cond.instanceMethod yX4_knownOrNull, Cond.selects RX4 yX4_knownOrNull yX4_knownOrNull, Cond.code yX4_knownOrNull cX4_knownOrNull 3 (some (.object "TuneCatalogue$Tune")), Cond.methodLink RX4 210 yX4_enteredOrNull, Cond.instanceMethod yX4_enteredOrNull, Cond.selects RX4 yX4_enteredOrNull yX4_enteredOrNull, Cond.code yX4_enteredOrNull cX4_enteredOrNull 2 (some (.object "TuneCatalogue$Tune"))]
def wsL_note_r2 : List Cond := [Cond.fieldLink RX4 50 "TuneCatalogue" "entered" "I", Cond.fieldLink RX4 11 "TuneCatalogue" "entries" "[LTuneCatalogue$Tune;", Cond.methodLink RX4 46 yX4_refuseUnlessNote, Cond.static yX4_refuseUnlessNote, Cond.code yX4_refuseUnlessNote cX4_refuseUnlessNote 2 none, Cond.methodLink RX4 104 yX4_refuseUnlessWithin, Cond.static yX4_refuseUnlessWithin, Cond.code yX4_refuseUnlessWithin cX4_refuseUnlessWithin 3 none, Cond.classLink RX4 184 "java/lang/IllegalArgumentException", Cond.initialized "java/lang/IllegalArgumentException", Cond.methodLink RX4 54 yX4_isWithin, Cond.static yX4_isWithin, Cond.code yX4_isWithin cX4_isWithin 3 (some .boolean), Cond.methodLink RX4 79 yX2_isFull, Cond.instanceMethod yX2_isFull, Cond.selects RX2 yX2_isFull yX2_isFull, Cond.initialized RX2, Cond.code yX2_isFull cX2_isFull 1 (some .boolean), Cond.fieldLink RX2 19 "TuneCatalogue$Row" "size" "I", Cond.fieldLink RX2 13 "TuneCatalogue$Row" "numbers" "[I", Cond.methodLink RX4 66 yX3_append, Cond.instanceMethod yX3_append, Cond.selects RX3 yX3_append yX3_append, Cond.initialized RX3]
def wsL_note_r3 : List Cond := [Cond.code yX3_append cX3_append 3 none, Cond.fieldLink RX3 14 "TuneCatalogue$Tune" "pitches" "LTuneCatalogue$Row;", Cond.fieldLink RX3 20 "TuneCatalogue$Tune" "lengths" "LTuneCatalogue$Row;", Cond.methodLink RX3 27 yX2_append, Cond.instanceMethod yX2_append, Cond.selects RX2 yX2_append yX2_append, Cond.code yX2_append cX2_append 2 none, Cond.methodLink RX4 85 yX3_size, Cond.instanceMethod yX3_size, Cond.selects RX3 yX3_size yX3_size, Cond.code yX3_size cX3_size 1 (some .int), Cond.methodLink RX3 23 yX2_size, Cond.instanceMethod yX2_size, Cond.selects RX2 yX2_size yX2_size, Cond.code yX2_size cX2_size 1 (some .int)]
def wsL_note : List Cond := .codeWith yL_note cL_note 6 (some .int) [(0, 12, 15, 21), (0, 12, 19, 13), (0, 12, 23, 15)] :: ((wsL_note_r1 ++ (wsL_note_r2 ++ wsL_note_r3)) ++ wsX30 ++ wsX40 ++ wsX20 ++ (vx_atS RX4 62 "java/lang/IllegalStateException" ["java/lang/RuntimeException", "java/lang/Exception"]).filter goodWord ++ (vx_atS RX4 93 "java/lang/IndexOutOfBoundsException" ["java/lang/RuntimeException", "java/lang/Exception"]).filter goodWord ++ (vx_atS RX4 188 "java/lang/IllegalArgumentException" ["java/lang/RuntimeException", "java/lang/Exception"]).filter goodWord)
def wsL_correct_r1 : List Cond := [Cond.classLink RL 21 "java/lang/IndexOutOfBoundsException", Cond.classLink RL 13 "java/lang/IllegalArgumentException", Cond.methodLink RL 23 yX4_correct, Cond.instanceMethod yX4_correct, Cond.selects RX4 yX4_correct yX4_correct, Cond.initialized RX4, Cond.code yX4_correct cX4_correct 7 (some .int), Cond.classLink RX4 89 "java/lang/IndexOutOfBoundsException", Cond.initialized "java/lang/IndexOutOfBoundsException", Cond.methodLink RX4 72 yX4_knownOrThrow, Cond.instanceMethod yX4_knownOrThrow, Cond.selects RX4 yX4_knownOrThrow yX4_knownOrThrow, Cond.code yX4_knownOrThrow cX4_knownOrThrow 3 (some (.object "TuneCatalogue$Tune")), Cond.methodLink RX4 114 yX4_knownOrNull, Cond.instanceMethod yX4_knownOrNull, Cond.selects RX4 yX4_knownOrNull yX4_knownOrNull, Cond.code yX4_knownOrNull cX4_knownOrNull 3 (some (.object "TuneCatalogue$Tune")), Cond.methodLink RX4 210 yX4_enteredOrNull, Cond.instanceMethod yX4_enteredOrNull, Cond.selects RX4 yX4_enteredOrNull yX4_enteredOrNull, Cond.code yX4_enteredOrNull cX4_enteredOrNull 2 (some (.object "TuneCatalogue$Tune")), Cond.fieldLink RX4 50 "TuneCatalogue" "entered" "I", Cond.fieldLink RX4 11 "TuneCatalogue" "entries" "[LTuneCatalogue$Tune;", Cond.methodLink RX4 85 yX3_size]
def wsL_correct_r2 : List Cond := [Cond.instanceMethod yX3_size, Cond.selects RX3 yX3_size yX3_size, Cond.initialized RX3, Cond.code yX3_size cX3_size 1 (some .int), Cond.fieldLink RX3 14 "TuneCatalogue$Tune" "pitches" "LTuneCatalogue$Row;", Cond.methodLink RX3 23 yX2_size, Cond.instanceMethod yX2_size, Cond.selects RX2 yX2_size yX2_size, Cond.initialized RX2, Cond.code yX2_size cX2_size 1 (some .int), Cond.fieldLink RX2 19 "TuneCatalogue$Row" "size" "I", Cond.methodLink RX4 46 yX4_refuseUnlessNote, Cond.static yX4_refuseUnlessNote, Cond.code yX4_refuseUnlessNote cX4_refuseUnlessNote 2 none, Cond.methodLink RX4 104 yX4_refuseUnlessWithin, Cond.static yX4_refuseUnlessWithin, Cond.code yX4_refuseUnlessWithin cX4_refuseUnlessWithin 3 none, Cond.classLink RX4 184 "java/lang/IllegalArgumentException", Cond.initialized "java/lang/IllegalArgumentException", Cond.methodLink RX4 54 yX4_isWithin, Cond.static yX4_isWithin, Cond.code yX4_isWithin cX4_isWithin 3 (some .boolean), Cond.methodLink RX4 94 yX2_at, Cond.instanceMethod yX2_at]
def wsL_correct_r3 : List Cond := [Cond.selects RX2 yX2_at yX2_at, Cond.code yX2_at cX2_at 2 (some .int), Cond.fieldLink RX2 13 "TuneCatalogue$Row" "numbers" "[I", Cond.methodLink RX4 98 yX2_put, Cond.instanceMethod yX2_put, Cond.selects RX2 yX2_put yX2_put, Cond.code yX2_put cX2_put 3 none]
def wsL_correct : List Cond := .codeWith yL_correct cL_correct 7 (some .int) [(0, 14, 17, 21), (0, 14, 21, 13)] :: ((wsL_correct_r1 ++ (wsL_correct_r2 ++ wsL_correct_r3)) ++ wsX30 ++ wsX40 ++ wsX20 ++ (vx_atS RX4 93 "java/lang/IndexOutOfBoundsException" ["java/lang/RuntimeException", "java/lang/Exception"]).filter goodWord ++ (vx_atS RX4 188 "java/lang/IllegalArgumentException" ["java/lang/RuntimeException", "java/lang/Exception"]).filter goodWord)
def wsL_shift_r1 : List Cond := [Cond.classLink RL 21 "java/lang/IndexOutOfBoundsException", Cond.classLink RL 13 "java/lang/IllegalArgumentException", Cond.classLink RL 15 "java/lang/IllegalStateException", Cond.methodLink RL 27 yX4_shift, Cond.instanceMethod yX4_shift, Cond.selects RX4 yX4_shift yX4_shift, Cond.initialized RX4, Cond.code yX4_shift cX4_shift 5 none, Cond.classLink RX4 58 "java/lang/IllegalStateException", Cond.initialized "java/lang/IllegalStateException", Cond.methodLink RX4 72 yX4_knownOrThrow, Cond.instanceMethod yX4_knownOrThrow, Cond.selects RX4 yX4_knownOrThrow yX4_knownOrThrow, Cond.code yX4_knownOrThrow cX4_knownOrThrow 3 (some (.object "TuneCatalogue$Tune")), Cond.classLink RX4 89 "java/lang/IndexOutOfBoundsException", Cond.initialized "java/lang/IndexOutOfBoundsException", Cond.methodLink RX4 114 yX4_knownOrNull, Cond.instanceMethod yX4_knownOrNull, Cond.selects RX4 yX4_knownOrNull yX4_knownOrNull, Cond.code yX4_knownOrNull cX4_knownOrNull 3 (some (.object "TuneCatalogue$Tune")), Cond.methodLink RX4 210 yX4_enteredOrNull, Cond.instanceMethod yX4_enteredOrNull, Cond.selects RX4 yX4_enteredOrNull yX4_enteredOrNull, Cond.code yX4_enteredOrNull cX4_enteredOrNull 2 (some (.object "TuneCatalogue$Tune"))]
def wsL_shift_r2 : List Cond := [Cond.fieldLink RX4 50 "TuneCatalogue" "entered" "I", Cond.fieldLink RX4 11 "TuneCatalogue" "entries" "[LTuneCatalogue$Tune;", Cond.methodLink RX4 104 yX4_refuseUnlessWithin, Cond.static yX4_refuseUnlessWithin, Cond.code yX4_refuseUnlessWithin cX4_refuseUnlessWithin 3 none, Cond.classLink RX4 184 "java/lang/IllegalArgumentException", Cond.initialized "java/lang/IllegalArgumentException", Cond.methodLink RX4 54 yX4_isWithin, Cond.static yX4_isWithin, Cond.code yX4_isWithin cX4_isWithin 3 (some .boolean), Cond.methodLink RX4 85 yX3_size, Cond.instanceMethod yX3_size, Cond.selects RX3 yX3_size yX3_size, Cond.initialized RX3, Cond.code yX3_size cX3_size 1 (some .int), Cond.fieldLink RX3 14 "TuneCatalogue$Tune" "pitches" "LTuneCatalogue$Row;", Cond.methodLink RX3 23 yX2_size, Cond.instanceMethod yX2_size, Cond.selects RX2 yX2_size yX2_size, Cond.initialized RX2, Cond.code yX2_size cX2_size 1 (some .int), Cond.fieldLink RX2 19 "TuneCatalogue$Row" "size" "I", Cond.methodLink RX4 94 yX2_at, Cond.instanceMethod yX2_at]
def wsL_shift_r3 : List Cond := [Cond.selects RX2 yX2_at yX2_at, Cond.code yX2_at cX2_at 2 (some .int), Cond.fieldLink RX2 13 "TuneCatalogue$Row" "numbers" "[I", Cond.methodLink RX4 98 yX2_put, Cond.instanceMethod yX2_put, Cond.selects RX2 yX2_put yX2_put, Cond.code yX2_put cX2_put 3 none]
def wsL_shift : List Cond := .codeWith yL_shift cL_shift 4 (some .int) [(0, 6, 9, 21), (0, 6, 12, 13), (0, 6, 15, 15)] :: ((wsL_shift_r1 ++ (wsL_shift_r2 ++ wsL_shift_r3)) ++ wsX30 ++ wsX40 ++ wsX20 ++ (vx_atS RX4 62 "java/lang/IllegalStateException" ["java/lang/RuntimeException", "java/lang/Exception"]).filter goodWord ++ (vx_atS RX4 93 "java/lang/IndexOutOfBoundsException" ["java/lang/RuntimeException", "java/lang/Exception"]).filter goodWord ++ (vx_atS RX4 188 "java/lang/IllegalArgumentException" ["java/lang/RuntimeException", "java/lang/Exception"]).filter goodWord)
def wsL_retire : List Cond := .codeWith yL_retire cL_retire 4 (some .int) [(0, 9, 12, 21)] :: ([.classLink RL 21 "java/lang/IndexOutOfBoundsException", .methodLink RL 31 yX4_retire, .instanceMethod yX4_retire, .selects RX4 yX4_retire yX4_retire, .initialized RX4, .code yX4_retire cX4_retire 4 (some .int), .fieldLink RX4 50 "TuneCatalogue" "entered" "I", .methodLink RX4 72 yX4_knownOrThrow, .instanceMethod yX4_knownOrThrow, .selects RX4 yX4_knownOrThrow yX4_knownOrThrow, .code yX4_knownOrThrow cX4_knownOrThrow 3 (some (.object "TuneCatalogue$Tune")), .classLink RX4 89 "java/lang/IndexOutOfBoundsException", .initialized "java/lang/IndexOutOfBoundsException", .methodLink RX4 114 yX4_knownOrNull, .instanceMethod yX4_knownOrNull, .selects RX4 yX4_knownOrNull yX4_knownOrNull, .code yX4_knownOrNull cX4_knownOrNull 3 (some (.object "TuneCatalogue$Tune")), .methodLink RX4 210 yX4_enteredOrNull, .instanceMethod yX4_enteredOrNull, .selects RX4 yX4_enteredOrNull yX4_enteredOrNull, .code yX4_enteredOrNull cX4_enteredOrNull 2 (some (.object "TuneCatalogue$Tune")), .fieldLink RX4 11 "TuneCatalogue" "entries" "[LTuneCatalogue$Tune;"] ++ wsX30 ++ wsX40 ++ (vx_atS RX4 93 "java/lang/IndexOutOfBoundsException" ["java/lang/RuntimeException", "java/lang/Exception"]).filter goodWord)
def wsL_notes_r1 : List Cond := [Cond.classLink RL 21 "java/lang/IndexOutOfBoundsException", Cond.methodLink RL 35 yX4_notes, Cond.instanceMethod yX4_notes, Cond.selects RX4 yX4_notes yX4_notes, Cond.initialized RX4, Cond.code yX4_notes cX4_notes 2 (some .int), Cond.methodLink RX4 117 yX4_enteredOrThrow, Cond.instanceMethod yX4_enteredOrThrow, Cond.selects RX4 yX4_enteredOrThrow yX4_enteredOrThrow, Cond.code yX4_enteredOrThrow cX4_enteredOrThrow 3 (some (.object "TuneCatalogue$Tune")), Cond.classLink RX4 89 "java/lang/IndexOutOfBoundsException", Cond.initialized "java/lang/IndexOutOfBoundsException", Cond.methodLink RX4 210 yX4_enteredOrNull, Cond.instanceMethod yX4_enteredOrNull, Cond.selects RX4 yX4_enteredOrNull yX4_enteredOrNull, Cond.code yX4_enteredOrNull cX4_enteredOrNull 2 (some (.object "TuneCatalogue$Tune")), Cond.fieldLink RX4 50 "TuneCatalogue" "entered" "I", Cond.fieldLink RX4 11 "TuneCatalogue" "entries" "[LTuneCatalogue$Tune;", Cond.methodLink RX4 85 yX3_size, Cond.instanceMethod yX3_size, Cond.selects RX3 yX3_size yX3_size, Cond.initialized RX3, Cond.code yX3_size cX3_size 1 (some .int), Cond.fieldLink RX3 14 "TuneCatalogue$Tune" "pitches" "LTuneCatalogue$Row;"]
def wsL_notes_r2 : List Cond := [Cond.methodLink RX3 23 yX2_size, Cond.instanceMethod yX2_size, Cond.selects RX2 yX2_size yX2_size, Cond.initialized RX2, Cond.code yX2_size cX2_size 1 (some .int), Cond.fieldLink RX2 19 "TuneCatalogue$Row" "size" "I"]
def wsL_notes : List Cond := .codeWith yL_notes cL_notes 4 (some .int) [(0, 9, 12, 21)] :: ((wsL_notes_r1 ++ wsL_notes_r2) ++ wsX40 ++ wsX30 ++ wsX20 ++ (vx_atS RX4 93 "java/lang/IndexOutOfBoundsException" ["java/lang/RuntimeException", "java/lang/Exception"]).filter goodWord)
def wsL_step_r1 : List Cond := [Cond.classLink RL 21 "java/lang/IndexOutOfBoundsException", Cond.methodLink RL 38 yX4_step, Cond.instanceMethod yX4_step, Cond.selects RX4 yX4_step yX4_step, Cond.initialized RX4, Cond.code yX4_step cX4_step 4 (some .int), Cond.classLink RX4 89 "java/lang/IndexOutOfBoundsException", Cond.initialized "java/lang/IndexOutOfBoundsException", Cond.methodLink RX4 117 yX4_enteredOrThrow, Cond.instanceMethod yX4_enteredOrThrow, Cond.selects RX4 yX4_enteredOrThrow yX4_enteredOrThrow, Cond.code yX4_enteredOrThrow cX4_enteredOrThrow 3 (some (.object "TuneCatalogue$Tune")), Cond.methodLink RX4 210 yX4_enteredOrNull, Cond.instanceMethod yX4_enteredOrNull, Cond.selects RX4 yX4_enteredOrNull yX4_enteredOrNull, Cond.code yX4_enteredOrNull cX4_enteredOrNull 2 (some (.object "TuneCatalogue$Tune")), Cond.fieldLink RX4 50 "TuneCatalogue" "entered" "I", Cond.fieldLink RX4 11 "TuneCatalogue" "entries" "[LTuneCatalogue$Tune;", Cond.methodLink RX4 85 yX3_size, Cond.instanceMethod yX3_size, Cond.selects RX3 yX3_size yX3_size, Cond.initialized RX3, Cond.code yX3_size cX3_size 1 (some .int), Cond.fieldLink RX3 14 "TuneCatalogue$Tune" "pitches" "LTuneCatalogue$Row;"]
def wsL_step_r2 : List Cond := [Cond.methodLink RX3 23 yX2_size, Cond.instanceMethod yX2_size, Cond.selects RX2 yX2_size yX2_size, Cond.initialized RX2, Cond.code yX2_size cX2_size 1 (some .int), Cond.fieldLink RX2 19 "TuneCatalogue$Row" "size" "I", Cond.methodLink RX4 122 yX2_stepFrom, Cond.instanceMethod yX2_stepFrom, Cond.selects RX2 yX2_stepFrom yX2_stepFrom, Cond.code yX2_stepFrom cX2_stepFrom 2 (some .int), Cond.methodLink RX2 23 yX2_at, Cond.instanceMethod yX2_at, Cond.selects RX2 yX2_at yX2_at, Cond.code yX2_at cX2_at 2 (some .int), Cond.fieldLink RX2 13 "TuneCatalogue$Row" "numbers" "[I"]
def wsL_step : List Cond := .codeWith yL_step cL_step 5 (some .int) [(0, 10, 13, 21)] :: ((wsL_step_r1 ++ wsL_step_r2) ++ wsX30 ++ wsX40 ++ wsX20 ++ (vx_atS RX4 93 "java/lang/IndexOutOfBoundsException" ["java/lang/RuntimeException", "java/lang/Exception"]).filter goodWord)
def wsL_shared_r1 : List Cond := [Cond.classLink RL 21 "java/lang/IndexOutOfBoundsException", Cond.methodLink RL 41 yX4_shared, Cond.instanceMethod yX4_shared, Cond.selects RX4 yX4_shared yX4_shared, Cond.initialized RX4, Cond.code yX4_shared cX4_shared 8 (some .int), Cond.methodLink RX4 130 Lib.Math.max.name, Cond.static Lib.Math.max.name, Cond.initialized "java/lang/Math", Cond.code Lib.Math.max.name Lib.Math.max.code 2 (some .int), Cond.methodLink RX4 117 yX4_enteredOrThrow, Cond.instanceMethod yX4_enteredOrThrow, Cond.selects RX4 yX4_enteredOrThrow yX4_enteredOrThrow, Cond.code yX4_enteredOrThrow cX4_enteredOrThrow 3 (some (.object "TuneCatalogue$Tune")), Cond.classLink RX4 89 "java/lang/IndexOutOfBoundsException", Cond.initialized "java/lang/IndexOutOfBoundsException", Cond.methodLink RX4 210 yX4_enteredOrNull, Cond.instanceMethod yX4_enteredOrNull, Cond.selects RX4 yX4_enteredOrNull yX4_enteredOrNull, Cond.code yX4_enteredOrNull cX4_enteredOrNull 2 (some (.object "TuneCatalogue$Tune")), Cond.fieldLink RX4 50 "TuneCatalogue" "entered" "I", Cond.fieldLink RX4 11 "TuneCatalogue" "entries" "[LTuneCatalogue$Tune;", Cond.methodLink RX4 125 yX2_size, Cond.instanceMethod yX2_size]
def wsL_shared_r2 : List Cond := [Cond.selects RX2 yX2_size yX2_size, Cond.initialized RX2, Cond.code yX2_size cX2_size 1 (some .int), Cond.fieldLink RX2 19 "TuneCatalogue$Row" "size" "I", Cond.methodLink RX4 126 yX2_stepsInCommon, Cond.instanceMethod yX2_stepsInCommon, Cond.selects RX2 yX2_stepsInCommon yX2_stepsInCommon, Cond.code yX2_stepsInCommon cX2_stepsInCommon 6 (some .int), Cond.methodLink RX2 27 Lib.Math.min.name, Cond.static Lib.Math.min.name, Cond.code Lib.Math.min.name Lib.Math.min.code 2 (some .int), Cond.methodLink RX2 30 yX2_stepFrom, Cond.instanceMethod yX2_stepFrom, Cond.selects RX2 yX2_stepFrom yX2_stepFrom, Cond.code yX2_stepFrom cX2_stepFrom 2 (some .int), Cond.methodLink RX2 23 yX2_at, Cond.instanceMethod yX2_at, Cond.selects RX2 yX2_at yX2_at, Cond.code yX2_at cX2_at 2 (some .int), Cond.fieldLink RX2 13 "TuneCatalogue$Row" "numbers" "[I"]
def wsL_shared : List Cond := .codeWith yL_shared cL_shared 5 (some .int) [(0, 10, 13, 21)] :: ((wsL_shared_r1 ++ wsL_shared_r2) ++ wsX30 ++ wsX40 ++ wsX20 ++ (vx_atS RX4 93 "java/lang/IndexOutOfBoundsException" ["java/lang/RuntimeException", "java/lang/Exception"]).filter goodWord)
def wsL_hum_r1 : List Cond := [Cond.classLink RL 13 "java/lang/IllegalArgumentException", Cond.classLink RL 15 "java/lang/IllegalStateException", Cond.methodLink RL 44 yX4_hum, Cond.instanceMethod yX4_hum, Cond.selects RX4 yX4_hum yX4_hum, Cond.initialized RX4, Cond.code yX4_hum cX4_hum 2 (some .int), Cond.classLink RX4 58 "java/lang/IllegalStateException", Cond.initialized "java/lang/IllegalStateException", Cond.fieldLink RX4 20 "TuneCatalogue" "humRow" "LTuneCatalogue$Row;", Cond.methodLink RX4 104 yX4_refuseUnlessWithin, Cond.static yX4_refuseUnlessWithin, Cond.code yX4_refuseUnlessWithin cX4_refuseUnlessWithin 3 none, Cond.classLink RX4 184 "java/lang/IllegalArgumentException", Cond.initialized "java/lang/IllegalArgumentException", Cond.methodLink RX4 54 yX4_isWithin, Cond.static yX4_isWithin, Cond.code yX4_isWithin cX4_isWithin 3 (some .boolean), Cond.methodLink RX4 79 yX2_isFull, Cond.instanceMethod yX2_isFull, Cond.selects RX2 yX2_isFull yX2_isFull, Cond.initialized RX2, Cond.code yX2_isFull cX2_isFull 1 (some .boolean), Cond.fieldLink RX2 19 "TuneCatalogue$Row" "size" "I"]
def wsL_hum_r2 : List Cond := [Cond.fieldLink RX2 13 "TuneCatalogue$Row" "numbers" "[I", Cond.methodLink RX4 138 yX2_append, Cond.instanceMethod yX2_append, Cond.selects RX2 yX2_append yX2_append, Cond.code yX2_append cX2_append 2 none, Cond.methodLink RX4 125 yX2_size, Cond.instanceMethod yX2_size, Cond.selects RX2 yX2_size yX2_size, Cond.code yX2_size cX2_size 1 (some .int)]
def wsL_hum : List Cond := .codeWith yL_hum cL_hum 4 (some .int) [(0, 9, 12, 13), (0, 9, 15, 15)] :: ((wsL_hum_r1 ++ wsL_hum_r2) ++ wsX40 ++ wsX20 ++ (vx_atS RX4 62 "java/lang/IllegalStateException" ["java/lang/RuntimeException", "java/lang/Exception"]).filter goodWord ++ (vx_atS RX4 188 "java/lang/IllegalArgumentException" ["java/lang/RuntimeException", "java/lang/Exception"]).filter goodWord)
def wsL_setCosts : List Cond := .codeWith yL_setCosts cL_setCosts 5 (some .int) [(0, 7, 10, 13)] :: ([.classLink RL 13 "java/lang/IllegalArgumentException", .methodLink RL 47 yX4_setCosts, .instanceMethod yX4_setCosts, .selects RX4 yX4_setCosts yX4_setCosts, .initialized RX4, .code yX4_setCosts cX4_setCosts 4 none, .fieldLink RX4 29 "TuneCatalogue" "matching" "LTuneCatalogue$Matching;", .methodLink RX4 104 yX4_refuseUnlessWithin, .static yX4_refuseUnlessWithin, .code yX4_refuseUnlessWithin cX4_refuseUnlessWithin 3 none, .classLink RX4 184 "java/lang/IllegalArgumentException", .initialized "java/lang/IllegalArgumentException", .methodLink RX4 54 yX4_isWithin, .static yX4_isWithin, .code yX4_isWithin cX4_isWithin 3 (some .boolean)] ++ wsX40 ++ wsX10 ++ (vx_atS RX4 188 "java/lang/IllegalArgumentException" ["java/lang/RuntimeException", "java/lang/Exception"]).filter goodWord)
def wsL_cost_r1 : List Cond := [Cond.classLink RL 21 "java/lang/IndexOutOfBoundsException", Cond.methodLink RL 51 yX4_cost, Cond.instanceMethod yX4_cost, Cond.selects RX4 yX4_cost yX4_cost, Cond.initialized RX4, Cond.code yX4_cost cX4_cost 2 (some .int), Cond.fieldLink RX4 29 "TuneCatalogue" "matching" "LTuneCatalogue$Matching;", Cond.methodLink RX4 72 yX4_knownOrThrow, Cond.instanceMethod yX4_knownOrThrow, Cond.selects RX4 yX4_knownOrThrow yX4_knownOrThrow, Cond.code yX4_knownOrThrow cX4_knownOrThrow 3 (some (.object "TuneCatalogue$Tune")), Cond.classLink RX4 89 "java/lang/IndexOutOfBoundsException", Cond.initialized "java/lang/IndexOutOfBoundsException", Cond.methodLink RX4 114 yX4_knownOrNull, Cond.instanceMethod yX4_knownOrNull, Cond.selects RX4 yX4_knownOrNull yX4_knownOrNull, Cond.code yX4_knownOrNull cX4_knownOrNull 3 (some (.object "TuneCatalogue$Tune")), Cond.methodLink RX4 210 yX4_enteredOrNull, Cond.instanceMethod yX4_enteredOrNull, Cond.selects RX4 yX4_enteredOrNull yX4_enteredOrNull, Cond.code yX4_enteredOrNull cX4_enteredOrNull 2 (some (.object "TuneCatalogue$Tune")), Cond.fieldLink RX4 50 "TuneCatalogue" "entered" "I", Cond.fieldLink RX4 11 "TuneCatalogue" "entries" "[LTuneCatalogue$Tune;", Cond.methodLink RX4 152 yX1_cheapestByTable]
def wsL_cost_r2 : List Cond := [Cond.instanceMethod yX1_cheapestByTable, Cond.selects RX1 yX1_cheapestByTable yX1_cheapestByTable, Cond.initialized RX1, Cond.code yX1_cheapestByTable cX1_cheapestByTable 4 (some .int), Cond.fieldLink RX1 25 "TuneCatalogue$Matching" "hum" "LTuneCatalogue$Row;", Cond.methodLink RX1 29 yX2_size, Cond.instanceMethod yX2_size, Cond.selects RX2 yX2_size yX2_size, Cond.initialized RX2, Cond.code yX2_size cX2_size 1 (some .int), Cond.fieldLink RX2 19 "TuneCatalogue$Row" "size" "I", Cond.methodLink RX1 35 yX3_size, Cond.instanceMethod yX3_size, Cond.selects RX3 yX3_size yX3_size, Cond.initialized RX3, Cond.code yX3_size cX3_size 1 (some .int), Cond.fieldLink RX3 14 "TuneCatalogue$Tune" "pitches" "LTuneCatalogue$Row;", Cond.methodLink RX3 23 yX2_size, Cond.methodLink RX1 38 yX1_cheapestTo, Cond.instanceMethod yX1_cheapestTo, Cond.selects RX1 yX1_cheapestTo yX1_cheapestTo, Cond.code yX1_cheapestTo cX1_cheapestTo 6 (some .int), Cond.methodLink RX1 61 yX1_costBy, Cond.instanceMethod yX1_costBy]
def wsL_cost_r3 : List Cond := [Cond.selects RX1 yX1_costBy yX1_costBy, Cond.code yX1_costBy cX1_costBy 7 (some .int), Cond.methodLink RX1 46 yX1_tableAt, Cond.instanceMethod yX1_tableAt, Cond.selects RX1 yX1_tableAt yX1_tableAt, Cond.code yX1_tableAt cX1_tableAt 5 (some .int), Cond.fieldLink RX1 21 "TuneCatalogue$Matching" "table" "[I", Cond.static yX4_isWithin, Cond.code yX4_isWithin cX4_isWithin 3 (some .boolean), Cond.methodLink RX1 65 yX1_costOfMove, Cond.instanceMethod yX1_costOfMove, Cond.selects RX1 yX1_costOfMove yX1_costOfMove, Cond.code yX1_costOfMove cX1_costOfMove 11 (some .int), Cond.fieldLink RX1 9 "TuneCatalogue$Matching" "slip" "I", Cond.methodLink RX1 79 Lib.Math.abs.name, Cond.static Lib.Math.abs.name, Cond.initialized "java/lang/Math", Cond.code Lib.Math.abs.name Lib.Math.abs.code 1 (some .int), Cond.fieldLink RX1 15 "TuneCatalogue$Matching" "ornament" "I", Cond.fieldLink RX1 18 "TuneCatalogue$Matching" "repeat" "I", Cond.methodLink RX1 75 yX2_at, Cond.instanceMethod yX2_at, Cond.selects RX2 yX2_at yX2_at, Cond.code yX2_at cX2_at 2 (some .int)]
def wsL_cost_r4 : List Cond := [Cond.fieldLink RX2 13 "TuneCatalogue$Row" "numbers" "[I", Cond.methodLink RX1 50 yX1_cheaper, Cond.static yX1_cheaper, Cond.code yX1_cheaper cX1_cheaper 2 (some .int), Cond.methodLink RX1 87 Lib.Math.max.name, Cond.static Lib.Math.max.name, Cond.code Lib.Math.max.name Lib.Math.max.code 2 (some .int), Cond.methodLink RX1 90 Lib.Math.min.name, Cond.static Lib.Math.min.name, Cond.code Lib.Math.min.name Lib.Math.min.code 2 (some .int), Cond.methodLink RX1 42 yX1_setTableAt, Cond.instanceMethod yX1_setTableAt, Cond.selects RX1 yX1_setTableAt yX1_setTableAt, Cond.code yX1_setTableAt cX1_setTableAt 5 none]
def wsL_cost : List Cond := .codeWith yL_cost cL_cost 4 (some .int) [(0, 9, 12, 21)] :: ((wsL_cost_r1 ++ (wsL_cost_r2 ++ (wsL_cost_r3 ++ wsL_cost_r4))) ++ wsX40 ++ wsX30 ++ wsX10 ++ wsX20 ++ (vx_atS RX4 93 "java/lang/IndexOutOfBoundsException" ["java/lang/RuntimeException", "java/lang/Exception"]).filter goodWord)
def wsL_costByAll_r1 : List Cond := [Cond.classLink RL 21 "java/lang/IndexOutOfBoundsException", Cond.classLink RL 15 "java/lang/IllegalStateException", Cond.methodLink RL 54 yX4_costByAll, Cond.instanceMethod yX4_costByAll, Cond.selects RX4 yX4_costByAll yX4_costByAll, Cond.initialized RX4, Cond.code yX4_costByAll cX4_costByAll 3 (some .int), Cond.classLink RX4 58 "java/lang/IllegalStateException", Cond.initialized "java/lang/IllegalStateException", Cond.fieldLink RX4 20 "TuneCatalogue" "humRow" "LTuneCatalogue$Row;", Cond.fieldLink RX4 29 "TuneCatalogue" "matching" "LTuneCatalogue$Matching;", Cond.methodLink RX4 72 yX4_knownOrThrow, Cond.instanceMethod yX4_knownOrThrow, Cond.selects RX4 yX4_knownOrThrow yX4_knownOrThrow, Cond.code yX4_knownOrThrow cX4_knownOrThrow 3 (some (.object "TuneCatalogue$Tune")), Cond.classLink RX4 89 "java/lang/IndexOutOfBoundsException", Cond.initialized "java/lang/IndexOutOfBoundsException", Cond.methodLink RX4 114 yX4_knownOrNull, Cond.instanceMethod yX4_knownOrNull, Cond.selects RX4 yX4_knownOrNull yX4_knownOrNull, Cond.code yX4_knownOrNull cX4_knownOrNull 3 (some (.object "TuneCatalogue$Tune")), Cond.methodLink RX4 210 yX4_enteredOrNull, Cond.instanceMethod yX4_enteredOrNull, Cond.selects RX4 yX4_enteredOrNull yX4_enteredOrNull]
def wsL_costByAll_r2 : List Cond := [Cond.code yX4_enteredOrNull cX4_enteredOrNull 2 (some (.object "TuneCatalogue$Tune")), Cond.fieldLink RX4 50 "TuneCatalogue" "entered" "I", Cond.fieldLink RX4 11 "TuneCatalogue" "entries" "[LTuneCatalogue$Tune;", Cond.methodLink RX4 125 yX2_size, Cond.instanceMethod yX2_size, Cond.selects RX2 yX2_size yX2_size, Cond.initialized RX2, Cond.code yX2_size cX2_size 1 (some .int), Cond.fieldLink RX2 19 "TuneCatalogue$Row" "size" "I", Cond.methodLink RX4 158 yX1_cheapestByTrying, Cond.instanceMethod yX1_cheapestByTrying, Cond.selects RX1 yX1_cheapestByTrying yX1_cheapestByTrying, Cond.initialized RX1, Cond.code yX1_cheapestByTrying cX1_cheapestByTrying 2 (some .int), Cond.fieldLink RX1 25 "TuneCatalogue$Matching" "hum" "LTuneCatalogue$Row;", Cond.methodLink RX1 29 yX2_size, Cond.methodLink RX1 53 yX1_cheapestOnward, Cond.instanceMethod yX1_cheapestOnward, Cond.selects RX1 yX1_cheapestOnward yX1_cheapestOnward, Cond.code yX1_cheapestOnward cX1_cheapestOnward 7 (some .int), Cond.methodLink RX1 68 yX1_costOnwardBy, Cond.instanceMethod yX1_costOnwardBy, Cond.selects RX1 yX1_costOnwardBy yX1_costOnwardBy, Cond.methodLink RX1 50 yX1_cheaper]
def wsL_costByAll_r3 : List Cond := [Cond.static yX1_cheaper, Cond.code yX1_cheaper cX1_cheaper 2 (some .int), Cond.methodLink RX1 87 Lib.Math.max.name, Cond.static Lib.Math.max.name, Cond.initialized "java/lang/Math", Cond.code Lib.Math.max.name Lib.Math.max.code 2 (some .int), Cond.methodLink RX1 90 Lib.Math.min.name, Cond.static Lib.Math.min.name, Cond.code Lib.Math.min.name Lib.Math.min.code 2 (some .int), Cond.code yX1_costOnwardBy cX1_costOnwardBy 9 (some .int), Cond.methodLink RX1 35 yX3_size, Cond.instanceMethod yX3_size, Cond.selects RX3 yX3_size yX3_size, Cond.initialized RX3, Cond.code yX3_size cX3_size 1 (some .int), Cond.fieldLink RX3 14 "TuneCatalogue$Tune" "pitches" "LTuneCatalogue$Row;", Cond.methodLink RX3 23 yX2_size, Cond.methodLink RX1 65 yX1_costOfMove, Cond.instanceMethod yX1_costOfMove, Cond.selects RX1 yX1_costOfMove yX1_costOfMove, Cond.code yX1_costOfMove cX1_costOfMove 11 (some .int), Cond.fieldLink RX1 9 "TuneCatalogue$Matching" "slip" "I", Cond.methodLink RX1 79 Lib.Math.abs.name, Cond.static Lib.Math.abs.name]
def wsL_costByAll_r4 : List Cond := [Cond.code Lib.Math.abs.name Lib.Math.abs.code 1 (some .int), Cond.fieldLink RX1 15 "TuneCatalogue$Matching" "ornament" "I", Cond.fieldLink RX1 18 "TuneCatalogue$Matching" "repeat" "I", Cond.methodLink RX1 75 yX2_at, Cond.instanceMethod yX2_at, Cond.selects RX2 yX2_at yX2_at, Cond.code yX2_at cX2_at 2 (some .int), Cond.fieldLink RX2 13 "TuneCatalogue$Row" "numbers" "[I"]
def wsL_costByAll : List Cond := .codeWith yL_costByAll cL_costByAll 4 (some .int) [(0, 9, 12, 21), (0, 9, 15, 15)] :: ((wsL_costByAll_r1 ++ (wsL_costByAll_r2 ++ (wsL_costByAll_r3 ++ wsL_costByAll_r4))) ++ wsX40 ++ wsX30 ++ wsX20 ++ wsX10 ++ (vx_atS RX4 62 "java/lang/IllegalStateException" ["java/lang/RuntimeException", "java/lang/Exception"]).filter goodWord ++ (vx_atS RX4 93 "java/lang/IndexOutOfBoundsException" ["java/lang/RuntimeException", "java/lang/Exception"]).filter goodWord)
def wsL_found_r1 : List Cond := [Cond.classLink RL 21 "java/lang/IndexOutOfBoundsException", Cond.methodLink RL 57 yX4_found, Cond.instanceMethod yX4_found, Cond.selects RX4 yX4_found yX4_found, Cond.initialized RX4, Cond.code yX4_found cX4_found 3 (some .int), Cond.classLink RX4 89 "java/lang/IndexOutOfBoundsException", Cond.initialized "java/lang/IndexOutOfBoundsException", Cond.fieldLink RX4 40 "TuneCatalogue" "priceRow" "LTuneCatalogue$Row;", Cond.methodLink RX4 161 yX4_priceTunes, Cond.instanceMethod yX4_priceTunes, Cond.selects RX4 yX4_priceTunes yX4_priceTunes, Cond.code yX4_priceTunes cX4_priceTunes 3 none, Cond.fieldLink RX4 50 "TuneCatalogue" "entered" "I", Cond.fieldLink RX4 29 "TuneCatalogue" "matching" "LTuneCatalogue$Matching;", Cond.methodLink RX4 140 yX2_clear, Cond.instanceMethod yX2_clear, Cond.selects RX2 yX2_clear yX2_clear, Cond.initialized RX2, Cond.code yX2_clear cX2_clear 1 none, Cond.fieldLink RX2 19 "TuneCatalogue$Row" "size" "I", Cond.methodLink RX4 114 yX4_knownOrNull, Cond.instanceMethod yX4_knownOrNull, Cond.selects RX4 yX4_knownOrNull yX4_knownOrNull]
def wsL_found_r2 : List Cond := [Cond.code yX4_knownOrNull cX4_knownOrNull 3 (some (.object "TuneCatalogue$Tune")), Cond.methodLink RX4 210 yX4_enteredOrNull, Cond.instanceMethod yX4_enteredOrNull, Cond.selects RX4 yX4_enteredOrNull yX4_enteredOrNull, Cond.code yX4_enteredOrNull cX4_enteredOrNull 2 (some (.object "TuneCatalogue$Tune")), Cond.fieldLink RX4 11 "TuneCatalogue" "entries" "[LTuneCatalogue$Tune;", Cond.methodLink RX4 152 yX1_cheapestByTable, Cond.instanceMethod yX1_cheapestByTable, Cond.selects RX1 yX1_cheapestByTable yX1_cheapestByTable, Cond.initialized RX1, Cond.code yX1_cheapestByTable cX1_cheapestByTable 4 (some .int), Cond.fieldLink RX1 25 "TuneCatalogue$Matching" "hum" "LTuneCatalogue$Row;", Cond.methodLink RX1 29 yX2_size, Cond.instanceMethod yX2_size, Cond.selects RX2 yX2_size yX2_size, Cond.code yX2_size cX2_size 1 (some .int), Cond.methodLink RX1 35 yX3_size, Cond.instanceMethod yX3_size, Cond.selects RX3 yX3_size yX3_size, Cond.initialized RX3, Cond.code yX3_size cX3_size 1 (some .int), Cond.fieldLink RX3 14 "TuneCatalogue$Tune" "pitches" "LTuneCatalogue$Row;", Cond.methodLink RX3 23 yX2_size, Cond.methodLink RX1 38 yX1_cheapestTo]
def wsL_found_r3 : List Cond := [Cond.instanceMethod yX1_cheapestTo, Cond.selects RX1 yX1_cheapestTo yX1_cheapestTo, Cond.code yX1_cheapestTo cX1_cheapestTo 6 (some .int), Cond.methodLink RX1 61 yX1_costBy, Cond.instanceMethod yX1_costBy, Cond.selects RX1 yX1_costBy yX1_costBy, Cond.code yX1_costBy cX1_costBy 7 (some .int), Cond.methodLink RX1 46 yX1_tableAt, Cond.instanceMethod yX1_tableAt, Cond.selects RX1 yX1_tableAt yX1_tableAt, Cond.code yX1_tableAt cX1_tableAt 5 (some .int), Cond.fieldLink RX1 21 "TuneCatalogue$Matching" "table" "[I", Cond.static yX4_isWithin, Cond.code yX4_isWithin cX4_isWithin 3 (some .boolean), Cond.methodLink RX1 65 yX1_costOfMove, Cond.instanceMethod yX1_costOfMove, Cond.selects RX1 yX1_costOfMove yX1_costOfMove, Cond.code yX1_costOfMove cX1_costOfMove 11 (some .int), Cond.fieldLink RX1 9 "TuneCatalogue$Matching" "slip" "I", Cond.methodLink RX1 79 Lib.Math.abs.name, Cond.static Lib.Math.abs.name, Cond.initialized "java/lang/Math", Cond.code Lib.Math.abs.name Lib.Math.abs.code 1 (some .int), Cond.fieldLink RX1 15 "TuneCatalogue$Matching" "ornament" "I"]
def wsL_found_r4 : List Cond := [Cond.fieldLink RX1 18 "TuneCatalogue$Matching" "repeat" "I", Cond.methodLink RX1 75 yX2_at, Cond.instanceMethod yX2_at, Cond.selects RX2 yX2_at yX2_at, Cond.code yX2_at cX2_at 2 (some .int), Cond.fieldLink RX2 13 "TuneCatalogue$Row" "numbers" "[I", Cond.methodLink RX1 50 yX1_cheaper, Cond.static yX1_cheaper, Cond.code yX1_cheaper cX1_cheaper 2 (some .int), Cond.methodLink RX1 87 Lib.Math.max.name, Cond.static Lib.Math.max.name, Cond.code Lib.Math.max.name Lib.Math.max.code 2 (some .int), Cond.methodLink RX1 90 Lib.Math.min.name, Cond.static Lib.Math.min.name, Cond.code Lib.Math.min.name Lib.Math.min.code 2 (some .int), Cond.methodLink RX1 42 yX1_setTableAt, Cond.instanceMethod yX1_setTableAt, Cond.selects RX1 yX1_setTableAt yX1_setTableAt, Cond.code yX1_setTableAt cX1_setTableAt 5 none, Cond.methodLink RX4 138 yX2_append, Cond.instanceMethod yX2_append, Cond.selects RX2 yX2_append yX2_append, Cond.code yX2_append cX2_append 2 none, Cond.methodLink RX4 125 yX2_size]
def wsL_found_r5 : List Cond := [Cond.methodLink RX4 94 yX2_at, Cond.methodLink RX4 164 yX4_rankByPrice, Cond.instanceMethod yX4_rankByPrice, Cond.selects RX4 yX4_rankByPrice yX4_rankByPrice, Cond.code yX4_rankByPrice cX4_rankByPrice 7 (some .int)]
def wsL_found : List Cond := .codeWith yL_found cL_found 4 (some .int) [(0, 9, 12, 21)] :: ((wsL_found_r1 ++ (wsL_found_r2 ++ (wsL_found_r3 ++ (wsL_found_r4 ++ wsL_found_r5)))) ++ wsX40 ++ wsX20 ++ wsX30 ++ wsX10 ++ (vx_atS RX4 93 "java/lang/IndexOutOfBoundsException" ["java/lang/RuntimeException", "java/lang/Exception"]).filter goodWord)
def wsL_places_r1 : List Cond := [Cond.classLink RL 13 "java/lang/IllegalArgumentException", Cond.classLink RL 15 "java/lang/IllegalStateException", Cond.methodLink RL 60 yX4_places, Cond.instanceMethod yX4_places, Cond.selects RX4 yX4_places yX4_places, Cond.initialized RX4, Cond.code yX4_places cX4_places 2 (some .int), Cond.fieldLink RX4 43 "TuneCatalogue" "placeRow" "LTuneCatalogue$Row;", Cond.methodLink RX4 173 yX4_refuseUnlessRunOfHum, Cond.instanceMethod yX4_refuseUnlessRunOfHum, Cond.selects RX4 yX4_refuseUnlessRunOfHum yX4_refuseUnlessRunOfHum, Cond.code yX4_refuseUnlessRunOfHum cX4_refuseUnlessRunOfHum 2 none, Cond.classLink RX4 58 "java/lang/IllegalStateException", Cond.initialized "java/lang/IllegalStateException", Cond.fieldLink RX4 20 "TuneCatalogue" "humRow" "LTuneCatalogue$Row;", Cond.methodLink RX4 104 yX4_refuseUnlessWithin, Cond.static yX4_refuseUnlessWithin, Cond.code yX4_refuseUnlessWithin cX4_refuseUnlessWithin 3 none, Cond.classLink RX4 184 "java/lang/IllegalArgumentException", Cond.initialized "java/lang/IllegalArgumentException", Cond.methodLink RX4 54 yX4_isWithin, Cond.static yX4_isWithin, Cond.code yX4_isWithin cX4_isWithin 3 (some .boolean), Cond.methodLink RX4 125 yX2_size]
def wsL_places_r2 : List Cond := [Cond.instanceMethod yX2_size, Cond.selects RX2 yX2_size yX2_size, Cond.initialized RX2, Cond.code yX2_size cX2_size 1 (some .int), Cond.fieldLink RX2 19 "TuneCatalogue$Row" "size" "I", Cond.methodLink RX4 176 yX4_collectPlaces, Cond.instanceMethod yX4_collectPlaces, Cond.selects RX4 yX4_collectPlaces yX4_collectPlaces, Cond.code yX4_collectPlaces cX4_collectPlaces 4 none, Cond.fieldLink RX4 50 "TuneCatalogue" "entered" "I", Cond.methodLink RX4 140 yX2_clear, Cond.instanceMethod yX2_clear, Cond.selects RX2 yX2_clear yX2_clear, Cond.code yX2_clear cX2_clear 1 none, Cond.methodLink RX4 114 yX4_knownOrNull, Cond.instanceMethod yX4_knownOrNull, Cond.selects RX4 yX4_knownOrNull yX4_knownOrNull, Cond.code yX4_knownOrNull cX4_knownOrNull 3 (some (.object "TuneCatalogue$Tune")), Cond.methodLink RX4 210 yX4_enteredOrNull, Cond.instanceMethod yX4_enteredOrNull, Cond.selects RX4 yX4_enteredOrNull yX4_enteredOrNull, Cond.code yX4_enteredOrNull cX4_enteredOrNull 2 (some (.object "TuneCatalogue$Tune")), Cond.fieldLink RX4 11 "TuneCatalogue" "entries" "[LTuneCatalogue$Tune;", Cond.methodLink RX4 217 yX4_collectPlacesOf]
def wsL_places_r3 : List Cond := [Cond.instanceMethod yX4_collectPlacesOf, Cond.selects RX4 yX4_collectPlacesOf yX4_collectPlacesOf, Cond.code yX4_collectPlacesOf cX4_collectPlacesOf 6 none, Cond.methodLink RX4 126 yX2_stepsInCommon, Cond.instanceMethod yX2_stepsInCommon, Cond.selects RX2 yX2_stepsInCommon yX2_stepsInCommon, Cond.code yX2_stepsInCommon cX2_stepsInCommon 6 (some .int), Cond.methodLink RX2 27 Lib.Math.min.name, Cond.static Lib.Math.min.name, Cond.initialized "java/lang/Math", Cond.code Lib.Math.min.name Lib.Math.min.code 2 (some .int), Cond.methodLink RX2 30 yX2_stepFrom, Cond.instanceMethod yX2_stepFrom, Cond.selects RX2 yX2_stepFrom yX2_stepFrom, Cond.code yX2_stepFrom cX2_stepFrom 2 (some .int), Cond.methodLink RX2 23 yX2_at, Cond.instanceMethod yX2_at, Cond.selects RX2 yX2_at yX2_at, Cond.code yX2_at cX2_at 2 (some .int), Cond.fieldLink RX2 13 "TuneCatalogue$Row" "numbers" "[I", Cond.methodLink RX4 138 yX2_append, Cond.instanceMethod yX2_append, Cond.selects RX2 yX2_append yX2_append, Cond.code yX2_append cX2_append 2 none]
def wsL_places : List Cond := .codeWith yL_places cL_places 4 (some .int) [(0, 9, 12, 13), (0, 9, 15, 15)] :: ((wsL_places_r1 ++ (wsL_places_r2 ++ wsL_places_r3)) ++ wsX40 ++ wsX20 ++ wsX30 ++ (vx_atS RX4 62 "java/lang/IllegalStateException" ["java/lang/RuntimeException", "java/lang/Exception"]).filter goodWord ++ (vx_atS RX4 188 "java/lang/IllegalArgumentException" ["java/lang/RuntimeException", "java/lang/Exception"]).filter goodWord)
def wsL_place_r1 : List Cond := [Cond.classLink RL 13 "java/lang/IllegalArgumentException", Cond.classLink RL 15 "java/lang/IllegalStateException", Cond.classLink RL 21 "java/lang/IndexOutOfBoundsException", Cond.methodLink RL 63 yX4_place, Cond.instanceMethod yX4_place, Cond.selects RX4 yX4_place yX4_place, Cond.initialized RX4, Cond.code yX4_place cX4_place 3 (some .int), Cond.classLink RX4 89 "java/lang/IndexOutOfBoundsException", Cond.initialized "java/lang/IndexOutOfBoundsException", Cond.fieldLink RX4 43 "TuneCatalogue" "placeRow" "LTuneCatalogue$Row;", Cond.methodLink RX4 173 yX4_refuseUnlessRunOfHum, Cond.instanceMethod yX4_refuseUnlessRunOfHum, Cond.selects RX4 yX4_refuseUnlessRunOfHum yX4_refuseUnlessRunOfHum, Cond.code yX4_refuseUnlessRunOfHum cX4_refuseUnlessRunOfHum 2 none, Cond.classLink RX4 58 "java/lang/IllegalStateException", Cond.initialized "java/lang/IllegalStateException", Cond.fieldLink RX4 20 "TuneCatalogue" "humRow" "LTuneCatalogue$Row;", Cond.methodLink RX4 104 yX4_refuseUnlessWithin, Cond.static yX4_refuseUnlessWithin, Cond.code yX4_refuseUnlessWithin cX4_refuseUnlessWithin 3 none, Cond.classLink RX4 184 "java/lang/IllegalArgumentException", Cond.initialized "java/lang/IllegalArgumentException", Cond.methodLink RX4 54 yX4_isWithin]
def wsL_place_r2 : List Cond := [Cond.static yX4_isWithin, Cond.code yX4_isWithin cX4_isWithin 3 (some .boolean), Cond.methodLink RX4 125 yX2_size, Cond.instanceMethod yX2_size, Cond.selects RX2 yX2_size yX2_size, Cond.initialized RX2, Cond.code yX2_size cX2_size 1 (some .int), Cond.fieldLink RX2 19 "TuneCatalogue$Row" "size" "I", Cond.methodLink RX4 176 yX4_collectPlaces, Cond.instanceMethod yX4_collectPlaces, Cond.selects RX4 yX4_collectPlaces yX4_collectPlaces, Cond.code yX4_collectPlaces cX4_collectPlaces 4 none, Cond.fieldLink RX4 50 "TuneCatalogue" "entered" "I", Cond.methodLink RX4 140 yX2_clear, Cond.instanceMethod yX2_clear, Cond.selects RX2 yX2_clear yX2_clear, Cond.code yX2_clear cX2_clear 1 none, Cond.methodLink RX4 114 yX4_knownOrNull, Cond.instanceMethod yX4_knownOrNull, Cond.selects RX4 yX4_knownOrNull yX4_knownOrNull, Cond.code yX4_knownOrNull cX4_knownOrNull 3 (some (.object "TuneCatalogue$Tune")), Cond.methodLink RX4 210 yX4_enteredOrNull, Cond.instanceMethod yX4_enteredOrNull, Cond.selects RX4 yX4_enteredOrNull yX4_enteredOrNull]
def wsL_place_r3 : List Cond := [Cond.code yX4_enteredOrNull cX4_enteredOrNull 2 (some (.object "TuneCatalogue$Tune")), Cond.fieldLink RX4 11 "TuneCatalogue" "entries" "[LTuneCatalogue$Tune;", Cond.methodLink RX4 217 yX4_collectPlacesOf, Cond.instanceMethod yX4_collectPlacesOf, Cond.selects RX4 yX4_collectPlacesOf yX4_collectPlacesOf, Cond.code yX4_collectPlacesOf cX4_collectPlacesOf 6 none, Cond.methodLink RX4 126 yX2_stepsInCommon, Cond.instanceMethod yX2_stepsInCommon, Cond.selects RX2 yX2_stepsInCommon yX2_stepsInCommon, Cond.code yX2_stepsInCommon cX2_stepsInCommon 6 (some .int), Cond.methodLink RX2 27 Lib.Math.min.name, Cond.static Lib.Math.min.name, Cond.initialized "java/lang/Math", Cond.code Lib.Math.min.name Lib.Math.min.code 2 (some .int), Cond.methodLink RX2 30 yX2_stepFrom, Cond.instanceMethod yX2_stepFrom, Cond.selects RX2 yX2_stepFrom yX2_stepFrom, Cond.code yX2_stepFrom cX2_stepFrom 2 (some .int), Cond.methodLink RX2 23 yX2_at, Cond.instanceMethod yX2_at, Cond.selects RX2 yX2_at yX2_at, Cond.code yX2_at cX2_at 2 (some .int), Cond.fieldLink RX2 13 "TuneCatalogue$Row" "numbers" "[I", Cond.methodLink RX4 138 yX2_append]
def wsL_place_r4 : List Cond := [Cond.instanceMethod yX2_append, Cond.selects RX2 yX2_append yX2_append, Cond.code yX2_append cX2_append 2 none, Cond.methodLink RX4 94 yX2_at]
def wsL_place : List Cond := .codeWith yL_place cL_place 5 (some .int) [(0, 10, 13, 13), (0, 10, 17, 15), (0, 10, 21, 21)] :: ((wsL_place_r1 ++ (wsL_place_r2 ++ (wsL_place_r3 ++ wsL_place_r4))) ++ wsX40 ++ wsX20 ++ wsX30 ++ (vx_atS RX4 93 "java/lang/IndexOutOfBoundsException" ["java/lang/RuntimeException", "java/lang/Exception"]).filter goodWord ++ (vx_atS RX4 62 "java/lang/IllegalStateException" ["java/lang/RuntimeException", "java/lang/Exception"]).filter goodWord ++ (vx_atS RX4 188 "java/lang/IllegalArgumentException" ["java/lang/RuntimeException", "java/lang/Exception"]).filter goodWord)
def wsL_link_r1 : List Cond := [Cond.classLink RL 21 "java/lang/IndexOutOfBoundsException", Cond.classLink RL 13 "java/lang/IllegalArgumentException", Cond.classLink RL 15 "java/lang/IllegalStateException", Cond.methodLink RL 66 yX4_link, Cond.instanceMethod yX4_link, Cond.selects RX4 yX4_link yX4_link, Cond.initialized RX4, Cond.code yX4_link cX4_link 3 (some .int), Cond.classLink RX4 184 "java/lang/IllegalArgumentException", Cond.initialized "java/lang/IllegalArgumentException", Cond.classLink RX4 58 "java/lang/IllegalStateException", Cond.initialized "java/lang/IllegalStateException", Cond.fieldLink RX4 36 "TuneCatalogue" "links" "LTuneCatalogue$Links;", Cond.methodLink RX4 181 yX4_refuseUnlessEntered, Cond.instanceMethod yX4_refuseUnlessEntered, Cond.selects RX4 yX4_refuseUnlessEntered yX4_refuseUnlessEntered, Cond.code yX4_refuseUnlessEntered cX4_refuseUnlessEntered 3 none, Cond.methodLink RX4 117 yX4_enteredOrThrow, Cond.instanceMethod yX4_enteredOrThrow, Cond.selects RX4 yX4_enteredOrThrow yX4_enteredOrThrow, Cond.code yX4_enteredOrThrow cX4_enteredOrThrow 3 (some (.object "TuneCatalogue$Tune")), Cond.classLink RX4 89 "java/lang/IndexOutOfBoundsException", Cond.initialized "java/lang/IndexOutOfBoundsException", Cond.methodLink RX4 210 yX4_enteredOrNull]
def wsL_link_r2 : List Cond := [Cond.instanceMethod yX4_enteredOrNull, Cond.selects RX4 yX4_enteredOrNull yX4_enteredOrNull, Cond.code yX4_enteredOrNull cX4_enteredOrNull 2 (some (.object "TuneCatalogue$Tune")), Cond.fieldLink RX4 50 "TuneCatalogue" "entered" "I", Cond.fieldLink RX4 11 "TuneCatalogue" "entries" "[LTuneCatalogue$Tune;", Cond.methodLink RX4 189 yX0_areLinked, Cond.instanceMethod yX0_areLinked, Cond.selects RX0 yX0_areLinked yX0_areLinked, Cond.initialized RX0, Cond.code yX0_areLinked cX0_areLinked 3 (some .boolean), Cond.fieldLink RX0 14 "TuneCatalogue$Links" "partners" "LTuneCatalogue$Row;", Cond.methodLink RX0 23 yX2_at, Cond.instanceMethod yX2_at, Cond.selects RX2 yX2_at yX2_at, Cond.initialized RX2, Cond.code yX2_at cX2_at 2 (some .int), Cond.fieldLink RX2 19 "TuneCatalogue$Row" "size" "I", Cond.fieldLink RX2 13 "TuneCatalogue$Row" "numbers" "[I", Cond.methodLink RX0 27 yX0_setOf, Cond.static yX0_setOf, Cond.code yX0_setOf cX0_setOf 1 (some .int), Cond.methodLink RX4 195 yX0_toggle, Cond.instanceMethod yX0_toggle, Cond.selects RX0 yX0_toggle yX0_toggle]
def wsL_link_r3 : List Cond := [Cond.code yX0_toggle cX0_toggle 3 none, Cond.methodLink RX0 30 yX2_put, Cond.instanceMethod yX2_put, Cond.selects RX2 yX2_put yX2_put, Cond.code yX2_put cX2_put 3 none, Cond.methodLink RX4 198 yX0_countFamilies, Cond.instanceMethod yX0_countFamilies, Cond.selects RX0 yX0_countFamilies yX0_countFamilies, Cond.code yX0_countFamilies cX0_countFamilies 3 (some .int), Cond.methodLink RX0 34 yX2_size, Cond.instanceMethod yX2_size, Cond.selects RX2 yX2_size yX2_size, Cond.code yX2_size cX2_size 1 (some .int), Cond.methodLink RX0 38 yX0_lowestOfFamily, Cond.instanceMethod yX0_lowestOfFamily, Cond.selects RX0 yX0_lowestOfFamily yX0_lowestOfFamily, Cond.code yX0_lowestOfFamily cX0_lowestOfFamily 4 (some .int), Cond.methodLink RX0 41 yX0_withPartners, Cond.instanceMethod yX0_withPartners, Cond.selects RX0 yX0_withPartners yX0_withPartners, Cond.code yX0_withPartners cX0_withPartners 4 (some .int)]
def wsL_link : List Cond := .codeWith yL_link cL_link 5 (some .int) [(0, 10, 13, 21), (0, 10, 17, 13), (0, 10, 21, 15)] :: ((wsL_link_r1 ++ (wsL_link_r2 ++ wsL_link_r3)) ++ wsX40 ++ wsX00 ++ wsX20 ++ (vx_atS RX4 188 "java/lang/IllegalArgumentException" ["java/lang/RuntimeException", "java/lang/Exception"]).filter goodWord ++ (vx_atS RX4 62 "java/lang/IllegalStateException" ["java/lang/RuntimeException", "java/lang/Exception"]).filter goodWord ++ (vx_atS RX4 93 "java/lang/IndexOutOfBoundsException" ["java/lang/RuntimeException", "java/lang/Exception"]).filter goodWord)
def wsL_cut_r1 : List Cond := [Cond.classLink RL 21 "java/lang/IndexOutOfBoundsException", Cond.classLink RL 15 "java/lang/IllegalStateException", Cond.methodLink RL 69 yX4_cut, Cond.instanceMethod yX4_cut, Cond.selects RX4 yX4_cut yX4_cut, Cond.initialized RX4, Cond.code yX4_cut cX4_cut 3 (some .int), Cond.classLink RX4 58 "java/lang/IllegalStateException", Cond.initialized "java/lang/IllegalStateException", Cond.fieldLink RX4 36 "TuneCatalogue" "links" "LTuneCatalogue$Links;", Cond.methodLink RX4 181 yX4_refuseUnlessEntered, Cond.instanceMethod yX4_refuseUnlessEntered, Cond.selects RX4 yX4_refuseUnlessEntered yX4_refuseUnlessEntered, Cond.code yX4_refuseUnlessEntered cX4_refuseUnlessEntered 3 none, Cond.methodLink RX4 117 yX4_enteredOrThrow, Cond.instanceMethod yX4_enteredOrThrow, Cond.selects RX4 yX4_enteredOrThrow yX4_enteredOrThrow, Cond.code yX4_enteredOrThrow cX4_enteredOrThrow 3 (some (.object "TuneCatalogue$Tune")), Cond.classLink RX4 89 "java/lang/IndexOutOfBoundsException", Cond.initialized "java/lang/IndexOutOfBoundsException", Cond.methodLink RX4 210 yX4_enteredOrNull, Cond.instanceMethod yX4_enteredOrNull, Cond.selects RX4 yX4_enteredOrNull yX4_enteredOrNull, Cond.code yX4_enteredOrNull cX4_enteredOrNull 2 (some (.object "TuneCatalogue$Tune"))]
def wsL_cut_r2 : List Cond := [Cond.fieldLink RX4 50 "TuneCatalogue" "entered" "I", Cond.fieldLink RX4 11 "TuneCatalogue" "entries" "[LTuneCatalogue$Tune;", Cond.methodLink RX4 189 yX0_areLinked, Cond.instanceMethod yX0_areLinked, Cond.selects RX0 yX0_areLinked yX0_areLinked, Cond.initialized RX0, Cond.code yX0_areLinked cX0_areLinked 3 (some .boolean), Cond.fieldLink RX0 14 "TuneCatalogue$Links" "partners" "LTuneCatalogue$Row;", Cond.methodLink RX0 23 yX2_at, Cond.instanceMethod yX2_at, Cond.selects RX2 yX2_at yX2_at, Cond.initialized RX2, Cond.code yX2_at cX2_at 2 (some .int), Cond.fieldLink RX2 19 "TuneCatalogue$Row" "size" "I", Cond.fieldLink RX2 13 "TuneCatalogue$Row" "numbers" "[I", Cond.methodLink RX0 27 yX0_setOf, Cond.static yX0_setOf, Cond.code yX0_setOf cX0_setOf 1 (some .int), Cond.methodLink RX4 195 yX0_toggle, Cond.instanceMethod yX0_toggle, Cond.selects RX0 yX0_toggle yX0_toggle, Cond.code yX0_toggle cX0_toggle 3 none, Cond.methodLink RX0 30 yX2_put, Cond.instanceMethod yX2_put]
def wsL_cut_r3 : List Cond := [Cond.selects RX2 yX2_put yX2_put, Cond.code yX2_put cX2_put 3 none, Cond.methodLink RX4 198 yX0_countFamilies, Cond.instanceMethod yX0_countFamilies, Cond.selects RX0 yX0_countFamilies yX0_countFamilies, Cond.code yX0_countFamilies cX0_countFamilies 3 (some .int), Cond.methodLink RX0 34 yX2_size, Cond.instanceMethod yX2_size, Cond.selects RX2 yX2_size yX2_size, Cond.code yX2_size cX2_size 1 (some .int), Cond.methodLink RX0 38 yX0_lowestOfFamily, Cond.instanceMethod yX0_lowestOfFamily, Cond.selects RX0 yX0_lowestOfFamily yX0_lowestOfFamily, Cond.code yX0_lowestOfFamily cX0_lowestOfFamily 4 (some .int), Cond.methodLink RX0 41 yX0_withPartners, Cond.instanceMethod yX0_withPartners, Cond.selects RX0 yX0_withPartners yX0_withPartners, Cond.code yX0_withPartners cX0_withPartners 4 (some .int)]
def wsL_cut : List Cond := .codeWith yL_cut cL_cut 5 (some .int) [(0, 10, 13, 21), (0, 10, 17, 15)] :: ((wsL_cut_r1 ++ (wsL_cut_r2 ++ wsL_cut_r3)) ++ wsX40 ++ wsX00 ++ wsX20 ++ (vx_atS RX4 62 "java/lang/IllegalStateException" ["java/lang/RuntimeException", "java/lang/Exception"]).filter goodWord ++ (vx_atS RX4 93 "java/lang/IndexOutOfBoundsException" ["java/lang/RuntimeException", "java/lang/Exception"]).filter goodWord)
def wsL_family_r1 : List Cond := [Cond.classLink RL 21 "java/lang/IndexOutOfBoundsException", Cond.methodLink RL 72 yX4_family, Cond.instanceMethod yX4_family, Cond.selects RX4 yX4_family yX4_family, Cond.initialized RX4, Cond.code yX4_family cX4_family 2 (some .int), Cond.fieldLink RX4 36 "TuneCatalogue" "links" "LTuneCatalogue$Links;", Cond.methodLink RX4 117 yX4_enteredOrThrow, Cond.instanceMethod yX4_enteredOrThrow, Cond.selects RX4 yX4_enteredOrThrow yX4_enteredOrThrow, Cond.code yX4_enteredOrThrow cX4_enteredOrThrow 3 (some (.object "TuneCatalogue$Tune")), Cond.classLink RX4 89 "java/lang/IndexOutOfBoundsException", Cond.initialized "java/lang/IndexOutOfBoundsException", Cond.methodLink RX4 210 yX4_enteredOrNull, Cond.instanceMethod yX4_enteredOrNull, Cond.selects RX4 yX4_enteredOrNull yX4_enteredOrNull, Cond.code yX4_enteredOrNull cX4_enteredOrNull 2 (some (.object "TuneCatalogue$Tune")), Cond.fieldLink RX4 50 "TuneCatalogue" "entered" "I", Cond.fieldLink RX4 11 "TuneCatalogue" "entries" "[LTuneCatalogue$Tune;", Cond.methodLink RX4 203 yX0_lowestOfFamily, Cond.instanceMethod yX0_lowestOfFamily, Cond.selects RX0 yX0_lowestOfFamily yX0_lowestOfFamily, Cond.initialized RX0, Cond.code yX0_lowestOfFamily cX0_lowestOfFamily 4 (some .int)]
def wsL_family_r2 : List Cond := [Cond.fieldLink RX0 14 "TuneCatalogue$Links" "partners" "LTuneCatalogue$Row;", Cond.methodLink RX0 27 yX0_setOf, Cond.static yX0_setOf, Cond.code yX0_setOf cX0_setOf 1 (some .int), Cond.methodLink RX0 34 yX2_size, Cond.instanceMethod yX2_size, Cond.selects RX2 yX2_size yX2_size, Cond.initialized RX2, Cond.code yX2_size cX2_size 1 (some .int), Cond.fieldLink RX2 19 "TuneCatalogue$Row" "size" "I", Cond.methodLink RX0 41 yX0_withPartners, Cond.instanceMethod yX0_withPartners, Cond.selects RX0 yX0_withPartners yX0_withPartners, Cond.code yX0_withPartners cX0_withPartners 4 (some .int), Cond.methodLink RX0 23 yX2_at, Cond.instanceMethod yX2_at, Cond.selects RX2 yX2_at yX2_at, Cond.code yX2_at cX2_at 2 (some .int), Cond.fieldLink RX2 13 "TuneCatalogue$Row" "numbers" "[I"]
def wsL_family : List Cond := .codeWith yL_family cL_family 4 (some .int) [(0, 9, 12, 21)] :: ((wsL_family_r1 ++ wsL_family_r2) ++ wsX40 ++ wsX00 ++ wsX20 ++ (vx_atS RX4 93 "java/lang/IndexOutOfBoundsException" ["java/lang/RuntimeException", "java/lang/Exception"]).filter goodWord)
def wsL_law0_r1 : List Cond := [Cond.classLink RL 8 RX4, Cond.instantiable RX4 7, Cond.initialized RX4, Cond.classLink RL 76 RX5, Cond.instantiable RX5 13, Cond.initialized RX5, Cond.arrayClass .long, Cond.methodLink RL 75 yX4_init, Cond.instanceMethod yX4_init, Cond.code yX4_init cX4_init 1 none, Cond.methodLink RX4 1 objectInit, Cond.instanceMethod objectInit, Cond.code objectInit ⟨#[0xb1]⟩ 1 none, Cond.classLink RX4 9 RX3, Cond.fieldLink RX4 11 "TuneCatalogue" "entries" "[LTuneCatalogue$Tune;", Cond.classLink RX4 15 RX2, Cond.instantiable RX2 2, Cond.initialized RX2, Cond.fieldLink RX4 20 "TuneCatalogue" "humRow" "LTuneCatalogue$Row;", Cond.classLink RX4 24 RX1, Cond.instantiable RX1 5, Cond.initialized RX1, Cond.fieldLink RX4 29 "TuneCatalogue" "matching" "LTuneCatalogue$Matching;", Cond.classLink RX4 33 RX0]
def wsL_law0_r2 : List Cond := [Cond.instantiable RX0 1, Cond.initialized RX0, Cond.fieldLink RX4 36 "TuneCatalogue" "links" "LTuneCatalogue$Links;", Cond.fieldLink RX4 40 "TuneCatalogue" "priceRow" "LTuneCatalogue$Row;", Cond.fieldLink RX4 43 "TuneCatalogue" "placeRow" "LTuneCatalogue$Row;", Cond.methodLink RX4 17 yX2_init, Cond.instanceMethod yX2_init, Cond.code yX2_init cX2_init 2 none, Cond.methodLink RX2 1 objectInit, Cond.methodLink RX2 7 Lib.Math.max.name, Cond.static Lib.Math.max.name, Cond.initialized "java/lang/Math", Cond.code Lib.Math.max.name Lib.Math.max.code 2 (some .int), Cond.arrayClass .int, Cond.fieldLink RX2 13 "TuneCatalogue$Row" "numbers" "[I", Cond.methodLink RX4 26 yX1_init, Cond.instanceMethod yX1_init, Cond.code yX1_init cX1_init 2 none, Cond.methodLink RX1 3 objectInit, Cond.fieldLink RX1 9 "TuneCatalogue$Matching" "slip" "I", Cond.fieldLink RX1 15 "TuneCatalogue$Matching" "ornament" "I", Cond.fieldLink RX1 18 "TuneCatalogue$Matching" "repeat" "I", Cond.fieldLink RX1 21 "TuneCatalogue$Matching" "table" "[I", Cond.fieldLink RX1 25 "TuneCatalogue$Matching" "hum" "LTuneCatalogue$Row;"]
def wsL_law0_r3 : List Cond := [Cond.instanceMethod yX0_init, Cond.code yX0_init cX0_init 1 none, Cond.methodLink RX0 3 objectInit, Cond.classLink RX0 9 RX2, Cond.fieldLink RX0 14 "TuneCatalogue$Links" "partners" "LTuneCatalogue$Row;", Cond.methodLink RX0 11 yX2_init, Cond.methodLink RL 78 yX5_init, Cond.instanceMethod yX5_init, Cond.code yX5_init cX5_init 1 none, Cond.methodLink RX5 1 objectInit, Cond.fieldLink RX5 7 "TuneCatalogueModel" "pitches" "[I", Cond.fieldLink RX5 13 "TuneCatalogueModel" "lengths" "[I", Cond.fieldLink RX5 16 "TuneCatalogueModel" "sizes" "[I", Cond.arrayClass .boolean, Cond.fieldLink RX5 19 "TuneCatalogueModel" "areRetired" "[Z", Cond.fieldLink RX5 23 "TuneCatalogueModel" "hum" "[I", Cond.fieldLink RX5 26 "TuneCatalogueModel" "slip" "I", Cond.fieldLink RX5 30 "TuneCatalogueModel" "ornament" "I", Cond.fieldLink RX5 33 "TuneCatalogueModel" "repeat" "I", Cond.fieldLink RX5 36 "TuneCatalogueModel" "costs" "[I", Cond.fieldLink RX5 39 "TuneCatalogueModel" "links" "[I", Cond.methodLink RL 79 yL_add, Cond.static yL_add, Cond.initialized RL]
def wsL_law0_r4 : List Cond := [Cond.codeWith yL_add cL_add 5 (some .int) [(0, 10, 13, 13), (0, 10, 17, 15)], Cond.classLink RL 13 "java/lang/IllegalArgumentException", Cond.classLink RL 15 "java/lang/IllegalStateException", Cond.methodLink RL 7 yX4_add, Cond.instanceMethod yX4_add, Cond.selects RX4 yX4_add yX4_add, Cond.code yX4_add cX4_add 4 (some .int), Cond.classLink RX4 58 "java/lang/IllegalStateException", Cond.initialized "java/lang/IllegalStateException", Cond.fieldLink RX4 50 "TuneCatalogue" "entered" "I", Cond.instantiable RX3 3, Cond.initialized RX3, Cond.methodLink RX4 46 yX4_refuseUnlessNote, Cond.static yX4_refuseUnlessNote, Cond.code yX4_refuseUnlessNote cX4_refuseUnlessNote 2 none, Cond.methodLink RX4 104 yX4_refuseUnlessWithin, Cond.static yX4_refuseUnlessWithin, Cond.code yX4_refuseUnlessWithin cX4_refuseUnlessWithin 3 none, Cond.classLink RX4 184 "java/lang/IllegalArgumentException", Cond.initialized "java/lang/IllegalArgumentException", Cond.methodLink RX4 54 yX4_isWithin, Cond.static yX4_isWithin, Cond.code yX4_isWithin cX4_isWithin 3 (some .boolean), Cond.instanceMethod yX3_init]
def wsL_law0_r5 : List Cond := [Cond.code yX3_init cX3_init 1 none, Cond.methodLink RX3 3 objectInit, Cond.classLink RX3 9 RX2, Cond.fieldLink RX3 14 "TuneCatalogue$Tune" "pitches" "LTuneCatalogue$Row;", Cond.fieldLink RX3 20 "TuneCatalogue$Tune" "lengths" "LTuneCatalogue$Row;", Cond.methodLink RX3 11 yX2_init, Cond.methodLink RX4 66 yX3_append, Cond.instanceMethod yX3_append, Cond.selects RX3 yX3_append yX3_append, Cond.code yX3_append cX3_append 3 none, Cond.methodLink RX3 27 yX2_append, Cond.instanceMethod yX2_append, Cond.selects RX2 yX2_append yX2_append, Cond.code yX2_append cX2_append 2 none, Cond.fieldLink RX2 19 "TuneCatalogue$Row" "size" "I", Cond.methodLink RX4 69 yX0_admitTune, Cond.instanceMethod yX0_admitTune, Cond.selects RX0 yX0_admitTune yX0_admitTune, Cond.code yX0_admitTune cX0_admitTune 1 none, Cond.methodLink RX0 20 yX2_append, Cond.methodLink RL 84 yX5_add, Cond.instanceMethod yX5_add, Cond.selects RX5 yX5_add yX5_add, Cond.code yX5_add cX5_add 3 (some .int)]
def wsL_law0_r6 : List Cond := [Cond.fieldLink RX5 45 "TuneCatalogueModel" "tunes" "I", Cond.methodLink RX5 56 yX5_isNote, Cond.static yX5_isNote, Cond.code yX5_isNote cX5_isNote 2 (some .boolean), Cond.methodLink RX5 48 yX5_in, Cond.static yX5_in, Cond.code yX5_in cX5_in 3 (some .boolean), Cond.methodLink RX5 60 yX5_holds, Cond.instanceMethod yX5_holds, Cond.selects RX5 yX5_holds yX5_holds, Cond.code yX5_holds cX5_holds 2 (some .boolean), Cond.fieldLink RX5 42 "TuneCatalogueModel" "thrown" "I", Cond.methodLink RX5 63 yX5_sets, Cond.instanceMethod yX5_sets, Cond.selects RX5 yX5_sets yX5_sets, Cond.code yX5_sets cX5_sets 5 none, Cond.methodLink RL 85 yX5_thrown, Cond.instanceMethod yX5_thrown, Cond.selects RX5 yX5_thrown yX5_thrown, Cond.code yX5_thrown cX5_thrown 1 (some .int), Cond.methodLink RL 89 yL_note, Cond.static yL_note, Cond.codeWith yL_note cL_note 6 (some .int) [(0, 12, 15, 21), (0, 12, 19, 13), (0, 12, 23, 15)], Cond.classLink RL 21 "java/lang/IndexOutOfBoundsException"]
def wsL_law0_r7 : List Cond := [Cond.methodLink RL 17 yX4_note, Cond.instanceMethod yX4_note, Cond.selects RX4 yX4_note yX4_note, Cond.code yX4_note cX4_note 5 (some .int), Cond.methodLink RX4 72 yX4_knownOrThrow, Cond.instanceMethod yX4_knownOrThrow, Cond.selects RX4 yX4_knownOrThrow yX4_knownOrThrow, Cond.code yX4_knownOrThrow cX4_knownOrThrow 3 (some (.object "TuneCatalogue$Tune")), Cond.classLink RX4 89 "java/lang/IndexOutOfBoundsException", Cond.initialized "java/lang/IndexOutOfBoundsException", Cond.methodLink RX4 114 yX4_knownOrNull, Cond.instanceMethod yX4_knownOrNull, Cond.selects RX4 yX4_knownOrNull yX4_knownOrNull, Cond.code yX4_knownOrNull cX4_knownOrNull 3 (some (.object "TuneCatalogue$Tune")), Cond.methodLink RX4 210 yX4_enteredOrNull, Cond.instanceMethod yX4_enteredOrNull, Cond.selects RX4 yX4_enteredOrNull yX4_enteredOrNull, Cond.code yX4_enteredOrNull cX4_enteredOrNull 2 (some (.object "TuneCatalogue$Tune")), Cond.methodLink RX4 79 yX2_isFull, Cond.instanceMethod yX2_isFull, Cond.selects RX2 yX2_isFull yX2_isFull, Cond.code yX2_isFull cX2_isFull 1 (some .boolean), Cond.methodLink RX4 85 yX3_size, Cond.instanceMethod yX3_size]
def wsL_law0_r8 : List Cond := [Cond.selects RX3 yX3_size yX3_size, Cond.code yX3_size cX3_size 1 (some .int), Cond.methodLink RX3 23 yX2_size, Cond.instanceMethod yX2_size, Cond.selects RX2 yX2_size yX2_size, Cond.code yX2_size cX2_size 1 (some .int), Cond.methodLink RL 92 yX5_note, Cond.instanceMethod yX5_note, Cond.selects RX5 yX5_note yX5_note, Cond.code yX5_note cX5_note 4 (some .int), Cond.methodLink RX5 67 yX5_isKnown, Cond.instanceMethod yX5_isKnown, Cond.selects RX5 yX5_isKnown yX5_isKnown, Cond.code yX5_isKnown cX5_isKnown 2 (some .boolean), Cond.methodLink RX5 52 yX5_isTune, Cond.instanceMethod yX5_isTune, Cond.selects RX5 yX5_isTune yX5_isTune, Cond.code yX5_isTune cX5_isTune 2 (some .boolean), Cond.methodLink RL 93 yL_correct, Cond.static yL_correct, Cond.codeWith yL_correct cL_correct 7 (some .int) [(0, 14, 17, 21), (0, 14, 21, 13)], Cond.methodLink RL 23 yX4_correct, Cond.instanceMethod yX4_correct, Cond.selects RX4 yX4_correct yX4_correct]
def wsL_law0_r9 : List Cond := [Cond.code yX4_correct cX4_correct 7 (some .int), Cond.methodLink RX4 94 yX2_at, Cond.instanceMethod yX2_at, Cond.selects RX2 yX2_at yX2_at, Cond.code yX2_at cX2_at 2 (some .int), Cond.methodLink RX4 98 yX2_put, Cond.instanceMethod yX2_put, Cond.selects RX2 yX2_put yX2_put, Cond.code yX2_put cX2_put 3 none, Cond.methodLink RL 96 yX5_correct, Cond.instanceMethod yX5_correct, Cond.selects RX5 yX5_correct yX5_correct, Cond.code yX5_correct cX5_correct 7 (some .int), Cond.methodLink RL 97 yL_shift, Cond.static yL_shift, Cond.codeWith yL_shift cL_shift 4 (some .int) [(0, 6, 9, 21), (0, 6, 12, 13), (0, 6, 15, 15)], Cond.methodLink RL 27 yX4_shift, Cond.instanceMethod yX4_shift, Cond.selects RX4 yX4_shift yX4_shift, Cond.code yX4_shift cX4_shift 5 none, Cond.methodLink RL 100 yX5_shift, Cond.instanceMethod yX5_shift, Cond.selects RX5 yX5_shift yX5_shift, Cond.code yX5_shift cX5_shift 4 none]
def wsL_law0_r10 : List Cond := [Cond.methodLink RX5 70 yX5_mayShift, Cond.instanceMethod yX5_mayShift, Cond.selects RX5 yX5_mayShift yX5_mayShift, Cond.code yX5_mayShift cX5_mayShift 4 (some .boolean), Cond.methodLink RL 101 yL_retire, Cond.static yL_retire, Cond.codeWith yL_retire cL_retire 4 (some .int) [(0, 9, 12, 21)], Cond.methodLink RL 31 yX4_retire, Cond.instanceMethod yX4_retire, Cond.selects RX4 yX4_retire yX4_retire, Cond.code yX4_retire cX4_retire 4 (some .int), Cond.methodLink RL 104 yX5_retire, Cond.instanceMethod yX5_retire, Cond.selects RX5 yX5_retire yX5_retire, Cond.code yX5_retire cX5_retire 4 (some .int), Cond.methodLink RL 105 yX4_tunes, Cond.instanceMethod yX4_tunes, Cond.selects RX4 yX4_tunes yX4_tunes, Cond.code yX4_tunes cX4_tunes 1 (some .int), Cond.methodLink RL 108 yX5_tunes, Cond.instanceMethod yX5_tunes, Cond.selects RX5 yX5_tunes yX5_tunes, Cond.code yX5_tunes cX5_tunes 1 (some .int), Cond.methodLink RL 109 yL_notes]
def wsL_law0_r11 : List Cond := [Cond.static yL_notes, Cond.codeWith yL_notes cL_notes 4 (some .int) [(0, 9, 12, 21)], Cond.methodLink RL 35 yX4_notes, Cond.instanceMethod yX4_notes, Cond.selects RX4 yX4_notes yX4_notes, Cond.code yX4_notes cX4_notes 2 (some .int), Cond.methodLink RX4 117 yX4_enteredOrThrow, Cond.instanceMethod yX4_enteredOrThrow, Cond.selects RX4 yX4_enteredOrThrow yX4_enteredOrThrow, Cond.code yX4_enteredOrThrow cX4_enteredOrThrow 3 (some (.object "TuneCatalogue$Tune")), Cond.methodLink RL 111 yX5_notes, Cond.instanceMethod yX5_notes, Cond.selects RX5 yX5_notes yX5_notes, Cond.code yX5_notes cX5_notes 2 (some .int), Cond.methodLink RL 112 yL_step, Cond.static yL_step, Cond.codeWith yL_step cL_step 5 (some .int) [(0, 10, 13, 21)], Cond.methodLink RL 38 yX4_step, Cond.instanceMethod yX4_step, Cond.selects RX4 yX4_step yX4_step, Cond.code yX4_step cX4_step 4 (some .int), Cond.methodLink RX4 122 yX2_stepFrom, Cond.instanceMethod yX2_stepFrom, Cond.selects RX2 yX2_stepFrom yX2_stepFrom]
def wsL_law0_r12 : List Cond := [Cond.code yX2_stepFrom cX2_stepFrom 2 (some .int), Cond.methodLink RX2 23 yX2_at, Cond.methodLink RL 114 yX5_step, Cond.instanceMethod yX5_step, Cond.selects RX5 yX5_step yX5_step, Cond.code yX5_step cX5_step 3 (some .int), Cond.methodLink RX5 73 yX5_stepOf, Cond.instanceMethod yX5_stepOf, Cond.selects RX5 yX5_stepOf yX5_stepOf, Cond.code yX5_stepOf cX5_stepOf 3 (some .int), Cond.methodLink RL 115 yL_shared, Cond.static yL_shared, Cond.codeWith yL_shared cL_shared 5 (some .int) [(0, 10, 13, 21)], Cond.methodLink RL 41 yX4_shared, Cond.instanceMethod yX4_shared, Cond.selects RX4 yX4_shared yX4_shared, Cond.code yX4_shared cX4_shared 8 (some .int), Cond.methodLink RX4 130 Lib.Math.max.name, Cond.methodLink RX4 125 yX2_size, Cond.methodLink RX4 126 yX2_stepsInCommon, Cond.instanceMethod yX2_stepsInCommon, Cond.selects RX2 yX2_stepsInCommon yX2_stepsInCommon, Cond.code yX2_stepsInCommon cX2_stepsInCommon 6 (some .int), Cond.methodLink RX2 27 Lib.Math.min.name]
def wsL_law0_r13 : List Cond := [Cond.static Lib.Math.min.name, Cond.code Lib.Math.min.name Lib.Math.min.code 2 (some .int), Cond.methodLink RX2 30 yX2_stepFrom, Cond.methodLink RL 117 yX5_shared, Cond.instanceMethod yX5_shared, Cond.selects RX5 yX5_shared yX5_shared, Cond.code yX5_shared cX5_shared 6 (some .int), Cond.methodLink RX5 77 yX5_alike, Cond.instanceMethod yX5_alike, Cond.selects RX5 yX5_alike yX5_alike, Cond.code yX5_alike cX5_alike 6 (some .int), Cond.methodLink RL 118 yL_hum, Cond.static yL_hum, Cond.codeWith yL_hum cL_hum 4 (some .int) [(0, 9, 12, 13), (0, 9, 15, 15)], Cond.methodLink RL 44 yX4_hum, Cond.instanceMethod yX4_hum, Cond.selects RX4 yX4_hum yX4_hum, Cond.code yX4_hum cX4_hum 2 (some .int), Cond.methodLink RX4 138 yX2_append, Cond.methodLink RL 120 yX5_hum, Cond.instanceMethod yX5_hum, Cond.selects RX5 yX5_hum yX5_hum, Cond.code yX5_hum cX5_hum 2 (some .int), Cond.fieldLink RX5 81 "TuneCatalogueModel" "hummed" "I"]
def wsL_law0_r14 : List Cond := [Cond.methodLink RL 121 yX4_hush, Cond.instanceMethod yX4_hush, Cond.selects RX4 yX4_hush yX4_hush, Cond.code yX4_hush cX4_hush 2 (some .int), Cond.methodLink RX4 140 yX2_clear, Cond.instanceMethod yX2_clear, Cond.selects RX2 yX2_clear yX2_clear, Cond.code yX2_clear cX2_clear 1 none, Cond.methodLink RL 124 yX5_hush, Cond.instanceMethod yX5_hush, Cond.selects RX5 yX5_hush yX5_hush, Cond.code yX5_hush cX5_hush 2 (some .int), Cond.methodLink RL 125 yX4_hummed, Cond.instanceMethod yX4_hummed, Cond.selects RX4 yX4_hummed yX4_hummed, Cond.code yX4_hummed cX4_hummed 1 (some .int), Cond.methodLink RL 128 yX5_hummed, Cond.instanceMethod yX5_hummed, Cond.selects RX5 yX5_hummed yX5_hummed, Cond.code yX5_hummed cX5_hummed 1 (some .int), Cond.methodLink RL 129 yL_setCosts, Cond.static yL_setCosts, Cond.codeWith yL_setCosts cL_setCosts 5 (some .int) [(0, 7, 10, 13)], Cond.methodLink RL 47 yX4_setCosts]
def wsL_law0_r15 : List Cond := [Cond.instanceMethod yX4_setCosts, Cond.selects RX4 yX4_setCosts yX4_setCosts, Cond.code yX4_setCosts cX4_setCosts 4 none, Cond.methodLink RL 132 yX5_setCosts, Cond.instanceMethod yX5_setCosts, Cond.selects RX5 yX5_setCosts yX5_setCosts, Cond.code yX5_setCosts cX5_setCosts 4 none, Cond.methodLink RL 133 yL_cost, Cond.static yL_cost, Cond.codeWith yL_cost cL_cost 4 (some .int) [(0, 9, 12, 21)], Cond.methodLink RL 51 yX4_cost, Cond.instanceMethod yX4_cost, Cond.selects RX4 yX4_cost yX4_cost, Cond.code yX4_cost cX4_cost 2 (some .int), Cond.methodLink RX4 152 yX1_cheapestByTable, Cond.instanceMethod yX1_cheapestByTable, Cond.selects RX1 yX1_cheapestByTable yX1_cheapestByTable, Cond.code yX1_cheapestByTable cX1_cheapestByTable 4 (some .int), Cond.methodLink RX1 29 yX2_size, Cond.methodLink RX1 35 yX3_size, Cond.methodLink RX1 38 yX1_cheapestTo, Cond.instanceMethod yX1_cheapestTo, Cond.selects RX1 yX1_cheapestTo yX1_cheapestTo, Cond.code yX1_cheapestTo cX1_cheapestTo 6 (some .int)]
def wsL_law0_r16 : List Cond := [Cond.methodLink RX1 61 yX1_costBy, Cond.instanceMethod yX1_costBy, Cond.selects RX1 yX1_costBy yX1_costBy, Cond.code yX1_costBy cX1_costBy 7 (some .int), Cond.methodLink RX1 46 yX1_tableAt, Cond.instanceMethod yX1_tableAt, Cond.selects RX1 yX1_tableAt yX1_tableAt, Cond.code yX1_tableAt cX1_tableAt 5 (some .int), Cond.methodLink RX1 65 yX1_costOfMove, Cond.instanceMethod yX1_costOfMove, Cond.selects RX1 yX1_costOfMove yX1_costOfMove, Cond.code yX1_costOfMove cX1_costOfMove 11 (some .int), Cond.methodLink RX1 79 Lib.Math.abs.name, Cond.static Lib.Math.abs.name, Cond.code Lib.Math.abs.name Lib.Math.abs.code 1 (some .int), Cond.methodLink RX1 75 yX2_at, Cond.methodLink RX1 50 yX1_cheaper, Cond.static yX1_cheaper, Cond.code yX1_cheaper cX1_cheaper 2 (some .int), Cond.methodLink RX1 87 Lib.Math.max.name, Cond.methodLink RX1 90 Lib.Math.min.name, Cond.methodLink RX1 42 yX1_setTableAt, Cond.instanceMethod yX1_setTableAt, Cond.selects RX1 yX1_setTableAt yX1_setTableAt]
def wsL_law0_r17 : List Cond := [Cond.code yX1_setTableAt cX1_setTableAt 5 none, Cond.methodLink RL 135 yX5_cost, Cond.instanceMethod yX5_cost, Cond.selects RX5 yX5_cost yX5_cost, Cond.code yX5_cost cX5_cost 2 (some .int), Cond.methodLink RX5 99 yX5_costOf, Cond.instanceMethod yX5_costOf, Cond.selects RX5 yX5_costOf yX5_costOf, Cond.code yX5_costOf cX5_costOf 7 (some .int), Cond.constant RX5 84 (1000000000), Cond.methodLink RX5 92 yX5_laid, Cond.instanceMethod yX5_laid, Cond.selects RX5 yX5_laid yX5_laid, Cond.code yX5_laid cX5_laid 7 (some .int), Cond.methodLink RX5 85 yX5_costOfNotes, Cond.instanceMethod yX5_costOfNotes, Cond.selects RX5 yX5_costOfNotes yX5_costOfNotes, Cond.code yX5_costOfNotes cX5_costOfNotes 6 (some .int), Cond.methodLink RX5 89 yX5_costOfPitches, Cond.instanceMethod yX5_costOfPitches, Cond.selects RX5 yX5_costOfPitches yX5_costOfPitches, Cond.code yX5_costOfPitches cX5_costOfPitches 5 (some .int), Cond.methodLink RX5 96 yX5_least, Cond.static yX5_least]
def wsL_law0_r18 : List Cond := [Cond.code yX5_least cX5_least 2 (some .int), Cond.methodLink RL 136 yL_costByAll, Cond.static yL_costByAll, Cond.codeWith yL_costByAll cL_costByAll 4 (some .int) [(0, 9, 12, 21), (0, 9, 15, 15)], Cond.methodLink RL 54 yX4_costByAll, Cond.instanceMethod yX4_costByAll, Cond.selects RX4 yX4_costByAll yX4_costByAll, Cond.code yX4_costByAll cX4_costByAll 3 (some .int), Cond.methodLink RX4 158 yX1_cheapestByTrying, Cond.instanceMethod yX1_cheapestByTrying, Cond.selects RX1 yX1_cheapestByTrying yX1_cheapestByTrying, Cond.code yX1_cheapestByTrying cX1_cheapestByTrying 2 (some .int), Cond.methodLink RX1 53 yX1_cheapestOnward, Cond.instanceMethod yX1_cheapestOnward, Cond.selects RX1 yX1_cheapestOnward yX1_cheapestOnward, Cond.code yX1_cheapestOnward cX1_cheapestOnward 7 (some .int), Cond.methodLink RX1 68 yX1_costOnwardBy, Cond.instanceMethod yX1_costOnwardBy, Cond.selects RX1 yX1_costOnwardBy yX1_costOnwardBy, Cond.code yX1_costOnwardBy cX1_costOnwardBy 9 (some .int), Cond.methodLink RL 138 yX5_costByAll, Cond.instanceMethod yX5_costByAll, Cond.selects RX5 yX5_costByAll yX5_costByAll, Cond.code yX5_costByAll cX5_costByAll 2 (some .int)]
def wsL_law0_r19 : List Cond := [Cond.methodLink RL 139 yX4_matches, Cond.instanceMethod yX4_matches, Cond.selects RX4 yX4_matches yX4_matches, Cond.code yX4_matches cX4_matches 3 (some .int), Cond.methodLink RX4 161 yX4_priceTunes, Cond.instanceMethod yX4_priceTunes, Cond.selects RX4 yX4_priceTunes yX4_priceTunes, Cond.code yX4_priceTunes cX4_priceTunes 3 none, Cond.methodLink RL 142 yX5_matches, Cond.instanceMethod yX5_matches, Cond.selects RX5 yX5_matches yX5_matches, Cond.code yX5_matches cX5_matches 1 (some .int), Cond.methodLink RX5 103 yX5_many, Cond.instanceMethod yX5_many, Cond.selects RX5 yX5_many yX5_many, Cond.code yX5_many cX5_many 3 (some .int), Cond.methodLink RL 143 yL_found, Cond.static yL_found, Cond.codeWith yL_found cL_found 4 (some .int) [(0, 9, 12, 21)], Cond.methodLink RL 57 yX4_found, Cond.instanceMethod yX4_found, Cond.selects RX4 yX4_found yX4_found, Cond.code yX4_found cX4_found 3 (some .int), Cond.methodLink RX4 164 yX4_rankByPrice]
def wsL_law0_r20 : List Cond := [Cond.instanceMethod yX4_rankByPrice, Cond.selects RX4 yX4_rankByPrice yX4_rankByPrice, Cond.code yX4_rankByPrice cX4_rankByPrice 7 (some .int), Cond.methodLink RL 145 yX5_found, Cond.instanceMethod yX5_found, Cond.selects RX5 yX5_found yX5_found, Cond.code yX5_found cX5_found 3 (some .int), Cond.methodLink RX5 107 yX5_rank, Cond.instanceMethod yX5_rank, Cond.selects RX5 yX5_rank yX5_rank, Cond.code yX5_rank cX5_rank 6 (some .int), Cond.methodLink RL 146 yX4_likeContour, Cond.instanceMethod yX4_likeContour, Cond.selects RX4 yX4_likeContour yX4_likeContour, Cond.code yX4_likeContour cX4_likeContour 4 (some .int), Cond.methodLink RX4 169 yX2_beginsWithContourOf, Cond.instanceMethod yX2_beginsWithContourOf, Cond.selects RX2 yX2_beginsWithContourOf yX2_beginsWithContourOf, Cond.code yX2_beginsWithContourOf cX2_beginsWithContourOf 3 (some .boolean), Cond.methodLink RX2 33 yX2_direction, Cond.static yX2_direction, Cond.code yX2_direction cX2_direction 1 (some .int), Cond.methodLink RL 149 yX5_likeContour, Cond.instanceMethod yX5_likeContour]
def wsL_law0_r21 : List Cond := [Cond.selects RX5 yX5_likeContour yX5_likeContour, Cond.code yX5_likeContour cX5_likeContour 3 (some .int), Cond.methodLink RX5 113 yX5_isLike, Cond.instanceMethod yX5_isLike, Cond.selects RX5 yX5_isLike yX5_isLike, Cond.code yX5_isLike cX5_isLike 3 (some .boolean), Cond.methodLink RX5 110 yX5_sign, Cond.static yX5_sign, Cond.code yX5_sign cX5_sign 1 (some .int), Cond.methodLink RL 150 yL_places, Cond.static yL_places, Cond.codeWith yL_places cL_places 4 (some .int) [(0, 9, 12, 13), (0, 9, 15, 15)], Cond.methodLink RL 60 yX4_places, Cond.instanceMethod yX4_places, Cond.selects RX4 yX4_places yX4_places, Cond.code yX4_places cX4_places 2 (some .int), Cond.methodLink RX4 173 yX4_refuseUnlessRunOfHum, Cond.instanceMethod yX4_refuseUnlessRunOfHum, Cond.selects RX4 yX4_refuseUnlessRunOfHum yX4_refuseUnlessRunOfHum, Cond.code yX4_refuseUnlessRunOfHum cX4_refuseUnlessRunOfHum 2 none, Cond.methodLink RX4 176 yX4_collectPlaces, Cond.instanceMethod yX4_collectPlaces, Cond.selects RX4 yX4_collectPlaces yX4_collectPlaces, Cond.code yX4_collectPlaces cX4_collectPlaces 4 none]
def wsL_law0_r22 : List Cond := [Cond.methodLink RX4 217 yX4_collectPlacesOf, Cond.instanceMethod yX4_collectPlacesOf, Cond.selects RX4 yX4_collectPlacesOf yX4_collectPlacesOf, Cond.code yX4_collectPlacesOf cX4_collectPlacesOf 6 none, Cond.methodLink RL 152 yX5_places, Cond.instanceMethod yX5_places, Cond.selects RX5 yX5_places yX5_places, Cond.code yX5_places cX5_places 2 (some .int), Cond.methodLink RX5 119 yX5_errorOfRun, Cond.instanceMethod yX5_errorOfRun, Cond.selects RX5 yX5_errorOfRun yX5_errorOfRun, Cond.code yX5_errorOfRun cX5_errorOfRun 2 (some .int), Cond.methodLink RX5 122 yX5_placesOf, Cond.instanceMethod yX5_placesOf, Cond.selects RX5 yX5_placesOf yX5_placesOf, Cond.code yX5_placesOf cX5_placesOf 4 (some .int), Cond.methodLink RX5 116 yX5_isRun, Cond.instanceMethod yX5_isRun, Cond.selects RX5 yX5_isRun yX5_isRun, Cond.code yX5_isRun cX5_isRun 6 (some .boolean), Cond.methodLink RL 153 yL_place, Cond.static yL_place, Cond.codeWith yL_place cL_place 5 (some .int) [(0, 10, 13, 13), (0, 10, 17, 15), (0, 10, 21, 21)], Cond.methodLink RL 63 yX4_place]
def wsL_law0_r23 : List Cond := [Cond.instanceMethod yX4_place, Cond.selects RX4 yX4_place yX4_place, Cond.code yX4_place cX4_place 3 (some .int), Cond.methodLink RL 155 yX5_place, Cond.instanceMethod yX5_place, Cond.selects RX5 yX5_place yX5_place, Cond.code yX5_place cX5_place 6 (some .int), Cond.methodLink RL 156 yL_link, Cond.static yL_link, Cond.codeWith yL_link cL_link 5 (some .int) [(0, 10, 13, 21), (0, 10, 17, 13), (0, 10, 21, 15)], Cond.methodLink RL 66 yX4_link, Cond.instanceMethod yX4_link, Cond.selects RX4 yX4_link yX4_link, Cond.code yX4_link cX4_link 3 (some .int), Cond.methodLink RX4 181 yX4_refuseUnlessEntered, Cond.instanceMethod yX4_refuseUnlessEntered, Cond.selects RX4 yX4_refuseUnlessEntered yX4_refuseUnlessEntered, Cond.code yX4_refuseUnlessEntered cX4_refuseUnlessEntered 3 none, Cond.methodLink RX4 189 yX0_areLinked, Cond.instanceMethod yX0_areLinked, Cond.selects RX0 yX0_areLinked yX0_areLinked, Cond.code yX0_areLinked cX0_areLinked 3 (some .boolean), Cond.methodLink RX0 23 yX2_at, Cond.methodLink RX0 27 yX0_setOf]
def wsL_law0_r24 : List Cond := [Cond.static yX0_setOf, Cond.code yX0_setOf cX0_setOf 1 (some .int), Cond.methodLink RX4 195 yX0_toggle, Cond.instanceMethod yX0_toggle, Cond.selects RX0 yX0_toggle yX0_toggle, Cond.code yX0_toggle cX0_toggle 3 none, Cond.methodLink RX0 30 yX2_put, Cond.methodLink RX4 198 yX0_countFamilies, Cond.instanceMethod yX0_countFamilies, Cond.selects RX0 yX0_countFamilies yX0_countFamilies, Cond.code yX0_countFamilies cX0_countFamilies 3 (some .int), Cond.methodLink RX0 34 yX2_size, Cond.methodLink RX0 38 yX0_lowestOfFamily, Cond.instanceMethod yX0_lowestOfFamily, Cond.selects RX0 yX0_lowestOfFamily yX0_lowestOfFamily, Cond.code yX0_lowestOfFamily cX0_lowestOfFamily 4 (some .int), Cond.methodLink RX0 41 yX0_withPartners, Cond.instanceMethod yX0_withPartners, Cond.selects RX0 yX0_withPartners yX0_withPartners, Cond.code yX0_withPartners cX0_withPartners 4 (some .int), Cond.methodLink RL 158 yX5_link, Cond.instanceMethod yX5_link, Cond.selects RX5 yX5_link yX5_link, Cond.code yX5_link cX5_link 4 (some .int)]
def wsL_law0_r25 : List Cond := [Cond.methodLink RX5 131 yX5_areLinked, Cond.instanceMethod yX5_areLinked, Cond.selects RX5 yX5_areLinked yX5_areLinked, Cond.code yX5_areLinked cX5_areLinked 3 (some .boolean), Cond.methodLink RX5 134 yX5_familiesOf, Cond.instanceMethod yX5_familiesOf, Cond.selects RX5 yX5_familiesOf yX5_familiesOf, Cond.code yX5_familiesOf cX5_familiesOf 3 (some .int), Cond.methodLink RX5 128 yX5_lowest, Cond.instanceMethod yX5_lowest, Cond.selects RX5 yX5_lowest yX5_lowest, Cond.code yX5_lowest cX5_lowest 4 (some .int), Cond.methodLink RX5 125 yX5_familyOf, Cond.instanceMethod yX5_familyOf, Cond.selects RX5 yX5_familyOf yX5_familyOf, Cond.code yX5_familyOf cX5_familyOf 5 (some .int), Cond.methodLink RL 159 yL_cut, Cond.static yL_cut, Cond.codeWith yL_cut cL_cut 5 (some .int) [(0, 10, 13, 21), (0, 10, 17, 15)], Cond.methodLink RL 69 yX4_cut, Cond.instanceMethod yX4_cut, Cond.selects RX4 yX4_cut yX4_cut, Cond.code yX4_cut cX4_cut 3 (some .int), Cond.methodLink RL 161 yX5_cut]
def wsL_law0_r26 : List Cond := [Cond.instanceMethod yX5_cut, Cond.selects RX5 yX5_cut yX5_cut, Cond.code yX5_cut cX5_cut 4 (some .int), Cond.methodLink RL 162 yL_family, Cond.static yL_family, Cond.codeWith yL_family cL_family 4 (some .int) [(0, 9, 12, 21)], Cond.methodLink RL 72 yX4_family, Cond.instanceMethod yX4_family, Cond.selects RX4 yX4_family yX4_family, Cond.code yX4_family cX4_family 2 (some .int), Cond.methodLink RX4 203 yX0_lowestOfFamily, Cond.methodLink RL 164 yX5_family, Cond.instanceMethod yX5_family, Cond.selects RX5 yX5_family yX5_family, Cond.code yX5_family cX5_family 2 (some .int), Cond.methodLink RL 165 yX4_families, Cond.instanceMethod yX4_families, Cond.selects RX4 yX4_families yX4_families, Cond.code yX4_families cX4_families 1 (some .int), Cond.methodLink RL 168 yX5_families, Cond.instanceMethod yX5_families, Cond.selects RX5 yX5_families yX5_families, Cond.code yX5_families cX5_families 1 (some .int)]
def wsL_law0 : List Cond := (wsL_law0_r1 ++ (wsL_law0_r2 ++ (wsL_law0_r3 ++ (wsL_law0_r4 ++ (wsL_law0_r5 ++ (wsL_law0_r6 ++ (wsL_law0_r7 ++ (wsL_law0_r8 ++ (wsL_law0_r9 ++ (wsL_law0_r10 ++ (wsL_law0_r11 ++ (wsL_law0_r12 ++ (wsL_law0_r13 ++ (wsL_law0_r14 ++ (wsL_law0_r15 ++ (wsL_law0_r16 ++ (wsL_law0_r17 ++ (wsL_law0_r18 ++ (wsL_law0_r19 ++ (wsL_law0_r20 ++ (wsL_law0_r21 ++ (wsL_law0_r22 ++ (wsL_law0_r23 ++ (wsL_law0_r24 ++ (wsL_law0_r25 ++ wsL_law0_r26))))))))))))))))))))))))) ++ wsX40 ++ wsX50 ++ wsX20 ++ wsX10 ++ wsX00 ++ wsX30 ++ ([] : List Cond)
def wsL_law : List Cond := wsL_law0 ++ (vx_atS RX4 62 "java/lang/IllegalStateException" ["java/lang/RuntimeException", "java/lang/Exception"]).filter goodWord ++ (vx_atS RX4 188 "java/lang/IllegalArgumentException" ["java/lang/RuntimeException", "java/lang/Exception"]).filter goodWord ++ (vx_atS RX4 93 "java/lang/IndexOutOfBoundsException" ["java/lang/RuntimeException", "java/lang/Exception"]).filter goodWord
set_option maxRecDepth 20000 in
theorem wsL_law0_r1_in : ∀ w ∈ wsL_law0_r1, w ∈ lw_tbl := fun w h => (goodIn_p wsL_law0_r1 [58, 61] (by decide +kernel) (by decide +kernel) w h).1
set_option maxRecDepth 20000 in
theorem wsL_law0_r2_in : ∀ w ∈ wsL_law0_r2, w ∈ lw_tbl := fun w h => (goodIn_p wsL_law0_r2 [68, 72, 85] (by decide +kernel) (by decide +kernel) w h).1
set_option maxRecDepth 20000 in
theorem wsL_law0_r3_in : ∀ w ∈ wsL_law0_r3, w ∈ lw_tbl := fun w h => (goodIn_p wsL_law0_r3 [110, 615] (by decide +kernel) (by decide +kernel) w h).1
set_option maxRecDepth 20000 in
theorem wsL_law0_r4_in : ∀ w ∈ wsL_law0_r4, w ∈ lw_tbl := fun w h => (goodIn_p wsL_law0_r4 [273, 276, 279, 200] (by decide +kernel) (by decide +kernel) w h).1
set_option maxRecDepth 20000 in
theorem wsL_law0_r5_in : ∀ w ∈ wsL_law0_r5, w ∈ lw_tbl := fun w h => (goodIn_p wsL_law0_r5 [368, 389, 226, 394, 665] (by decide +kernel) (by decide +kernel) w h).1
set_option maxRecDepth 20000 in
theorem wsL_law0_r6_in : ∀ w ∈ wsL_law0_r6, w ∈ lw_tbl := fun w h => (goodIn_p wsL_law0_r6 [668, 671, 675, 679, 661] (by decide +kernel) (by decide +kernel) w h).1
set_option maxRecDepth 20000 in
theorem wsL_law0_r7_in : ∀ w ∈ wsL_law0_r7, w ∈ lw_tbl := fun w h => (goodIn_p wsL_law0_r7 [403, 407, 171, 175, 427] (by decide +kernel) (by decide +kernel) w h).1
set_option maxRecDepth 20000 in
theorem wsL_law0_r8_in : ∀ w ∈ wsL_law0_r8, w ∈ lw_tbl := fun w h => (goodIn_p wsL_law0_r8 [184, 151, 683, 687, 691] (by decide +kernel) (by decide +kernel) w h).1
set_option maxRecDepth 20000 in
theorem wsL_law0_r9_in : ∀ w ∈ wsL_law0_r9, w ∈ lw_tbl := fun w h => (goodIn_p wsL_law0_r9 [436, 208, 441, 695, 448, 699] (by decide +kernel) (by decide +kernel) w h).1
set_option maxRecDepth 20000 in
theorem wsL_law0_r10_in : ∀ w ∈ wsL_law0_r10, w ∈ lw_tbl := fun w h => (goodIn_p wsL_law0_r10 [703, 456, 707, 143, 711] (by decide +kernel) (by decide +kernel) w h).1
set_option maxRecDepth 20000 in
theorem wsL_law0_r11_in : ∀ w ∈ wsL_law0_r11, w ∈ lw_tbl := fun w h => (goodIn_p wsL_law0_r11 [463, 467, 715, 475] (by decide +kernel) (by decide +kernel) w h).1
set_option maxRecDepth 20000 in
theorem wsL_law0_r12_in : ∀ w ∈ wsL_law0_r12, w ∈ lw_tbl := fun w h => (goodIn_p wsL_law0_r12 [239, 719, 723, 484, 488] (by decide +kernel) (by decide +kernel) w h).1
set_option maxRecDepth 20000 in
theorem wsL_law0_r13_in : ∀ w ∈ wsL_law0_r13, w ∈ lw_tbl := fun w h => (goodIn_p wsL_law0_r13 [218, 727, 731, 497, 735] (by decide +kernel) (by decide +kernel) w h).1
set_option maxRecDepth 20000 in
theorem wsL_law0_r14_in : ∀ w ∈ wsL_law0_r14, w ∈ lw_tbl := fun w h => (goodIn_p wsL_law0_r14 [147, 155, 739, 159, 743] (by decide +kernel) (by decide +kernel) w h).1
set_option maxRecDepth 20000 in
theorem wsL_law0_r15_in : ∀ w ∈ wsL_law0_r15, w ∈ lw_tbl := fun w h => (goodIn_p wsL_law0_r15 [505, 747, 512, 179, 189] (by decide +kernel) (by decide +kernel) w h).1
set_option maxRecDepth 20000 in
theorem wsL_law0_r16_in : ∀ w ∈ wsL_law0_r16, w ∈ lw_tbl := fun w h => (goodIn_p wsL_law0_r16 [193, 197, 204, 211, 214] (by decide +kernel) (by decide +kernel) w h).1
set_option maxRecDepth 20000 in
theorem wsL_law0_r17_in : ∀ w ∈ wsL_law0_r17, w ∈ lw_tbl := fun w h => (goodIn_p wsL_law0_r17 [222, 751, 755, 760, 764, 768] (by decide +kernel) (by decide +kernel) w h).1
set_option maxRecDepth 20000 in
theorem wsL_law0_r18_in : ∀ w ∈ wsL_law0_r18, w ∈ lw_tbl := fun w h => (goodIn_p wsL_law0_r18 [771, 519, 524, 528, 532, 775] (by decide +kernel) (by decide +kernel) w h).1
set_option maxRecDepth 20000 in
theorem wsL_law0_r19_in : ∀ w ∈ wsL_law0_r19, w ∈ lw_tbl := fun w h => (goodIn_p wsL_law0_r19 [163, 167, 779, 783, 539] (by decide +kernel) (by decide +kernel) w h).1
set_option maxRecDepth 20000 in
theorem wsL_law0_r20_in : ∀ w ∈ wsL_law0_r20, w ∈ lw_tbl := fun w h => (goodIn_p wsL_law0_r20 [543, 787, 791, 231, 235, 243] (by decide +kernel) (by decide +kernel) w h).1
set_option maxRecDepth 20000 in
theorem wsL_law0_r21_in : ∀ w ∈ wsL_law0_r21, w ∈ lw_tbl := fun w h => (goodIn_p wsL_law0_r21 [795, 799, 802, 551, 555, 560] (by decide +kernel) (by decide +kernel) w h).1
set_option maxRecDepth 20000 in
theorem wsL_law0_r22_in : ∀ w ∈ wsL_law0_r22, w ∈ lw_tbl := fun w h => (goodIn_p wsL_law0_r22 [564, 806, 810, 814, 818] (by decide +kernel) (by decide +kernel) w h).1
set_option maxRecDepth 20000 in
theorem wsL_law0_r23_in : ∀ w ∈ wsL_law0_r23, w ∈ lw_tbl := fun w h => (goodIn_p wsL_law0_r23 [571, 822, 579, 583, 588] (by decide +kernel) (by decide +kernel) w h).1
set_option maxRecDepth 20000 in
theorem wsL_law0_r24_in : ∀ w ∈ wsL_law0_r24, w ∈ lw_tbl := fun w h => (goodIn_p wsL_law0_r24 [259, 593, 251, 256, 263, 826] (by decide +kernel) (by decide +kernel) w h).1
set_option maxRecDepth 20000 in
theorem wsL_law0_r25_in : ∀ w ∈ wsL_law0_r25, w ∈ lw_tbl := fun w h => (goodIn_p wsL_law0_r25 [830, 834, 838, 842, 601] (by decide +kernel) (by decide +kernel) w h).1
set_option maxRecDepth 20000 in
theorem wsL_law0_r26_in : ∀ w ∈ wsL_law0_r26, w ∈ lw_tbl := fun w h => (goodIn_p wsL_law0_r26 [846, 609, 850, 247, 854] (by decide +kernel) (by decide +kernel) w h).1
set_option maxRecDepth 20000 in
theorem wsX00_inT : ∀ w ∈ wsX00, w ∈ lw_tbl := fun w h => (goodIn_p wsX00 [] (by decide +kernel) (by decide +kernel) w h).1
set_option maxRecDepth 20000 in
theorem wsX10_inT : ∀ w ∈ wsX10, w ∈ lw_tbl := fun w h => (goodIn_p wsX10 [] (by decide +kernel) (by decide +kernel) w h).1
set_option maxRecDepth 20000 in
theorem wsX20_inT : ∀ w ∈ wsX20, w ∈ lw_tbl := fun w h => (goodIn_p wsX20 [] (by decide +kernel) (by decide +kernel) w h).1
set_option maxRecDepth 20000 in
theorem wsX30_inT : ∀ w ∈ wsX30, w ∈ lw_tbl := fun w h => (goodIn_p wsX30 [] (by decide +kernel) (by decide +kernel) w h).1
set_option maxRecDepth 20000 in
theorem wsX40_inT : ∀ w ∈ wsX40, w ∈ lw_tbl := fun w h => (goodIn_p wsX40 [] (by decide +kernel) (by decide +kernel) w h).1
set_option maxRecDepth 20000 in
theorem wsX50_inT : ∀ w ∈ wsX50, w ∈ lw_tbl := fun w h => (goodIn_p wsX50 [] (by decide +kernel) (by decide +kernel) w h).1
theorem wsL_law_in0 : ∀ w ∈ wsL_law0, w ∈ lw_tbl := fun w h => (List.mem_append.mp h).elim (fun h => (List.mem_append.mp h).elim (fun h => (List.mem_append.mp h).elim (fun h => (List.mem_append.mp h).elim (fun h => (List.mem_append.mp h).elim (fun h => (List.mem_append.mp h).elim (fun h => (List.mem_append.mp h).elim (fun h => (List.mem_append.mp h).elim (fun h => wsL_law0_r1_in w h) (fun h => (List.mem_append.mp h).elim (fun h => wsL_law0_r2_in w h) (fun h => (List.mem_append.mp h).elim (fun h => wsL_law0_r3_in w h) (fun h => (List.mem_append.mp h).elim (fun h => wsL_law0_r4_in w h) (fun h => (List.mem_append.mp h).elim (fun h => wsL_law0_r5_in w h) (fun h => (List.mem_append.mp h).elim (fun h => wsL_law0_r6_in w h) (fun h => (List.mem_append.mp h).elim (fun h => wsL_law0_r7_in w h) (fun h => (List.mem_append.mp h).elim (fun h => wsL_law0_r8_in w h) (fun h => (List.mem_append.mp h).elim (fun h => wsL_law0_r9_in w h) (fun h => (List.mem_append.mp h).elim (fun h => wsL_law0_r10_in w h) (fun h => (List.mem_append.mp h).elim (fun h => wsL_law0_r11_in w h) (fun h => (List.mem_append.mp h).elim (fun h => wsL_law0_r12_in w h) (fun h => (List.mem_append.mp h).elim (fun h => wsL_law0_r13_in w h) (fun h => (List.mem_append.mp h).elim (fun h => wsL_law0_r14_in w h) (fun h => (List.mem_append.mp h).elim (fun h => wsL_law0_r15_in w h) (fun h => (List.mem_append.mp h).elim (fun h => wsL_law0_r16_in w h) (fun h => (List.mem_append.mp h).elim (fun h => wsL_law0_r17_in w h) (fun h => (List.mem_append.mp h).elim (fun h => wsL_law0_r18_in w h) (fun h => (List.mem_append.mp h).elim (fun h => wsL_law0_r19_in w h) (fun h => (List.mem_append.mp h).elim (fun h => wsL_law0_r20_in w h) (fun h => (List.mem_append.mp h).elim (fun h => wsL_law0_r21_in w h) (fun h => (List.mem_append.mp h).elim (fun h => wsL_law0_r22_in w h) (fun h => (List.mem_append.mp h).elim (fun h => wsL_law0_r23_in w h) (fun h => (List.mem_append.mp h).elim (fun h => wsL_law0_r24_in w h) (fun h => (List.mem_append.mp h).elim (fun h => wsL_law0_r25_in w h) (fun h => wsL_law0_r26_in w h)))))))))))))))))))))))))) (fun h => wsX40_inT w h)) (fun h => wsX50_inT w h)) (fun h => wsX20_inT w h)) (fun h => wsX10_inT w h)) (fun h => wsX00_inT w h)) (fun h => wsX30_inT w h)) (fun h => absurd h List.not_mem_nil)
theorem wsL_law_x0 : ∀ w ∈ (vx_atS RX4 62 "java/lang/IllegalStateException" ["java/lang/RuntimeException", "java/lang/Exception"]).filter goodWord, w ∈ lw_tbl := by decide +kernel
theorem wsL_law_x1 : ∀ w ∈ (vx_atS RX4 188 "java/lang/IllegalArgumentException" ["java/lang/RuntimeException", "java/lang/Exception"]).filter goodWord, w ∈ lw_tbl := by decide +kernel
theorem wsL_law_x2 : ∀ w ∈ (vx_atS RX4 93 "java/lang/IndexOutOfBoundsException" ["java/lang/RuntimeException", "java/lang/Exception"]).filter goodWord, w ∈ lw_tbl := by decide +kernel
theorem wsL_law_in : ∀ w ∈ wsL_law, w ∈ lw_tbl := fun w h => (List.mem_append.mp h).elim (fun h => (List.mem_append.mp h).elim (fun h => (List.mem_append.mp h).elim (fun h => wsL_law_in0 w h) (fun h => wsL_law_x0 w h)) (fun h => wsL_law_x1 w h)) (fun h => wsL_law_x2 w h)
theorem inlX0 : ∀ w ∈ wsX00, w ∈ wsL_law := fun _ h => List.mem_append_left _ (List.mem_append_left _ (List.mem_append_left _ (List.mem_append_left _ (List.mem_append_left _ (List.mem_append_right _ h)))))
theorem inX0 : ∀ w ∈ wsX00, w ∈ lw_tbl := fun w h => wsL_law_in w (inlX0 w h)
theorem inlX1 : ∀ w ∈ wsX10, w ∈ wsL_law := fun _ h => List.mem_append_left _ (List.mem_append_left _ (List.mem_append_left _ (List.mem_append_left _ (List.mem_append_left _ (List.mem_append_left _ (List.mem_append_right _ h))))))
theorem inX1 : ∀ w ∈ wsX10, w ∈ lw_tbl := fun w h => wsL_law_in w (inlX1 w h)
theorem inlX2 : ∀ w ∈ wsX20, w ∈ wsL_law := fun _ h => List.mem_append_left _ (List.mem_append_left _ (List.mem_append_left _ (List.mem_append_left _ (List.mem_append_left _ (List.mem_append_left _ (List.mem_append_left _ (List.mem_append_right _ h)))))))
theorem inX2 : ∀ w ∈ wsX20, w ∈ lw_tbl := fun w h => wsL_law_in w (inlX2 w h)
theorem inlX3 : ∀ w ∈ wsX30, w ∈ wsL_law := fun _ h => List.mem_append_left _ (List.mem_append_left _ (List.mem_append_left _ (List.mem_append_left _ (List.mem_append_right _ h))))
theorem inX3 : ∀ w ∈ wsX30, w ∈ lw_tbl := fun w h => wsL_law_in w (inlX3 w h)
theorem inlX4 : ∀ w ∈ wsX40, w ∈ wsL_law := fun _ h => List.mem_append_left _ (List.mem_append_left _ (List.mem_append_left _ (List.mem_append_left _ (List.mem_append_left _ (List.mem_append_left _ (List.mem_append_left _ (List.mem_append_left _ (List.mem_append_left _ (List.mem_append_right _ h)))))))))
theorem inX4 : ∀ w ∈ wsX40, w ∈ lw_tbl := fun w h => wsL_law_in w (inlX4 w h)
theorem inlX5 : ∀ w ∈ wsX50, w ∈ wsL_law := fun _ h => List.mem_append_left _ (List.mem_append_left _ (List.mem_append_left _ (List.mem_append_left _ (List.mem_append_left _ (List.mem_append_left _ (List.mem_append_left _ (List.mem_append_left _ (List.mem_append_right _ h))))))))
theorem inX5 : ∀ w ∈ wsX50, w ∈ lw_tbl := fun w h => wsL_law_in w (inlX5 w h)
theorem inJ9 : ∀ w ∈ wsJ90, w ∈ lw_tbl := by decide +kernel
theorem inJ0 : ∀ w ∈ wsJ00, w ∈ lw_tbl := by decide +kernel
abbrev vwCl : List vw_C := [(RX0, TX0, 1), (RX1, TX1, 5), (RX2, TX2, 2), (RX3, TX3, 3), (RX4, TX4, 7), (RX5, TX5, 13)]
end
section
set_option maxRecDepth 20000 in
theorem ggX0_init_X2_init : GoodIn wsX0_init wsX2_init := goodIn_r _ [10, 11, 2, 3, 12, 13, 14, 15, 16, 17, 18, 19] (by decide +kernel) (by decide +kernel)
set_option maxRecDepth 20000 in
theorem gX0_init_X2_init : GoodIn wsX0_init (wsX2_init) := ggX0_init_X2_init
set_option maxRecDepth 20000 in
theorem ggX0_admitTune_X2_append : GoodIn wsX0_admitTune wsX2_append := goodIn_r _ [6, 7, 8, 10, 11] (by decide +kernel) (by decide +kernel)
set_option maxRecDepth 20000 in
theorem gX0_admitTune_X2_append : GoodIn wsX0_admitTune (wsV RX0 20 RX2 yX2_append wsX2_append) := goodIn_app (goodIn_of _ (by decide +kernel)) ggX0_admitTune_X2_append
set_option maxRecDepth 20000 in
theorem ggX0_areLinked_X2_at : GoodIn wsX0_areLinked wsX2_at := goodIn_r _ [6, 7, 8, 14, 15] (by decide +kernel) (by decide +kernel)
set_option maxRecDepth 20000 in
theorem gX0_areLinked_X2_at : GoodIn wsX0_areLinked (wsV RX0 23 RX2 yX2_at wsX2_at) := goodIn_app (goodIn_of _ (by decide +kernel)) ggX0_areLinked_X2_at
set_option maxRecDepth 20000 in
theorem ggX0_areLinked_X0_setOf : GoodIn wsX0_areLinked wsX0_setOf := goodIn_r _ [12] (by decide +kernel) (by decide +kernel)
set_option maxRecDepth 20000 in
theorem gX0_areLinked_X0_setOf : GoodIn wsX0_areLinked (va_wsS RX0 27 yX0_setOf wsX0_setOf) := goodIn_app (goodIn_of _ (by decide +kernel)) ggX0_areLinked_X0_setOf
set_option maxRecDepth 20000 in
theorem ggX0_toggle_X2_at : GoodIn wsX0_toggle wsX2_at := goodIn_r _ [6, 7, 8, 18, 19] (by decide +kernel) (by decide +kernel)
set_option maxRecDepth 20000 in
theorem gX0_toggle_X2_at : GoodIn wsX0_toggle (wsV RX0 23 RX2 yX2_at wsX2_at) := goodIn_app (goodIn_of _ (by decide +kernel)) ggX0_toggle_X2_at
set_option maxRecDepth 20000 in
theorem ggX0_toggle_X0_setOf : GoodIn wsX0_toggle wsX0_setOf := goodIn_r _ [12] (by decide +kernel) (by decide +kernel)
set_option maxRecDepth 20000 in
theorem gX0_toggle_X0_setOf : GoodIn wsX0_toggle (va_wsS RX0 27 yX0_setOf wsX0_setOf) := goodIn_app (goodIn_of _ (by decide +kernel)) ggX0_toggle_X0_setOf
set_option maxRecDepth 20000 in
theorem ggX0_toggle_X2_put : GoodIn wsX0_toggle wsX2_put := goodIn_r _ [16, 7, 8, 18, 19] (by decide +kernel) (by decide +kernel)
set_option maxRecDepth 20000 in
theorem gX0_toggle_X2_put : GoodIn wsX0_toggle (wsV RX0 30 RX2 yX2_put wsX2_put) := goodIn_app (goodIn_of _ (by decide +kernel)) ggX0_toggle_X2_put
set_option maxRecDepth 20000 in
theorem ggX0_countFamilies_X2_size : GoodIn wsX0_countFamilies wsX2_size := goodIn_r _ [6, 7, 26, 27] (by decide +kernel) (by decide +kernel)
set_option maxRecDepth 20000 in
theorem gX0_countFamilies_X2_size : GoodIn wsX0_countFamilies (wsV RX0 34 RX2 yX2_size wsX2_size) := goodIn_app (goodIn_of _ (by decide +kernel)) ggX0_countFamilies_X2_size
set_option maxRecDepth 20000 in
theorem ggX0_countFamilies_X0_lowestOfFamily : GoodIn wsX0_countFamilies wsX0_lowestOfFamily := goodIn_r _ [12, 1, 13, 14, 11, 15, 2, 3, 4, 5, 6, 7, 16, 17, 18, 19, 20, 21, 22, 23, 24, 25, 26, 27] (by decide +kernel) (by decide +kernel)
set_option maxRecDepth 20000 in
theorem gX0_countFamilies_X0_lowestOfFamily : GoodIn wsX0_countFamilies (wsV RX0 38 RX0 yX0_lowestOfFamily wsX0_lowestOfFamily) := goodIn_app (goodIn_of _ (by decide +kernel)) ggX0_countFamilies_X0_lowestOfFamily
set_option maxRecDepth 20000 in
theorem ggX0_lowestOfFamily_X0_setOf : GoodIn wsX0_lowestOfFamily wsX0_setOf := goodIn_r _ [5] (by decide +kernel) (by decide +kernel)
set_option maxRecDepth 20000 in
theorem gX0_lowestOfFamily_X0_setOf : GoodIn wsX0_lowestOfFamily (va_wsS RX0 27 yX0_setOf wsX0_setOf) := goodIn_app (goodIn_of _ (by decide +kernel)) ggX0_lowestOfFamily_X0_setOf
set_option maxRecDepth 20000 in
theorem ggX0_lowestOfFamily_X2_size : GoodIn wsX0_lowestOfFamily wsX2_size := goodIn_r _ [10, 11, 22, 23] (by decide +kernel) (by decide +kernel)
set_option maxRecDepth 20000 in
theorem gX0_lowestOfFamily_X2_size : GoodIn wsX0_lowestOfFamily (wsV RX0 34 RX2 yX2_size wsX2_size) := goodIn_app (goodIn_of _ (by decide +kernel)) ggX0_lowestOfFamily_X2_size
set_option maxRecDepth 20000 in
theorem ggX0_lowestOfFamily_X0_withPartners : GoodIn wsX0_lowestOfFamily wsX0_withPartners := goodIn_r _ [15, 1, 6, 7, 8, 9, 10, 11, 2, 3, 4, 5, 16, 17, 18, 19, 20, 21, 22, 23] (by decide +kernel) (by decide +kernel)
set_option maxRecDepth 20000 in
theorem gX0_lowestOfFamily_X0_withPartners : GoodIn wsX0_lowestOfFamily (wsV RX0 41 RX0 yX0_withPartners wsX0_withPartners) := goodIn_app (goodIn_of _ (by decide +kernel)) ggX0_lowestOfFamily_X0_withPartners
set_option maxRecDepth 20000 in
theorem ggX0_withPartners_X2_size : GoodIn wsX0_withPartners wsX2_size := goodIn_r _ [6, 7, 18, 19] (by decide +kernel) (by decide +kernel)
set_option maxRecDepth 20000 in
theorem gX0_withPartners_X2_size : GoodIn wsX0_withPartners (wsV RX0 34 RX2 yX2_size wsX2_size) := goodIn_app (goodIn_of _ (by decide +kernel)) ggX0_withPartners_X2_size
set_option maxRecDepth 20000 in
theorem ggX0_withPartners_X0_setOf : GoodIn wsX0_withPartners wsX0_setOf := goodIn_r _ [11] (by decide +kernel) (by decide +kernel)
set_option maxRecDepth 20000 in
theorem gX0_withPartners_X0_setOf : GoodIn wsX0_withPartners (va_wsS RX0 27 yX0_setOf wsX0_setOf) := goodIn_app (goodIn_of _ (by decide +kernel)) ggX0_withPartners_X0_setOf
set_option maxRecDepth 20000 in
theorem ggX0_withPartners_X2_at : GoodIn wsX0_withPartners wsX2_at := goodIn_r _ [15, 7, 16, 18, 19] (by decide +kernel) (by decide +kernel)
set_option maxRecDepth 20000 in
theorem gX0_withPartners_X2_at : GoodIn wsX0_withPartners (wsV RX0 23 RX2 yX2_at wsX2_at) := goodIn_app (goodIn_of _ (by decide +kernel)) ggX0_withPartners_X2_at
set_option maxRecDepth 20000 in
theorem ggX1_cheapestByTable_X2_size : GoodIn wsX1_cheapestByTable wsX2_size := goodIn_r _ [6, 7, 66, 67] (by decide +kernel) (by decide +kernel)
set_option maxRecDepth 20000 in
theorem gX1_cheapestByTable_X2_size : GoodIn wsX1_cheapestByTable (wsV RX1 29 RX2 yX2_size wsX2_size) := goodIn_app (goodIn_of _ (by decide +kernel)) ggX1_cheapestByTable_X2_size
set_option maxRecDepth 20000 in
theorem ggX1_cheapestByTable_X3_size : GoodIn wsX1_cheapestByTable wsX3_size := goodIn_r _ [12, 13, 14, 3, 4, 5, 6, 7, 68, 69, 70, 66, 67] (by decide +kernel) (by decide +kernel)
set_option maxRecDepth 20000 in
theorem gX1_cheapestByTable_X3_size : GoodIn wsX1_cheapestByTable (wsV RX1 35 RX3 yX3_size wsX3_size) := goodIn_app (goodIn_of _ (by decide +kernel)) ggX1_cheapestByTable_X3_size
set_option maxRecDepth 20000 in
theorem ggX1_cheapestByTable_X1_cheapestTo : GoodIn wsX1_cheapestByTable wsX1_cheapestTo := goodIn_r _ [19, 20, 21, 22, 18, 23, 24, 25, 26, 27, 28, 29, 30, 31, 32, 33, 34, 35, 1, 36, 37, 38, 39, 40, 41, 42, 43, 44, 45, 5, 46, 7, 47, 48, 49, 50, 51, 52, 53, 54, 55, 56, 61, 62, 63, 64, 65, 68, 69, 70, 66, 67] (by decide +kernel) (by decide +kernel)
set_option maxRecDepth 20000 in
theorem gX1_cheapestByTable_X1_cheapestTo : GoodIn wsX1_cheapestByTable (wsV RX1 38 RX1 yX1_cheapestTo wsX1_cheapestTo) := goodIn_app (goodIn_of _ (by decide +kernel)) ggX1_cheapestByTable_X1_cheapestTo
set_option maxRecDepth 20000 in
theorem ggX1_cheapestByTable_X1_setTableAt : GoodIn wsX1_cheapestByTable wsX1_setTableAt := goodIn_r _ [60, 28, 61, 62, 63, 64, 65] (by decide +kernel) (by decide +kernel)
set_option maxRecDepth 20000 in
theorem gX1_cheapestByTable_X1_setTableAt : GoodIn wsX1_cheapestByTable (wsV RX1 42 RX1 yX1_setTableAt wsX1_setTableAt) := goodIn_app (goodIn_of _ (by decide +kernel)) ggX1_cheapestByTable_X1_setTableAt
set_option maxRecDepth 20000 in
theorem ggX1_cheapestByTable_X1_tableAt : GoodIn wsX1_cheapestByTable wsX1_tableAt := goodIn_r _ [27, 28, 29, 30, 31, 61, 62, 63, 64, 65] (by decide +kernel) (by decide +kernel)
set_option maxRecDepth 20000 in
theorem gX1_cheapestByTable_X1_tableAt : GoodIn wsX1_cheapestByTable (wsV RX1 46 RX1 yX1_tableAt wsX1_tableAt) := goodIn_app (goodIn_of _ (by decide +kernel)) ggX1_cheapestByTable_X1_tableAt
set_option maxRecDepth 20000 in
theorem ggX1_cheapestByTable_X1_cheaper : GoodIn wsX1_cheapestByTable wsX1_cheaper := goodIn_r _ [50, 51, 52, 39, 53, 54, 55, 56] (by decide +kernel) (by decide +kernel)
set_option maxRecDepth 20000 in
theorem gX1_cheapestByTable_X1_cheaper : GoodIn wsX1_cheapestByTable (va_wsS RX1 50 yX1_cheaper wsX1_cheaper) := goodIn_app (goodIn_of _ (by decide +kernel)) ggX1_cheapestByTable_X1_cheaper
set_option maxRecDepth 20000 in
theorem ggX1_cheapestByTrying_X2_size : GoodIn wsX1_cheapestByTrying wsX2_size := goodIn_r _ [6, 7, 54, 55] (by decide +kernel) (by decide +kernel)
set_option maxRecDepth 20000 in
theorem gX1_cheapestByTrying_X2_size : GoodIn wsX1_cheapestByTrying (wsV RX1 29 RX2 yX2_size wsX2_size) := goodIn_app (goodIn_of _ (by decide +kernel)) ggX1_cheapestByTrying_X2_size
set_option maxRecDepth 20000 in
theorem ggX1_cheapestByTrying_X1_cheapestOnward : GoodIn wsX1_cheapestByTrying wsX1_cheapestOnward := goodIn_r _ [12, 1, 2, 3, 4, 5, 6, 7, 13, 14, 15, 11, 16, 17, 18, 19, 20, 21, 22, 23, 24, 25, 26, 27, 28, 29, 30, 31, 32, 33, 8, 9, 10, 34, 35, 36, 37, 38, 39, 40, 41, 42, 43, 44, 45, 46, 47, 48, 49, 50, 51, 52, 53, 54, 55, 56, 57, 58] (by decide +kernel) (by decide +kernel)
set_option maxRecDepth 20000 in
theorem gX1_cheapestByTrying_X1_cheapestOnward : GoodIn wsX1_cheapestByTrying (wsV RX1 53 RX1 yX1_cheapestOnward wsX1_cheapestOnward) := goodIn_app (goodIn_of _ (by decide +kernel)) ggX1_cheapestByTrying_X1_cheapestOnward
set_option maxRecDepth 20000 in
theorem ggX1_tableAt_X4_isWithin : GoodIn wsX1_tableAt wsX4_isWithin := goodIn_r _ [4] (by decide +kernel) (by decide +kernel)
set_option maxRecDepth 20000 in
theorem gX1_tableAt_X4_isWithin_n57 : GoodIn wsX1_tableAt (wsX4_isWithin) := ggX1_tableAt_X4_isWithin
set_option maxRecDepth 20000 in
theorem ggX1_cheapestTo_X1_costBy : GoodIn wsX1_cheapestTo wsX1_costBy := goodIn_r _ [5, 6, 7, 8, 4, 9, 10, 11, 12, 13, 14, 15, 16, 17, 18, 19, 20, 21, 22, 23, 24, 25, 26, 27, 28, 29, 30, 31, 32, 42, 43, 44, 45, 46, 47, 48, 49, 50, 51] (by decide +kernel) (by decide +kernel)
set_option maxRecDepth 20000 in
theorem gX1_cheapestTo_X1_costBy : GoodIn wsX1_cheapestTo (wsV RX1 61 RX1 yX1_costBy wsX1_costBy) := goodIn_app (goodIn_of _ (by decide +kernel)) ggX1_cheapestTo_X1_costBy
set_option maxRecDepth 20000 in
theorem ggX1_cheapestTo_X1_cheaper : GoodIn wsX1_cheapestTo wsX1_cheaper := goodIn_r _ [35, 36, 37, 22, 38, 39, 40, 41] (by decide +kernel) (by decide +kernel)
set_option maxRecDepth 20000 in
theorem gX1_cheapestTo_X1_cheaper : GoodIn wsX1_cheapestTo (va_wsS RX1 50 yX1_cheaper wsX1_cheaper) := goodIn_app (goodIn_of _ (by decide +kernel)) ggX1_cheapestTo_X1_cheaper
set_option maxRecDepth 20000 in
theorem ggX1_costBy_X1_tableAt : GoodIn wsX1_costBy wsX1_tableAt := goodIn_r _ [5, 6, 7, 8, 9, 29, 30, 31, 32, 33] (by decide +kernel) (by decide +kernel)
set_option maxRecDepth 20000 in
theorem gX1_costBy_X1_tableAt : GoodIn wsX1_costBy (wsV RX1 46 RX1 yX1_tableAt wsX1_tableAt) := goodIn_app (goodIn_of _ (by decide +kernel)) ggX1_costBy_X1_tableAt
set_option maxRecDepth 20000 in
theorem ggX1_costBy_X1_costOfMove : GoodIn wsX1_costBy wsX1_costOfMove := goodIn_r _ [13, 14, 15, 16, 17, 18, 19, 20, 21, 22, 23, 24, 25, 26, 27, 28, 34, 35, 36, 29, 30, 31, 32, 33, 37, 38] (by decide +kernel) (by decide +kernel)
set_option maxRecDepth 20000 in
theorem gX1_costBy_X1_costOfMove : GoodIn wsX1_costBy (wsV RX1 65 RX1 yX1_costOfMove wsX1_costOfMove) := goodIn_app (goodIn_of _ (by decide +kernel)) ggX1_costBy_X1_costOfMove
set_option maxRecDepth 20000 in
theorem ggX1_cheapestOnward_X2_size : GoodIn wsX1_cheapestOnward wsX2_size := goodIn_r _ [6, 7, 53, 54] (by decide +kernel) (by decide +kernel)
set_option maxRecDepth 20000 in
theorem gX1_cheapestOnward_X2_size : GoodIn wsX1_cheapestOnward (wsV RX1 29 RX2 yX2_size wsX2_size) := goodIn_app (goodIn_of _ (by decide +kernel)) ggX1_cheapestOnward_X2_size
set_option maxRecDepth 20000 in
theorem ggX1_cheapestOnward_X1_costOnwardBy : GoodIn wsX1_cheapestOnward wsX1_costOnwardBy := goodIn_r _ [22, 1, 2, 3, 4, 5, 6, 7, 23, 24, 25, 26, 27, 28, 29, 30, 31, 32, 11, 33, 34, 35, 36, 37, 38, 39, 17, 40, 41, 42, 43, 44, 45, 46, 47, 0, 8, 9, 10, 12, 13, 14, 15, 16, 18, 19, 20, 21, 48, 49, 50, 51, 52, 53, 54, 55, 56, 57] (by decide +kernel) (by decide +kernel)
set_option maxRecDepth 20000 in
theorem gX1_cheapestOnward_X1_costOnwardBy : GoodIn wsX1_cheapestOnward (wsV RX1 68 RX1 yX1_costOnwardBy wsX1_costOnwardBy) := goodIn_app (goodIn_of _ (by decide +kernel)) ggX1_cheapestOnward_X1_costOnwardBy
set_option maxRecDepth 20000 in
theorem ggX1_cheapestOnward_X1_cheaper : GoodIn wsX1_cheapestOnward wsX1_cheaper := goodIn_r _ [14, 15, 16, 17, 18, 19, 20, 21] (by decide +kernel) (by decide +kernel)
set_option maxRecDepth 20000 in
theorem gX1_cheapestOnward_X1_cheaper : GoodIn wsX1_cheapestOnward (va_wsS RX1 50 yX1_cheaper wsX1_cheaper) := goodIn_app (goodIn_of _ (by decide +kernel)) ggX1_cheapestOnward_X1_cheaper
set_option maxRecDepth 20000 in
theorem ggX1_costOnwardBy_X2_size : GoodIn wsX1_costOnwardBy wsX2_size := goodIn_r _ [6, 7, 53, 54] (by decide +kernel) (by decide +kernel)
set_option maxRecDepth 20000 in
theorem gX1_costOnwardBy_X2_size : GoodIn wsX1_costOnwardBy (wsV RX1 29 RX2 yX2_size wsX2_size) := goodIn_app (goodIn_of _ (by decide +kernel)) ggX1_costOnwardBy_X2_size
set_option maxRecDepth 20000 in
theorem ggX1_costOnwardBy_X3_size : GoodIn wsX1_costOnwardBy wsX3_size := goodIn_r _ [12, 13, 14, 3, 4, 5, 6, 7, 55, 56, 57, 53, 54] (by decide +kernel) (by decide +kernel)
set_option maxRecDepth 20000 in
theorem gX1_costOnwardBy_X3_size : GoodIn wsX1_costOnwardBy (wsV RX1 35 RX3 yX3_size wsX3_size) := goodIn_app (goodIn_of _ (by decide +kernel)) ggX1_costOnwardBy_X3_size
set_option maxRecDepth 20000 in
theorem ggX1_costOnwardBy_X1_cheapestOnward : GoodIn wsX1_costOnwardBy wsX1_cheapestOnward := goodIn_r _ [35, 1, 2, 3, 4, 5, 6, 7, 36, 37, 38, 18, 39, 40, 41, 42, 43, 26, 44, 45, 46, 47, 0, 8, 9, 10, 11, 12, 13, 14, 15, 16, 17, 19, 20, 21, 22, 23, 24, 25, 27, 28, 29, 30, 31, 32, 33, 34, 48, 49, 50, 51, 52, 53, 54, 55, 56, 57] (by decide +kernel) (by decide +kernel)
set_option maxRecDepth 20000 in
theorem gX1_costOnwardBy_X1_cheapestOnward : GoodIn wsX1_costOnwardBy (wsV RX1 53 RX1 yX1_cheapestOnward wsX1_cheapestOnward) := goodIn_app (goodIn_of _ (by decide +kernel)) ggX1_costOnwardBy_X1_cheapestOnward
set_option maxRecDepth 20000 in
theorem ggX1_costOnwardBy_X1_costOfMove : GoodIn wsX1_costOnwardBy wsX1_costOfMove := goodIn_r _ [22, 1, 23, 24, 25, 26, 27, 28, 29, 30, 31, 32, 5, 33, 7, 34, 55, 56, 57, 48, 49, 50, 51, 52, 53, 54] (by decide +kernel) (by decide +kernel)
set_option maxRecDepth 20000 in
theorem gX1_costOnwardBy_X1_costOfMove : GoodIn wsX1_costOnwardBy (wsV RX1 65 RX1 yX1_costOfMove wsX1_costOfMove) := goodIn_app (goodIn_of _ (by decide +kernel)) ggX1_costOnwardBy_X1_costOfMove
set_option maxRecDepth 20000 in
theorem ggX1_costOfMove_X2_at : GoodIn wsX1_costOfMove wsX2_at := goodIn_r _ [13, 14, 15, 24, 25] (by decide +kernel) (by decide +kernel)
set_option maxRecDepth 20000 in
theorem gX1_costOfMove_X2_at : GoodIn wsX1_costOfMove (wsV RX1 75 RX2 yX2_at wsX2_at) := goodIn_app (goodIn_of _ (by decide +kernel)) ggX1_costOfMove_X2_at
set_option maxRecDepth 20000 in
theorem ggX2_stepFrom_X2_at : GoodIn wsX2_stepFrom wsX2_at := goodIn_r _ [5, 6, 7, 8, 9] (by decide +kernel) (by decide +kernel)
set_option maxRecDepth 20000 in
theorem gX2_stepFrom_X2_at : GoodIn wsX2_stepFrom (wsV RX2 23 RX2 yX2_at wsX2_at) := goodIn_app (goodIn_of _ (by decide +kernel)) ggX2_stepFrom_X2_at
set_option maxRecDepth 20000 in
theorem ggX2_stepsInCommon_X2_stepFrom : GoodIn wsX2_stepsInCommon wsX2_stepFrom := goodIn_r _ [10, 11, 12, 13, 9, 14, 1, 15, 16, 17] (by decide +kernel) (by decide +kernel)
set_option maxRecDepth 20000 in
theorem gX2_stepsInCommon_X2_stepFrom : GoodIn wsX2_stepsInCommon (wsV RX2 30 RX2 yX2_stepFrom wsX2_stepFrom) := goodIn_app (goodIn_of _ (by decide +kernel)) ggX2_stepsInCommon_X2_stepFrom
set_option maxRecDepth 20000 in
theorem ggX2_beginsWithContourOf_X2_stepFrom : GoodIn wsX2_beginsWithContourOf wsX2_stepFrom := goodIn_r _ [6, 7, 8, 9, 5, 10, 1, 11, 15, 16] (by decide +kernel) (by decide +kernel)
set_option maxRecDepth 20000 in
theorem gX2_beginsWithContourOf_X2_stepFrom : GoodIn wsX2_beginsWithContourOf (wsV RX2 30 RX2 yX2_stepFrom wsX2_stepFrom) := goodIn_app (goodIn_of _ (by decide +kernel)) ggX2_beginsWithContourOf_X2_stepFrom
set_option maxRecDepth 20000 in
theorem ggX2_beginsWithContourOf_X2_direction : GoodIn wsX2_beginsWithContourOf wsX2_direction := goodIn_r _ [14] (by decide +kernel) (by decide +kernel)
set_option maxRecDepth 20000 in
theorem gX2_beginsWithContourOf_X2_direction : GoodIn wsX2_beginsWithContourOf (va_wsS RX2 33 yX2_direction wsX2_direction) := goodIn_app (goodIn_of _ (by decide +kernel)) ggX2_beginsWithContourOf_X2_direction
set_option maxRecDepth 20000 in
theorem ggX3_init_X2_init : GoodIn wsX3_init wsX2_init := goodIn_r _ [11, 12, 2, 3, 13, 14, 15, 16, 17, 18, 19, 20] (by decide +kernel) (by decide +kernel)
set_option maxRecDepth 20000 in
theorem gX3_init_X2_init : GoodIn wsX3_init (wsX2_init) := ggX3_init_X2_init
set_option maxRecDepth 20000 in
theorem ggX3_size_X2_size : GoodIn wsX3_size wsX2_size := goodIn_r _ [6, 7, 11, 12] (by decide +kernel) (by decide +kernel)
set_option maxRecDepth 20000 in
theorem gX3_size_X2_size : GoodIn wsX3_size (wsV RX3 23 RX2 yX2_size wsX2_size) := goodIn_app (goodIn_of _ (by decide +kernel)) ggX3_size_X2_size
set_option maxRecDepth 20000 in
theorem ggX3_append_X2_append : GoodIn wsX3_append wsX2_append := goodIn_r _ [7, 8, 9, 13, 14] (by decide +kernel) (by decide +kernel)
set_option maxRecDepth 20000 in
theorem gX3_append_X2_append : GoodIn wsX3_append (wsV RX3 27 RX2 yX2_append wsX2_append) := goodIn_app (goodIn_of _ (by decide +kernel)) ggX3_append_X2_append
set_option maxRecDepth 20000 in
theorem ggX4_init_X2_init : GoodIn wsX4_init wsX2_init := goodIn_r _ [22, 23, 2, 3, 24, 25, 26, 27, 28, 29, 52, 53] (by decide +kernel) (by decide +kernel)
set_option maxRecDepth 20000 in
theorem gX4_init_X2_init : GoodIn wsX4_init (wsX2_init) := ggX4_init_X2_init
set_option maxRecDepth 20000 in
theorem ggX4_init_X1_init : GoodIn wsX4_init wsX1_init := goodIn_r _ [32, 33, 2, 3, 34, 35, 36, 28, 37, 38, 54, 55, 56, 57, 58] (by decide +kernel) (by decide +kernel)
set_option maxRecDepth 20000 in
theorem gX4_init_X1_init : GoodIn wsX4_init (wsX1_init) := ggX4_init_X1_init
set_option maxRecDepth 20000 in
theorem ggX4_init_X0_init : GoodIn wsX4_init wsX0_init := goodIn_r _ [40, 41, 2, 3, 42, 7, 8, 43, 44, 21, 22, 23, 24, 25, 26, 27, 28, 29, 52, 53, 59] (by decide +kernel) (by decide +kernel)
set_option maxRecDepth 20000 in
theorem gX4_init_X0_init_n35 : GoodIn wsX4_init (wsX0_init) := ggX4_init_X0_init
set_option maxRecDepth 20000 in
theorem ggX4_add_X4_refuseUnlessNote : GoodIn wsX4_add wsX4_refuseUnlessNote := goodIn_ca (goodIn_r _ [12, 13, 14, 11, 15, 16, 17, 18, 19, 20] (by decide +kernel) (by decide +kernel)) (goodIn_sub (fun _ h => List.mem_cons_of_mem _ (List.mem_append_right _ h)) (by decide +kernel))
set_option maxRecDepth 20000 in
theorem gX4_add_X4_refuseUnlessNote : GoodIn wsX4_add (va_wsS RX4 46 yX4_refuseUnlessNote wsX4_refuseUnlessNote) := goodIn_app (goodIn_of _ (by decide +kernel)) ggX4_add_X4_refuseUnlessNote
set_option maxRecDepth 20000 in
theorem ggX4_add_X4_isWithin : GoodIn wsX4_add wsX4_isWithin := goodIn_r _ [20] (by decide +kernel) (by decide +kernel)
set_option maxRecDepth 20000 in
theorem gX4_add_X4_isWithin : GoodIn wsX4_add (va_wsS RX4 54 yX4_isWithin wsX4_isWithin) := goodIn_app (goodIn_of _ (by decide +kernel)) ggX4_add_X4_isWithin
set_option maxRecDepth 20000 in
theorem ggX4_add_X3_init : GoodIn wsX4_add wsX3_init := goodIn_r _ [22, 23, 24, 25, 26, 27, 28, 29, 30, 31, 32, 33, 34, 35, 36, 37, 38, 39, 40, 67, 68, 64, 65, 66] (by decide +kernel) (by decide +kernel)
set_option maxRecDepth 20000 in
theorem gX4_add_X3_init_n65 : GoodIn wsX4_add (wsX3_init) := ggX4_add_X3_init
set_option maxRecDepth 20000 in
theorem ggX4_add_X3_append : GoodIn wsX4_add wsX3_append := goodIn_r _ [44, 29, 30, 45, 46, 47, 28, 48, 49, 40, 64, 65, 66, 67, 68] (by decide +kernel) (by decide +kernel)
set_option maxRecDepth 20000 in
theorem gX4_add_X3_append : GoodIn wsX4_add (wsV RX4 66 RX3 yX3_append wsX3_append) := goodIn_app (goodIn_of _ (by decide +kernel)) ggX4_add_X3_append
set_option maxRecDepth 20000 in
theorem ggX4_add_X0_admitTune : GoodIn wsX4_add wsX0_admitTune := goodIn_r _ [54, 55, 56, 46, 47, 28, 48, 49, 40, 69, 67, 68] (by decide +kernel) (by decide +kernel)
set_option maxRecDepth 20000 in
theorem gX4_add_X0_admitTune : GoodIn wsX4_add (wsV RX4 69 RX0 yX0_admitTune wsX0_admitTune) := goodIn_app (goodIn_of _ (by decide +kernel)) ggX4_add_X0_admitTune
set_option maxRecDepth 20000 in
theorem ggX4_note_X4_knownOrThrow : GoodIn wsX4_note wsX4_knownOrThrow := goodIn_ca (goodIn_r _ [7, 8, 9, 10, 11, 12, 6, 13, 14, 15, 16, 17, 18, 19, 57, 58, 59, 60, 61, 62, 63, 64, 65, 66] (by decide +kernel) (by decide +kernel)) (goodIn_sub (fun _ h => List.mem_cons_of_mem _ (List.mem_append_left _ (List.mem_append_right _ h))) (by decide +kernel))
set_option maxRecDepth 20000 in
theorem gX4_note_X4_knownOrThrow : GoodIn wsX4_note (wsV RX4 72 RX4 yX4_knownOrThrow wsX4_knownOrThrow) := goodIn_app (goodIn_of _ (by decide +kernel)) ggX4_note_X4_knownOrThrow
set_option maxRecDepth 20000 in
theorem ggX4_note_X4_refuseUnlessNote : GoodIn wsX4_note wsX4_refuseUnlessNote := goodIn_ca (goodIn_r _ [22, 23, 24, 6, 25, 26, 27, 28, 29, 30] (by decide +kernel) (by decide +kernel)) (goodIn_sub (fun _ h => List.mem_cons_of_mem _ (List.mem_append_right _ h)) (by decide +kernel))
set_option maxRecDepth 20000 in
theorem gX4_note_X4_refuseUnlessNote : GoodIn wsX4_note (va_wsS RX4 46 yX4_refuseUnlessNote wsX4_refuseUnlessNote) := goodIn_app (goodIn_of _ (by decide +kernel)) ggX4_note_X4_refuseUnlessNote
set_option maxRecDepth 20000 in
theorem ggX4_note_X2_isFull : GoodIn wsX4_note wsX2_isFull := goodIn_r _ [35, 36, 37, 67, 68] (by decide +kernel) (by decide +kernel)
set_option maxRecDepth 20000 in
theorem gX4_note_X2_isFull : GoodIn wsX4_note (wsV RX4 79 RX2 yX2_isFull wsX2_isFull) := goodIn_app (goodIn_of _ (by decide +kernel)) ggX4_note_X2_isFull
set_option maxRecDepth 20000 in
theorem ggX4_note_X3_append : GoodIn wsX4_note wsX3_append := goodIn_r _ [42, 43, 44, 45, 46, 47, 34, 48, 36, 37, 57, 58, 59, 67, 68] (by decide +kernel) (by decide +kernel)
set_option maxRecDepth 20000 in
theorem gX4_note_X3_append : GoodIn wsX4_note (wsV RX4 66 RX3 yX3_append wsX3_append) := goodIn_app (goodIn_of _ (by decide +kernel)) ggX4_note_X3_append
set_option maxRecDepth 20000 in
theorem ggX4_note_X3_size : GoodIn wsX4_note wsX3_size := goodIn_r _ [52, 43, 53, 54, 55, 34, 56, 36, 57, 58, 59, 67, 68] (by decide +kernel) (by decide +kernel)
set_option maxRecDepth 20000 in
theorem gX4_note_X3_size : GoodIn wsX4_note (wsV RX4 85 RX3 yX3_size wsX3_size) := goodIn_app (goodIn_of _ (by decide +kernel)) ggX4_note_X3_size
set_option maxRecDepth 20000 in
theorem ggX4_correct_X4_knownOrThrow : GoodIn wsX4_correct wsX4_knownOrThrow := goodIn_ca (goodIn_r _ [7, 1, 2, 8, 9, 10, 6, 11, 12, 13, 14, 15, 16, 17, 50, 51, 52, 53, 54, 55, 56, 57, 58, 59] (by decide +kernel) (by decide +kernel)) (goodIn_sub (fun _ h => List.mem_cons_of_mem _ (List.mem_append_left _ (List.mem_append_right _ h))) (by decide +kernel))
set_option maxRecDepth 20000 in
theorem gX4_correct_X4_knownOrThrow : GoodIn wsX4_correct (wsV RX4 72 RX4 yX4_knownOrThrow wsX4_knownOrThrow) := goodIn_app (goodIn_of _ (by decide +kernel)) ggX4_correct_X4_knownOrThrow
set_option maxRecDepth 20000 in
theorem ggX4_correct_X3_size : GoodIn wsX4_correct wsX3_size := goodIn_r _ [22, 23, 24, 25, 26, 27, 28, 29, 50, 51, 52, 60, 61] (by decide +kernel) (by decide +kernel)
set_option maxRecDepth 20000 in
theorem gX4_correct_X3_size : GoodIn wsX4_correct (wsV RX4 85 RX3 yX3_size wsX3_size) := goodIn_app (goodIn_of _ (by decide +kernel)) ggX4_correct_X3_size
set_option maxRecDepth 20000 in
theorem ggX4_correct_X4_refuseUnlessNote : GoodIn wsX4_correct wsX4_refuseUnlessNote := goodIn_ca (goodIn_r _ [32, 33, 34, 6, 35, 36, 37, 38, 39, 40] (by decide +kernel) (by decide +kernel)) (goodIn_sub (fun _ h => List.mem_cons_of_mem _ (List.mem_append_right _ h)) (by decide +kernel))
set_option maxRecDepth 20000 in
theorem gX4_correct_X4_refuseUnlessNote : GoodIn wsX4_correct (va_wsS RX4 46 yX4_refuseUnlessNote wsX4_refuseUnlessNote) := goodIn_app (goodIn_of _ (by decide +kernel)) ggX4_correct_X4_refuseUnlessNote
set_option maxRecDepth 20000 in
theorem ggX4_correct_X2_at : GoodIn wsX4_correct wsX2_at := goodIn_r _ [44, 29, 45, 60, 61] (by decide +kernel) (by decide +kernel)
set_option maxRecDepth 20000 in
theorem gX4_correct_X2_at : GoodIn wsX4_correct (wsV RX4 94 RX2 yX2_at wsX2_at) := goodIn_app (goodIn_of _ (by decide +kernel)) ggX4_correct_X2_at
set_option maxRecDepth 20000 in
theorem ggX4_correct_X2_put : GoodIn wsX4_correct wsX2_put := goodIn_r _ [49, 29, 45, 60, 61] (by decide +kernel) (by decide +kernel)
set_option maxRecDepth 20000 in
theorem gX4_correct_X2_put : GoodIn wsX4_correct (wsV RX4 98 RX2 yX2_put wsX2_put) := goodIn_app (goodIn_of _ (by decide +kernel)) ggX4_correct_X2_put
set_option maxRecDepth 20000 in
theorem ggX4_shift_X4_knownOrThrow : GoodIn wsX4_shift wsX4_knownOrThrow := goodIn_ca (goodIn_r _ [7, 8, 9, 10, 11, 12, 6, 13, 14, 15, 16, 17, 18, 19, 49, 50, 51, 52, 53, 54, 55, 56, 57, 58] (by decide +kernel) (by decide +kernel)) (goodIn_sub (fun _ h => List.mem_cons_of_mem _ (List.mem_append_left _ (List.mem_append_right _ h))) (by decide +kernel))
set_option maxRecDepth 20000 in
theorem gX4_shift_X4_knownOrThrow : GoodIn wsX4_shift (wsV RX4 72 RX4 yX4_knownOrThrow wsX4_knownOrThrow) := goodIn_app (goodIn_of _ (by decide +kernel)) ggX4_shift_X4_knownOrThrow
set_option maxRecDepth 20000 in
theorem ggX4_shift_X4_refuseUnlessWithin : GoodIn wsX4_shift wsX4_refuseUnlessWithin := goodIn_ca (goodIn_r _ [22, 23, 24, 25, 26, 6, 27] (by decide +kernel) (by decide +kernel)) (goodIn_sub (fun _ h => List.mem_cons_of_mem _ (List.mem_append_right _ h)) (by decide +kernel))
set_option maxRecDepth 20000 in
theorem gX4_shift_X4_refuseUnlessWithin : GoodIn wsX4_shift (va_wsS RX4 104 yX4_refuseUnlessWithin wsX4_refuseUnlessWithin) := goodIn_app (goodIn_of _ (by decide +kernel)) ggX4_shift_X4_refuseUnlessWithin
set_option maxRecDepth 20000 in
theorem ggX4_shift_X3_size : GoodIn wsX4_shift wsX3_size := goodIn_r _ [32, 33, 34, 35, 36, 37, 38, 39, 49, 50, 51, 59, 60] (by decide +kernel) (by decide +kernel)
set_option maxRecDepth 20000 in
theorem gX4_shift_X3_size : GoodIn wsX4_shift (wsV RX4 85 RX3 yX3_size wsX3_size) := goodIn_app (goodIn_of _ (by decide +kernel)) ggX4_shift_X3_size
set_option maxRecDepth 20000 in
theorem ggX4_shift_X2_at : GoodIn wsX4_shift wsX2_at := goodIn_r _ [43, 39, 44, 59, 60] (by decide +kernel) (by decide +kernel)
set_option maxRecDepth 20000 in
theorem gX4_shift_X2_at : GoodIn wsX4_shift (wsV RX4 94 RX2 yX2_at wsX2_at) := goodIn_app (goodIn_of _ (by decide +kernel)) ggX4_shift_X2_at
set_option maxRecDepth 20000 in
theorem ggX4_shift_X4_isWithin : GoodIn wsX4_shift wsX4_isWithin := goodIn_r _ [27] (by decide +kernel) (by decide +kernel)
set_option maxRecDepth 20000 in
theorem gX4_shift_X4_isWithin : GoodIn wsX4_shift (va_wsS RX4 54 yX4_isWithin wsX4_isWithin) := goodIn_app (goodIn_of _ (by decide +kernel)) ggX4_shift_X4_isWithin
set_option maxRecDepth 20000 in
theorem ggX4_shift_X2_put : GoodIn wsX4_shift wsX2_put := goodIn_r _ [48, 39, 44, 59, 60] (by decide +kernel) (by decide +kernel)
set_option maxRecDepth 20000 in
theorem gX4_shift_X2_put : GoodIn wsX4_shift (wsV RX4 98 RX2 yX2_put wsX2_put) := goodIn_app (goodIn_of _ (by decide +kernel)) ggX4_shift_X2_put
set_option maxRecDepth 20000 in
theorem ggX4_retire_X4_knownOrThrow : GoodIn wsX4_retire wsX4_knownOrThrow := goodIn_ca (goodIn_r _ [6, 7, 8, 9, 10, 11, 5, 12, 13, 14, 15, 16, 1, 17, 18, 19, 20, 21, 22, 23, 24, 25, 26, 27] (by decide +kernel) (by decide +kernel)) (goodIn_sub (fun _ h => List.mem_cons_of_mem _ (List.mem_append_right _ h)) (by decide +kernel))
set_option maxRecDepth 20000 in
theorem gX4_retire_X4_knownOrThrow : GoodIn wsX4_retire (wsV RX4 72 RX4 yX4_knownOrThrow wsX4_knownOrThrow) := goodIn_app (goodIn_of _ (by decide +kernel)) ggX4_retire_X4_knownOrThrow
set_option maxRecDepth 20000 in
theorem ggX4_retire_X4_knownOrNull : GoodIn wsX4_retire wsX4_knownOrNull := goodIn_r _ [12, 13, 14, 15, 5, 16, 1, 17, 18, 19, 20, 21, 22, 23, 24, 25, 26, 27] (by decide +kernel) (by decide +kernel)
set_option maxRecDepth 20000 in
theorem gX4_retire_X4_knownOrNull : GoodIn wsX4_retire (wsV RX4 114 RX4 yX4_knownOrNull wsX4_knownOrNull) := goodIn_app (goodIn_of _ (by decide +kernel)) ggX4_retire_X4_knownOrNull
set_option maxRecDepth 20000 in
theorem ggX4_notes_X4_enteredOrThrow : GoodIn wsX4_notes wsX4_enteredOrThrow := goodIn_ca (goodIn_r _ [5, 6, 7, 8, 9, 10, 4, 11, 12, 13, 26, 27, 28, 29, 30, 31, 32] (by decide +kernel) (by decide +kernel)) (goodIn_sub (fun _ h => List.mem_cons_of_mem _ (List.mem_append_right _ h)) (by decide +kernel))
set_option maxRecDepth 20000 in
theorem gX4_notes_X4_enteredOrThrow : GoodIn wsX4_notes (wsV RX4 117 RX4 yX4_enteredOrThrow wsX4_enteredOrThrow) := goodIn_app (goodIn_of _ (by decide +kernel)) ggX4_notes_X4_enteredOrThrow
set_option maxRecDepth 20000 in
theorem ggX4_notes_X3_size : GoodIn wsX4_notes wsX3_size := goodIn_r _ [18, 19, 20, 21, 22, 23, 24, 25, 33, 34, 35, 36, 37] (by decide +kernel) (by decide +kernel)
set_option maxRecDepth 20000 in
theorem gX4_notes_X3_size : GoodIn wsX4_notes (wsV RX4 85 RX3 yX3_size wsX3_size) := goodIn_app (goodIn_of _ (by decide +kernel)) ggX4_notes_X3_size
set_option maxRecDepth 20000 in
theorem ggX4_step_X4_enteredOrThrow : GoodIn wsX4_step wsX4_enteredOrThrow := goodIn_ca (goodIn_r _ [7, 1, 2, 8, 9, 10, 6, 11, 12, 13, 38, 39, 40, 41, 42, 43, 44] (by decide +kernel) (by decide +kernel)) (goodIn_sub (fun _ h => List.mem_cons_of_mem _ (List.mem_append_right _ h)) (by decide +kernel))
set_option maxRecDepth 20000 in
theorem gX4_step_X4_enteredOrThrow : GoodIn wsX4_step (wsV RX4 117 RX4 yX4_enteredOrThrow wsX4_enteredOrThrow) := goodIn_app (goodIn_of _ (by decide +kernel)) ggX4_step_X4_enteredOrThrow
set_option maxRecDepth 20000 in
theorem ggX4_step_X3_size : GoodIn wsX4_step wsX3_size := goodIn_r _ [18, 19, 20, 21, 22, 23, 24, 25, 35, 36, 37, 45, 46] (by decide +kernel) (by decide +kernel)
set_option maxRecDepth 20000 in
theorem gX4_step_X3_size : GoodIn wsX4_step (wsV RX4 85 RX3 yX3_size wsX3_size) := goodIn_app (goodIn_of _ (by decide +kernel)) ggX4_step_X3_size
set_option maxRecDepth 20000 in
theorem ggX4_step_X2_stepFrom : GoodIn wsX4_step wsX2_stepFrom := goodIn_r _ [29, 30, 31, 32, 23, 33, 25, 34, 45, 46] (by decide +kernel) (by decide +kernel)
set_option maxRecDepth 20000 in
theorem gX4_step_X2_stepFrom : GoodIn wsX4_step (wsV RX4 122 RX2 yX2_stepFrom wsX2_stepFrom) := goodIn_app (goodIn_of _ (by decide +kernel)) ggX4_step_X2_stepFrom
set_option maxRecDepth 20000 in
theorem ggX4_shared_X4_enteredOrThrow : GoodIn wsX4_shared wsX4_enteredOrThrow := goodIn_ca (goodIn_r _ [9, 10, 11, 12, 13, 14, 8, 15, 16, 17, 43, 44, 45, 46, 47, 48, 49] (by decide +kernel) (by decide +kernel)) (goodIn_sub (fun _ h => List.mem_cons_of_mem _ (List.mem_append_right _ h)) (by decide +kernel))
set_option maxRecDepth 20000 in
theorem gX4_shared_X4_enteredOrThrow : GoodIn wsX4_shared (wsV RX4 117 RX4 yX4_enteredOrThrow wsX4_enteredOrThrow) := goodIn_app (goodIn_of _ (by decide +kernel)) ggX4_shared_X4_enteredOrThrow
set_option maxRecDepth 20000 in
theorem ggX4_shared_X2_size : GoodIn wsX4_shared wsX2_size := goodIn_r _ [22, 23, 50, 51] (by decide +kernel) (by decide +kernel)
set_option maxRecDepth 20000 in
theorem gX4_shared_X2_size : GoodIn wsX4_shared (wsV RX4 125 RX2 yX2_size wsX2_size) := goodIn_app (goodIn_of _ (by decide +kernel)) ggX4_shared_X2_size
set_option maxRecDepth 20000 in
theorem ggX4_shared_X2_stepsInCommon : GoodIn wsX4_shared wsX2_stepsInCommon := goodIn_r _ [27, 23, 28, 29, 3, 30, 31, 32, 33, 21, 34, 35, 36, 37, 38, 39, 50, 51] (by decide +kernel) (by decide +kernel)
set_option maxRecDepth 20000 in
theorem gX4_shared_X2_stepsInCommon : GoodIn wsX4_shared (wsV RX4 126 RX2 yX2_stepsInCommon wsX2_stepsInCommon) := goodIn_app (goodIn_of _ (by decide +kernel)) ggX4_shared_X2_stepsInCommon
set_option maxRecDepth 20000 in
theorem ggX4_hum_X4_refuseUnlessWithin : GoodIn wsX4_hum wsX4_refuseUnlessWithin := goodIn_ca (goodIn_r _ [7, 8, 9, 10, 11, 6, 12] (by decide +kernel) (by decide +kernel)) (goodIn_sub (fun _ h => List.mem_cons_of_mem _ (List.mem_append_right _ h)) (by decide +kernel))
set_option maxRecDepth 20000 in
theorem gX4_hum_X4_refuseUnlessWithin : GoodIn wsX4_hum (va_wsS RX4 104 yX4_refuseUnlessWithin wsX4_refuseUnlessWithin) := goodIn_app (goodIn_of _ (by decide +kernel)) ggX4_hum_X4_refuseUnlessWithin
set_option maxRecDepth 20000 in
theorem ggX4_hum_X2_isFull : GoodIn wsX4_hum wsX2_isFull := goodIn_r _ [17, 18, 19, 35, 36] (by decide +kernel) (by decide +kernel)
set_option maxRecDepth 20000 in
theorem gX4_hum_X2_isFull : GoodIn wsX4_hum (wsV RX4 79 RX2 yX2_isFull wsX2_isFull) := goodIn_app (goodIn_of _ (by decide +kernel)) ggX4_hum_X2_isFull
set_option maxRecDepth 20000 in
theorem ggX4_hum_X2_append : GoodIn wsX4_hum wsX2_append := goodIn_r _ [23, 18, 19, 35, 36] (by decide +kernel) (by decide +kernel)
set_option maxRecDepth 20000 in
theorem gX4_hum_X2_append : GoodIn wsX4_hum (wsV RX4 138 RX2 yX2_append wsX2_append) := goodIn_app (goodIn_of _ (by decide +kernel)) ggX4_hum_X2_append
set_option maxRecDepth 20000 in
theorem ggX4_hum_X2_size : GoodIn wsX4_hum wsX2_size := goodIn_r _ [27, 18, 35, 36] (by decide +kernel) (by decide +kernel)
set_option maxRecDepth 20000 in
theorem gX4_hum_X2_size : GoodIn wsX4_hum (wsV RX4 125 RX2 yX2_size wsX2_size) := goodIn_app (goodIn_of _ (by decide +kernel)) ggX4_hum_X2_size
set_option maxRecDepth 20000 in
theorem ggX4_hush_X2_size : GoodIn wsX4_hush wsX2_size := goodIn_r _ [6, 7, 19, 20] (by decide +kernel) (by decide +kernel)
set_option maxRecDepth 20000 in
theorem gX4_hush_X2_size : GoodIn wsX4_hush (wsV RX4 125 RX2 yX2_size wsX2_size) := goodIn_app (goodIn_of _ (by decide +kernel)) ggX4_hush_X2_size
set_option maxRecDepth 20000 in
theorem ggX4_hush_X2_clear : GoodIn wsX4_hush wsX2_clear := goodIn_r _ [11, 7, 19, 20] (by decide +kernel) (by decide +kernel)
set_option maxRecDepth 20000 in
theorem gX4_hush_X2_clear : GoodIn wsX4_hush (wsV RX4 140 RX2 yX2_clear wsX2_clear) := goodIn_app (goodIn_of _ (by decide +kernel)) ggX4_hush_X2_clear
set_option maxRecDepth 20000 in
theorem ggX4_hummed_X2_size : GoodIn wsX4_hummed wsX2_size := goodIn_r _ [6, 7, 15, 16] (by decide +kernel) (by decide +kernel)
set_option maxRecDepth 20000 in
theorem gX4_hummed_X2_size : GoodIn wsX4_hummed (wsV RX4 125 RX2 yX2_size wsX2_size) := goodIn_app (goodIn_of _ (by decide +kernel)) ggX4_hummed_X2_size
set_option maxRecDepth 20000 in
theorem ggX4_setCosts_X4_refuseUnlessWithin : GoodIn wsX4_setCosts wsX4_refuseUnlessWithin := goodIn_ca (goodIn_r _ [5, 6, 7, 8, 9, 4, 10] (by decide +kernel) (by decide +kernel)) (goodIn_sub (fun _ h => List.mem_cons_of_mem _ (List.mem_append_right _ h)) (by decide +kernel))
set_option maxRecDepth 20000 in
theorem gX4_setCosts_X4_refuseUnlessWithin : GoodIn wsX4_setCosts (va_wsS RX4 104 yX4_refuseUnlessWithin wsX4_refuseUnlessWithin) := goodIn_app (goodIn_of _ (by decide +kernel)) ggX4_setCosts_X4_refuseUnlessWithin
set_option maxRecDepth 20000 in
theorem ggX4_cost_X4_knownOrThrow : GoodIn wsX4_cost wsX4_knownOrThrow := goodIn_ca (goodIn_r _ [6, 7, 8, 9, 10, 11, 5, 12, 13, 14, 15, 16, 17, 18, 89, 90, 91, 82, 83, 84, 85, 86, 87, 88] (by decide +kernel) (by decide +kernel)) (goodIn_sub (fun _ h => List.mem_cons_of_mem _ (List.mem_append_right _ h)) (by decide +kernel))
set_option maxRecDepth 20000 in
theorem gX4_cost_X4_knownOrThrow : GoodIn wsX4_cost (wsV RX4 72 RX4 yX4_knownOrThrow wsX4_knownOrThrow) := goodIn_app (goodIn_of _ (by decide +kernel)) ggX4_cost_X4_knownOrThrow
set_option maxRecDepth 20000 in
theorem ggX4_cost_X1_cheapestByTable : GoodIn wsX4_cost wsX1_cheapestByTable := goodIn_r _ [23, 24, 25, 26, 27, 28, 29, 30, 31, 32, 33, 34, 35, 36, 37, 38, 39, 40, 22, 41, 42, 43, 44, 45, 46, 47, 48, 49, 50, 51, 5, 52, 53, 54, 55, 56, 57, 58, 59, 60, 61, 62, 63, 64, 65, 66, 67, 68, 69, 70, 71, 72, 73, 74, 75, 76, 77, 78, 79, 80, 81, 92, 93, 94, 95, 96, 97, 98, 89, 90, 91] (by decide +kernel) (by decide +kernel)
set_option maxRecDepth 20000 in
theorem gX4_cost_X1_cheapestByTable : GoodIn wsX4_cost (wsV RX4 152 RX1 yX1_cheapestByTable wsX1_cheapestByTable) := goodIn_app (goodIn_of _ (by decide +kernel)) ggX4_cost_X1_cheapestByTable
set_option maxRecDepth 20000 in
theorem ggX4_costByAll_X4_knownOrThrow : GoodIn wsX4_costByAll wsX4_knownOrThrow := goodIn_ca (goodIn_r _ [9, 10, 11, 12, 13, 14, 8, 15, 16, 17, 18, 19, 20, 21, 82, 83, 84, 75, 76, 77, 78, 79, 80, 81] (by decide +kernel) (by decide +kernel)) (goodIn_sub (fun _ h => List.mem_cons_of_mem _ (List.mem_append_right _ h)) (by decide +kernel))
set_option maxRecDepth 20000 in
theorem gX4_costByAll_X4_knownOrThrow : GoodIn wsX4_costByAll (wsV RX4 72 RX4 yX4_knownOrThrow wsX4_knownOrThrow) := goodIn_app (goodIn_of _ (by decide +kernel)) ggX4_costByAll_X4_knownOrThrow
set_option maxRecDepth 20000 in
theorem ggX4_costByAll_X2_size : GoodIn wsX4_costByAll wsX2_size := goodIn_r _ [26, 27, 85, 86] (by decide +kernel) (by decide +kernel)
set_option maxRecDepth 20000 in
theorem gX4_costByAll_X2_size : GoodIn wsX4_costByAll (wsV RX4 125 RX2 yX2_size wsX2_size) := goodIn_app (goodIn_of _ (by decide +kernel)) ggX4_costByAll_X2_size
set_option maxRecDepth 20000 in
theorem ggX4_costByAll_X1_cheapestByTrying : GoodIn wsX4_costByAll wsX1_cheapestByTrying := goodIn_r _ [32, 33, 34, 23, 24, 25, 26, 27, 35, 36, 37, 31, 38, 39, 40, 41, 42, 43, 44, 45, 46, 47, 48, 49, 50, 51, 52, 53, 54, 55, 56, 57, 58, 59, 60, 61, 62, 63, 64, 65, 66, 67, 68, 69, 70, 71, 72, 73, 74, 87, 88, 89, 90, 91, 85, 86, 82, 83, 84] (by decide +kernel) (by decide +kernel)
set_option maxRecDepth 20000 in
theorem gX4_costByAll_X1_cheapestByTrying : GoodIn wsX4_costByAll (wsV RX4 158 RX1 yX1_cheapestByTrying wsX1_cheapestByTrying) := goodIn_app (goodIn_of _ (by decide +kernel)) ggX4_costByAll_X1_cheapestByTrying
set_option maxRecDepth 20000 in
theorem ggX4_matches_X4_priceTunes : GoodIn wsX4_matches wsX4_priceTunes := goodIn_r _ [6, 1, 7, 8, 9, 10, 11, 12, 13, 14, 15, 16, 17, 5, 18, 19, 20, 21, 22, 23, 24, 25, 26, 27, 28, 29, 30, 31, 32, 33, 34, 35, 36, 37, 38, 39, 40, 41, 42, 43, 44, 45, 46, 47, 48, 49, 50, 51, 52, 53, 54, 55, 56, 57, 58, 59, 60, 61, 62, 63, 64, 65, 66, 67, 68, 69, 70, 71, 72, 73, 74, 75, 76, 77, 78, 79, 80, 81, 82, 83, 84, 85, 86, 87, 88, 91, 92, 93, 94, 95, 96, 97, 98, 99, 100, 101, 102, 103, 104, 105, 106, 107] (by decide +kernel) (by decide +kernel)
set_option maxRecDepth 20000 in
theorem gX4_matches_X4_priceTunes : GoodIn wsX4_matches (wsV RX4 161 RX4 yX4_priceTunes wsX4_priceTunes) := goodIn_app (goodIn_of _ (by decide +kernel)) ggX4_matches_X4_priceTunes
set_option maxRecDepth 20000 in
theorem ggX4_matches_X2_size : GoodIn wsX4_matches wsX2_size := goodIn_r _ [33, 14, 98, 99] (by decide +kernel) (by decide +kernel)
set_option maxRecDepth 20000 in
theorem gX4_matches_X2_size : GoodIn wsX4_matches (wsV RX4 125 RX2 yX2_size wsX2_size) := goodIn_app (goodIn_of _ (by decide +kernel)) ggX4_matches_X2_size
set_option maxRecDepth 20000 in
theorem ggX4_matches_X2_at : GoodIn wsX4_matches wsX2_at := goodIn_r _ [70, 14, 71, 98, 99] (by decide +kernel) (by decide +kernel)
set_option maxRecDepth 20000 in
theorem gX4_matches_X2_at : GoodIn wsX4_matches (wsV RX4 94 RX2 yX2_at wsX2_at) := goodIn_app (goodIn_of _ (by decide +kernel)) ggX4_matches_X2_at
set_option maxRecDepth 20000 in
theorem ggX4_found_X4_priceTunes : GoodIn wsX4_found wsX4_priceTunes := goodIn_r _ [8, 3, 9, 10, 11, 12, 13, 14, 15, 16, 17, 18, 19, 7, 20, 21, 22, 23, 24, 25, 26, 27, 28, 29, 30, 31, 32, 33, 34, 35, 36, 37, 38, 39, 40, 41, 42, 43, 44, 45, 46, 47, 48, 49, 50, 51, 52, 53, 54, 55, 56, 57, 58, 59, 60, 61, 62, 63, 64, 65, 66, 67, 68, 69, 70, 71, 72, 73, 74, 75, 76, 77, 78, 79, 80, 81, 82, 83, 84, 85, 86, 87, 88, 89, 90, 97, 98, 99, 100, 101, 102, 103, 104, 105, 106, 107, 108, 109, 110, 111, 112, 113] (by decide +kernel) (by decide +kernel)
set_option maxRecDepth 20000 in
theorem gX4_found_X4_priceTunes : GoodIn wsX4_found (wsV RX4 161 RX4 yX4_priceTunes wsX4_priceTunes) := goodIn_app (goodIn_of _ (by decide +kernel)) ggX4_found_X4_priceTunes
set_option maxRecDepth 20000 in
theorem ggX4_found_X2_size : GoodIn wsX4_found wsX2_size := goodIn_r _ [35, 16, 104, 105] (by decide +kernel) (by decide +kernel)
set_option maxRecDepth 20000 in
theorem gX4_found_X2_size : GoodIn wsX4_found (wsV RX4 125 RX2 yX2_size wsX2_size) := goodIn_app (goodIn_of _ (by decide +kernel)) ggX4_found_X2_size
set_option maxRecDepth 20000 in
theorem ggX4_found_X2_at : GoodIn wsX4_found wsX2_at := goodIn_r _ [72, 16, 73, 104, 105] (by decide +kernel) (by decide +kernel)
set_option maxRecDepth 20000 in
theorem gX4_found_X2_at : GoodIn wsX4_found (wsV RX4 94 RX2 yX2_at wsX2_at) := goodIn_app (goodIn_of _ (by decide +kernel)) ggX4_found_X2_at
set_option maxRecDepth 20000 in
theorem ggX4_found_X4_rankByPrice : GoodIn wsX4_found wsX4_rankByPrice := goodIn_r _ [96, 3, 92, 70, 71, 14, 72, 16, 73, 91, 33, 34, 35, 97, 98, 99, 100, 101, 102, 103, 104, 105] (by decide +kernel) (by decide +kernel)
set_option maxRecDepth 20000 in
theorem gX4_found_X4_rankByPrice : GoodIn wsX4_found (wsV RX4 164 RX4 yX4_rankByPrice wsX4_rankByPrice) := goodIn_app (goodIn_of _ (by decide +kernel)) ggX4_found_X4_rankByPrice
set_option maxRecDepth 20000 in
theorem ggX4_likeContour_X4_knownOrNull : GoodIn wsX4_likeContour wsX4_knownOrNull := goodIn_r _ [7, 8, 9, 10, 6, 11, 1, 12, 38, 39, 40, 31, 32, 33, 34, 35, 36, 37] (by decide +kernel) (by decide +kernel)
set_option maxRecDepth 20000 in
theorem gX4_likeContour_X4_knownOrNull : GoodIn wsX4_likeContour (wsV RX4 114 RX4 yX4_knownOrNull wsX4_knownOrNull) := goodIn_app (goodIn_of _ (by decide +kernel)) ggX4_likeContour_X4_knownOrNull
set_option maxRecDepth 20000 in
theorem ggX4_likeContour_X2_beginsWithContourOf : GoodIn wsX4_likeContour wsX2_beginsWithContourOf := goodIn_r _ [17, 18, 19, 20, 21, 16, 22, 23, 24, 25, 26, 27, 28, 29, 30, 41, 42] (by decide +kernel) (by decide +kernel)
set_option maxRecDepth 20000 in
theorem gX4_likeContour_X2_beginsWithContourOf : GoodIn wsX4_likeContour (wsV RX4 169 RX2 yX2_beginsWithContourOf wsX2_beginsWithContourOf) := goodIn_app (goodIn_of _ (by decide +kernel)) ggX4_likeContour_X2_beginsWithContourOf
set_option maxRecDepth 20000 in
theorem ggX4_places_X4_refuseUnlessRunOfHum : GoodIn wsX4_places wsX4_refuseUnlessRunOfHum := goodIn_ca (goodIn_ca (goodIn_r _ [6, 7, 8, 9, 10, 11, 5, 12, 13, 14, 15, 16, 17, 18, 19, 20, 21, 22, 23, 67, 68, 69, 70, 71, 72, 73, 74, 75] (by decide +kernel) (by decide +kernel)) (goodIn_sub (fun _ h => List.mem_cons_of_mem _ (List.mem_append_left _ (List.mem_append_right _ h))) (by decide +kernel))) (goodIn_sub (fun _ h => List.mem_cons_of_mem _ (List.mem_append_right _ h)) (by decide +kernel))
set_option maxRecDepth 20000 in
theorem gX4_places_X4_refuseUnlessRunOfHum : GoodIn wsX4_places (wsV RX4 173 RX4 yX4_refuseUnlessRunOfHum wsX4_refuseUnlessRunOfHum) := goodIn_app (goodIn_of _ (by decide +kernel)) ggX4_places_X4_refuseUnlessRunOfHum
set_option maxRecDepth 20000 in
theorem ggX4_places_X4_collectPlaces : GoodIn wsX4_places wsX4_collectPlaces := goodIn_r _ [27, 1, 28, 29, 30, 31, 21, 32, 23, 33, 34, 35, 5, 36, 37, 38, 39, 40, 41, 42, 43, 44, 45, 9, 18, 19, 20, 22, 46, 47, 48, 49, 50, 51, 52, 53, 54, 55, 56, 57, 58, 59, 60, 61, 62, 63, 64, 65, 66, 67, 68, 69, 70, 71, 72, 73, 76, 77, 78, 74, 75] (by decide +kernel) (by decide +kernel)
set_option maxRecDepth 20000 in
theorem gX4_places_X4_collectPlaces : GoodIn wsX4_places (wsV RX4 176 RX4 yX4_collectPlaces wsX4_collectPlaces) := goodIn_app (goodIn_of _ (by decide +kernel)) ggX4_places_X4_collectPlaces
set_option maxRecDepth 20000 in
theorem ggX4_places_X2_size : GoodIn wsX4_places wsX2_size := goodIn_r _ [22, 23, 74, 75] (by decide +kernel) (by decide +kernel)
set_option maxRecDepth 20000 in
theorem gX4_places_X2_size : GoodIn wsX4_places (wsV RX4 125 RX2 yX2_size wsX2_size) := goodIn_app (goodIn_of _ (by decide +kernel)) ggX4_places_X2_size
set_option maxRecDepth 20000 in
theorem ggX4_place_X4_refuseUnlessRunOfHum : GoodIn wsX4_place wsX4_refuseUnlessRunOfHum := goodIn_ca (goodIn_ca (goodIn_r _ [8, 9, 10, 11, 12, 13, 7, 14, 15, 16, 17, 18, 19, 20, 21, 22, 23, 24, 25, 70, 71, 72, 73, 74, 75, 76, 77, 78] (by decide +kernel) (by decide +kernel)) (goodIn_sub (fun _ h => List.mem_cons_of_mem _ (List.mem_append_left _ (List.mem_append_right _ h))) (by decide +kernel))) (goodIn_sub (fun _ h => List.mem_cons_of_mem _ (List.mem_append_right _ h)) (by decide +kernel))
set_option maxRecDepth 20000 in
theorem gX4_place_X4_refuseUnlessRunOfHum : GoodIn wsX4_place (wsV RX4 173 RX4 yX4_refuseUnlessRunOfHum wsX4_refuseUnlessRunOfHum) := goodIn_app (goodIn_of _ (by decide +kernel)) ggX4_place_X4_refuseUnlessRunOfHum
set_option maxRecDepth 20000 in
theorem ggX4_place_X4_collectPlaces : GoodIn wsX4_place wsX4_collectPlaces := goodIn_r _ [29, 3, 30, 31, 32, 33, 23, 34, 25, 35, 36, 37, 7, 38, 39, 40, 41, 42, 43, 44, 45, 46, 47, 11, 20, 21, 22, 24, 48, 49, 50, 51, 52, 53, 54, 55, 56, 57, 58, 59, 60, 61, 62, 63, 64, 65, 66, 67, 68, 70, 71, 72, 73, 74, 75, 76, 79, 80, 81, 77, 78] (by decide +kernel) (by decide +kernel)
set_option maxRecDepth 20000 in
theorem gX4_place_X4_collectPlaces : GoodIn wsX4_place (wsV RX4 176 RX4 yX4_collectPlaces wsX4_collectPlaces) := goodIn_app (goodIn_of _ (by decide +kernel)) ggX4_place_X4_collectPlaces
set_option maxRecDepth 20000 in
theorem ggX4_place_X2_size : GoodIn wsX4_place wsX2_size := goodIn_r _ [24, 25, 77, 78] (by decide +kernel) (by decide +kernel)
set_option maxRecDepth 20000 in
theorem gX4_place_X2_size : GoodIn wsX4_place (wsV RX4 125 RX2 yX2_size wsX2_size) := goodIn_app (goodIn_of _ (by decide +kernel)) ggX4_place_X2_size
set_option maxRecDepth 20000 in
theorem ggX4_place_X2_at : GoodIn wsX4_place wsX2_at := goodIn_r _ [63, 25, 64, 77, 78] (by decide +kernel) (by decide +kernel)
set_option maxRecDepth 20000 in
theorem gX4_place_X2_at : GoodIn wsX4_place (wsV RX4 94 RX2 yX2_at wsX2_at) := goodIn_app (goodIn_of _ (by decide +kernel)) ggX4_place_X2_at
set_option maxRecDepth 20000 in
theorem ggX4_link_X4_refuseUnlessEntered : GoodIn wsX4_link wsX4_refuseUnlessEntered := goodIn_ca (goodIn_r _ [10, 11, 12, 13, 9, 14, 15, 16, 17, 18, 19, 20, 21, 22, 63, 64, 65, 66, 67, 68, 69] (by decide +kernel) (by decide +kernel)) (goodIn_sub (fun _ h => List.mem_cons_of_mem _ (List.mem_append_right _ h)) (by decide +kernel))
set_option maxRecDepth 20000 in
theorem gX4_link_X4_refuseUnlessEntered : GoodIn wsX4_link (wsV RX4 181 RX4 yX4_refuseUnlessEntered wsX4_refuseUnlessEntered) := goodIn_app (goodIn_of _ (by decide +kernel)) ggX4_link_X4_refuseUnlessEntered
set_option maxRecDepth 20000 in
theorem ggX4_link_X0_areLinked : GoodIn wsX4_link wsX0_areLinked := goodIn_r _ [27, 28, 29, 30, 31, 32, 33, 34, 35, 36, 37, 26, 38, 70, 71, 72] (by decide +kernel) (by decide +kernel)
set_option maxRecDepth 20000 in
theorem gX4_link_X0_areLinked : GoodIn wsX4_link (wsV RX4 189 RX0 yX0_areLinked wsX0_areLinked) := goodIn_app (goodIn_of _ (by decide +kernel)) ggX4_link_X0_areLinked
set_option maxRecDepth 20000 in
theorem ggX4_link_X0_toggle : GoodIn wsX4_link wsX0_toggle := goodIn_r _ [42, 28, 29, 30, 31, 32, 33, 34, 35, 36, 37, 26, 38, 43, 44, 45, 46, 70, 71, 72] (by decide +kernel) (by decide +kernel)
set_option maxRecDepth 20000 in
theorem gX4_link_X0_toggle : GoodIn wsX4_link (wsV RX4 195 RX0 yX0_toggle wsX0_toggle) := goodIn_app (goodIn_of _ (by decide +kernel)) ggX4_link_X0_toggle
set_option maxRecDepth 20000 in
theorem ggX4_link_X0_countFamilies : GoodIn wsX4_link wsX0_countFamilies := goodIn_r _ [50, 28, 51, 52, 53, 32, 54, 34, 55, 56, 57, 26, 58, 36, 37, 38, 59, 60, 61, 62, 29, 30, 31, 33, 35, 70, 71, 72] (by decide +kernel) (by decide +kernel)
set_option maxRecDepth 20000 in
theorem gX4_link_X0_countFamilies : GoodIn wsX4_link (wsV RX4 198 RX0 yX0_countFamilies wsX0_countFamilies) := goodIn_app (goodIn_of _ (by decide +kernel)) ggX4_link_X0_countFamilies
set_option maxRecDepth 20000 in
theorem ggX4_cut_X4_refuseUnlessEntered : GoodIn wsX4_cut wsX4_refuseUnlessEntered := goodIn_ca (goodIn_r _ [8, 9, 10, 11, 7, 12, 13, 14, 15, 16, 17, 18, 19, 20, 61, 62, 63, 64, 65, 66, 67] (by decide +kernel) (by decide +kernel)) (goodIn_sub (fun _ h => List.mem_cons_of_mem _ (List.mem_append_right _ h)) (by decide +kernel))
set_option maxRecDepth 20000 in
theorem gX4_cut_X4_refuseUnlessEntered : GoodIn wsX4_cut (wsV RX4 181 RX4 yX4_refuseUnlessEntered wsX4_refuseUnlessEntered) := goodIn_app (goodIn_of _ (by decide +kernel)) ggX4_cut_X4_refuseUnlessEntered
set_option maxRecDepth 20000 in
theorem ggX4_cut_X0_areLinked : GoodIn wsX4_cut wsX0_areLinked := goodIn_r _ [25, 26, 27, 28, 29, 30, 31, 32, 33, 34, 35, 24, 36, 68, 69, 70] (by decide +kernel) (by decide +kernel)
set_option maxRecDepth 20000 in
theorem gX4_cut_X0_areLinked : GoodIn wsX4_cut (wsV RX4 189 RX0 yX0_areLinked wsX0_areLinked) := goodIn_app (goodIn_of _ (by decide +kernel)) ggX4_cut_X0_areLinked
set_option maxRecDepth 20000 in
theorem ggX4_cut_X0_toggle : GoodIn wsX4_cut wsX0_toggle := goodIn_r _ [40, 26, 27, 28, 29, 30, 31, 32, 33, 34, 35, 24, 36, 41, 42, 43, 44, 68, 69, 70] (by decide +kernel) (by decide +kernel)
set_option maxRecDepth 20000 in
theorem gX4_cut_X0_toggle : GoodIn wsX4_cut (wsV RX4 195 RX0 yX0_toggle wsX0_toggle) := goodIn_app (goodIn_of _ (by decide +kernel)) ggX4_cut_X0_toggle
set_option maxRecDepth 20000 in
theorem ggX4_cut_X0_countFamilies : GoodIn wsX4_cut wsX0_countFamilies := goodIn_r _ [48, 26, 49, 50, 51, 30, 52, 32, 53, 54, 55, 24, 56, 34, 35, 36, 57, 58, 59, 60, 27, 28, 29, 31, 33, 68, 69, 70] (by decide +kernel) (by decide +kernel)
set_option maxRecDepth 20000 in
theorem gX4_cut_X0_countFamilies : GoodIn wsX4_cut (wsV RX4 198 RX0 yX0_countFamilies wsX0_countFamilies) := goodIn_app (goodIn_of _ (by decide +kernel)) ggX4_cut_X0_countFamilies
set_option maxRecDepth 20000 in
theorem ggX4_family_X4_enteredOrThrow : GoodIn wsX4_family wsX4_enteredOrThrow := goodIn_ca (goodIn_r _ [6, 7, 8, 9, 10, 11, 5, 12, 13, 14, 39, 40, 41, 42, 43, 44, 45] (by decide +kernel) (by decide +kernel)) (goodIn_sub (fun _ h => List.mem_cons_of_mem _ (List.mem_append_right _ h)) (by decide +kernel))
set_option maxRecDepth 20000 in
theorem gX4_family_X4_enteredOrThrow : GoodIn wsX4_family (wsV RX4 117 RX4 yX4_enteredOrThrow wsX4_enteredOrThrow) := goodIn_app (goodIn_of _ (by decide +kernel)) ggX4_family_X4_enteredOrThrow
set_option maxRecDepth 20000 in
theorem ggX4_family_X0_lowestOfFamily : GoodIn wsX4_family wsX0_lowestOfFamily := goodIn_r _ [19, 20, 21, 22, 18, 23, 24, 25, 26, 27, 28, 29, 30, 31, 32, 33, 34, 35, 36, 37, 38, 46, 47, 48] (by decide +kernel) (by decide +kernel)
set_option maxRecDepth 20000 in
theorem gX4_family_X0_lowestOfFamily : GoodIn wsX4_family (wsV RX4 203 RX0 yX0_lowestOfFamily wsX0_lowestOfFamily) := goodIn_app (goodIn_of _ (by decide +kernel)) ggX4_family_X0_lowestOfFamily
set_option maxRecDepth 20000 in
theorem ggX4_families_X0_countFamilies : GoodIn wsX4_families wsX0_countFamilies := goodIn_r _ [6, 7, 8, 9, 10, 11, 12, 13, 14, 15, 16, 5, 17, 18, 19, 20, 21, 22, 23, 24, 25, 26, 27, 28, 29, 37, 38, 39] (by decide +kernel) (by decide +kernel)
set_option maxRecDepth 20000 in
theorem gX4_families_X0_countFamilies : GoodIn wsX4_families (wsV RX4 198 RX0 yX0_countFamilies wsX0_countFamilies) := goodIn_app (goodIn_of _ (by decide +kernel)) ggX4_families_X0_countFamilies
set_option maxRecDepth 20000 in
theorem ggX4_refuseUnlessWithin_X4_isWithin : GoodIn wsX4_refuseUnlessWithin wsX4_isWithin := goodIn_r _ [6] (by decide +kernel) (by decide +kernel)
set_option maxRecDepth 20000 in
theorem gX4_refuseUnlessWithin_X4_isWithin : GoodIn wsX4_refuseUnlessWithin (va_wsS RX4 54 yX4_isWithin wsX4_isWithin) := goodIn_app (goodIn_of _ (by decide +kernel)) ggX4_refuseUnlessWithin_X4_isWithin
set_option maxRecDepth 20000 in
theorem ggX4_refuseUnlessNote_X4_refuseUnlessWithin : GoodIn wsX4_refuseUnlessNote wsX4_refuseUnlessWithin := goodIn_ca (goodIn_r _ [4, 5, 6, 7, 8, 3, 9] (by decide +kernel) (by decide +kernel)) (goodIn_sub (fun _ h => List.mem_cons_of_mem _ (List.mem_append_right _ h)) (by decide +kernel))
set_option maxRecDepth 20000 in
theorem gX4_refuseUnlessNote_X4_refuseUnlessWithin : GoodIn wsX4_refuseUnlessNote (va_wsS RX4 104 yX4_refuseUnlessWithin wsX4_refuseUnlessWithin) := goodIn_app (goodIn_of _ (by decide +kernel)) ggX4_refuseUnlessNote_X4_refuseUnlessWithin
set_option maxRecDepth 20000 in
theorem ggX4_refuseUnlessRunOfHum_X4_refuseUnlessWithin : GoodIn wsX4_refuseUnlessRunOfHum wsX4_refuseUnlessWithin := goodIn_ca (goodIn_r _ [7, 8, 9, 10, 11, 6, 12] (by decide +kernel) (by decide +kernel)) (goodIn_sub (fun _ h => List.mem_cons_of_mem _ (List.mem_append_right _ h)) (by decide +kernel))
set_option maxRecDepth 20000 in
theorem gX4_refuseUnlessRunOfHum_X4_refuseUnlessWithin : GoodIn wsX4_refuseUnlessRunOfHum (va_wsS RX4 104 yX4_refuseUnlessWithin wsX4_refuseUnlessWithin) := goodIn_app (goodIn_of _ (by decide +kernel)) ggX4_refuseUnlessRunOfHum_X4_refuseUnlessWithin
set_option maxRecDepth 20000 in
theorem ggX4_refuseUnlessRunOfHum_X2_size : GoodIn wsX4_refuseUnlessRunOfHum wsX2_size := goodIn_r _ [17, 18, 26, 27] (by decide +kernel) (by decide +kernel)
set_option maxRecDepth 20000 in
theorem gX4_refuseUnlessRunOfHum_X2_size : GoodIn wsX4_refuseUnlessRunOfHum (wsV RX4 125 RX2 yX2_size wsX2_size) := goodIn_app (goodIn_of _ (by decide +kernel)) ggX4_refuseUnlessRunOfHum_X2_size
set_option maxRecDepth 20000 in
theorem ggX4_refuseUnlessEntered_X4_enteredOrThrow : GoodIn wsX4_refuseUnlessEntered wsX4_enteredOrThrow := goodIn_ca (goodIn_r _ [5, 6, 7, 8, 9, 10, 4, 11, 12, 13, 14, 15, 16, 17, 18, 19, 20] (by decide +kernel) (by decide +kernel)) (goodIn_sub (fun _ h => List.mem_cons_of_mem _ (List.mem_append_right _ h)) (by decide +kernel))
set_option maxRecDepth 20000 in
theorem gX4_refuseUnlessEntered_X4_enteredOrThrow : GoodIn wsX4_refuseUnlessEntered (wsV RX4 117 RX4 yX4_enteredOrThrow wsX4_enteredOrThrow) := goodIn_app (goodIn_of _ (by decide +kernel)) ggX4_refuseUnlessEntered_X4_enteredOrThrow
set_option maxRecDepth 20000 in
theorem ggX4_knownOrNull_X4_enteredOrNull : GoodIn wsX4_knownOrNull wsX4_enteredOrNull := goodIn_r _ [5, 6, 7, 11, 12, 13, 14, 15, 16, 17] (by decide +kernel) (by decide +kernel)
set_option maxRecDepth 20000 in
theorem gX4_knownOrNull_X4_enteredOrNull : GoodIn wsX4_knownOrNull (wsV RX4 210 RX4 yX4_enteredOrNull wsX4_enteredOrNull) := goodIn_app (goodIn_of _ (by decide +kernel)) ggX4_knownOrNull_X4_enteredOrNull
set_option maxRecDepth 20000 in
theorem ggX4_enteredOrThrow_X4_enteredOrNull : GoodIn wsX4_enteredOrThrow wsX4_enteredOrNull := goodIn_r _ [7, 8, 9, 10, 11, 12, 13, 14, 15, 16] (by decide +kernel) (by decide +kernel)
set_option maxRecDepth 20000 in
theorem gX4_enteredOrThrow_X4_enteredOrNull : GoodIn wsX4_enteredOrThrow (wsV RX4 210 RX4 yX4_enteredOrNull wsX4_enteredOrNull) := goodIn_app (goodIn_of _ (by decide +kernel)) ggX4_enteredOrThrow_X4_enteredOrNull
set_option maxRecDepth 20000 in
theorem ggX4_knownOrThrow_X4_knownOrNull : GoodIn wsX4_knownOrThrow wsX4_knownOrNull := goodIn_r _ [7, 8, 9, 10, 6, 11, 12, 13, 14, 15, 16, 17, 18, 19, 20, 21, 22, 23] (by decide +kernel) (by decide +kernel)
set_option maxRecDepth 20000 in
theorem gX4_knownOrThrow_X4_knownOrNull : GoodIn wsX4_knownOrThrow (wsV RX4 114 RX4 yX4_knownOrNull wsX4_knownOrNull) := goodIn_app (goodIn_of _ (by decide +kernel)) ggX4_knownOrThrow_X4_knownOrNull
set_option maxRecDepth 20000 in
theorem ggX4_priceTunes_X2_clear : GoodIn wsX4_priceTunes wsX2_clear := goodIn_r _ [8, 9, 92, 93] (by decide +kernel) (by decide +kernel)
set_option maxRecDepth 20000 in
theorem gX4_priceTunes_X2_clear : GoodIn wsX4_priceTunes (wsV RX4 140 RX2 yX2_clear wsX2_clear) := goodIn_app (goodIn_of _ (by decide +kernel)) ggX4_priceTunes_X2_clear
set_option maxRecDepth 20000 in
theorem ggX4_priceTunes_X4_knownOrNull : GoodIn wsX4_priceTunes wsX4_knownOrNull := goodIn_r _ [14, 15, 16, 17, 13, 18, 2, 19, 94, 95, 96, 85, 86, 87, 88, 89, 90, 91] (by decide +kernel) (by decide +kernel)
set_option maxRecDepth 20000 in
theorem gX4_priceTunes_X4_knownOrNull : GoodIn wsX4_priceTunes (wsV RX4 114 RX4 yX4_knownOrNull wsX4_knownOrNull) := goodIn_app (goodIn_of _ (by decide +kernel)) ggX4_priceTunes_X4_knownOrNull
set_option maxRecDepth 20000 in
theorem ggX4_priceTunes_X1_cheapestByTable : GoodIn wsX4_priceTunes wsX1_cheapestByTable := goodIn_r _ [24, 25, 26, 27, 28, 7, 29, 9, 30, 31, 32, 33, 34, 35, 36, 37, 38, 39, 23, 40, 41, 42, 43, 44, 45, 46, 47, 48, 49, 50, 13, 51, 52, 53, 54, 55, 56, 57, 58, 59, 60, 61, 62, 63, 64, 65, 66, 67, 68, 69, 70, 71, 72, 73, 74, 75, 76, 77, 78, 79, 80, 97, 98, 99, 100, 101, 92, 93, 94, 95, 96] (by decide +kernel) (by decide +kernel)
set_option maxRecDepth 20000 in
theorem gX4_priceTunes_X1_cheapestByTable : GoodIn wsX4_priceTunes (wsV RX4 152 RX1 yX1_cheapestByTable wsX1_cheapestByTable) := goodIn_app (goodIn_of _ (by decide +kernel)) ggX4_priceTunes_X1_cheapestByTable
set_option maxRecDepth 20000 in
theorem ggX4_priceTunes_X2_append : GoodIn wsX4_priceTunes wsX2_append := goodIn_r _ [84, 9, 67, 92, 93] (by decide +kernel) (by decide +kernel)
set_option maxRecDepth 20000 in
theorem gX4_priceTunes_X2_append : GoodIn wsX4_priceTunes (wsV RX4 138 RX2 yX2_append wsX2_append) := goodIn_app (goodIn_of _ (by decide +kernel)) ggX4_priceTunes_X2_append
set_option maxRecDepth 20000 in
theorem ggX4_rankByPrice_X2_at : GoodIn wsX4_rankByPrice wsX2_at := goodIn_r _ [6, 7, 8, 20, 21] (by decide +kernel) (by decide +kernel)
set_option maxRecDepth 20000 in
theorem gX4_rankByPrice_X2_at : GoodIn wsX4_rankByPrice (wsV RX4 94 RX2 yX2_at wsX2_at) := goodIn_app (goodIn_of _ (by decide +kernel)) ggX4_rankByPrice_X2_at
set_option maxRecDepth 20000 in
theorem ggX4_rankByPrice_X2_size : GoodIn wsX4_rankByPrice wsX2_size := goodIn_r _ [12, 7, 20, 21] (by decide +kernel) (by decide +kernel)
set_option maxRecDepth 20000 in
theorem gX4_rankByPrice_X2_size : GoodIn wsX4_rankByPrice (wsV RX4 125 RX2 yX2_size wsX2_size) := goodIn_app (goodIn_of _ (by decide +kernel)) ggX4_rankByPrice_X2_size
set_option maxRecDepth 20000 in
theorem ggX4_collectPlaces_X2_clear : GoodIn wsX4_collectPlaces wsX2_clear := goodIn_r _ [7, 8, 59, 60] (by decide +kernel) (by decide +kernel)
set_option maxRecDepth 20000 in
theorem gX4_collectPlaces_X2_clear : GoodIn wsX4_collectPlaces (wsV RX4 140 RX2 yX2_clear wsX2_clear) := goodIn_app (goodIn_of _ (by decide +kernel)) ggX4_collectPlaces_X2_clear
set_option maxRecDepth 20000 in
theorem ggX4_collectPlaces_X4_knownOrNull : GoodIn wsX4_collectPlaces wsX4_knownOrNull := goodIn_r _ [13, 14, 15, 16, 12, 17, 2, 18, 56, 57, 58, 49, 50, 51, 52, 53, 54, 55] (by decide +kernel) (by decide +kernel)
set_option maxRecDepth 20000 in
theorem gX4_collectPlaces_X4_knownOrNull : GoodIn wsX4_collectPlaces (wsV RX4 114 RX4 yX4_knownOrNull wsX4_knownOrNull) := goodIn_app (goodIn_of _ (by decide +kernel)) ggX4_collectPlaces_X4_knownOrNull
set_option maxRecDepth 20000 in
theorem ggX4_collectPlaces_X4_collectPlacesOf : GoodIn wsX4_collectPlaces wsX4_collectPlacesOf := goodIn_r _ [22, 23, 1, 24, 25, 26, 6, 27, 8, 28, 29, 30, 31, 32, 33, 34, 35, 36, 37, 38, 39, 40, 41, 42, 43, 44, 45, 46, 47, 48, 49, 50, 51, 52, 53, 54, 55, 59, 60] (by decide +kernel) (by decide +kernel)
set_option maxRecDepth 20000 in
theorem gX4_collectPlaces_X4_collectPlacesOf : GoodIn wsX4_collectPlaces (wsV RX4 217 RX4 yX4_collectPlacesOf wsX4_collectPlacesOf) := goodIn_app (goodIn_of _ (by decide +kernel)) ggX4_collectPlaces_X4_collectPlacesOf
set_option maxRecDepth 20000 in
theorem ggX4_collectPlacesOf_X2_size : GoodIn wsX4_collectPlacesOf wsX2_size := goodIn_r _ [7, 8, 37, 38] (by decide +kernel) (by decide +kernel)
set_option maxRecDepth 20000 in
theorem gX4_collectPlacesOf_X2_size : GoodIn wsX4_collectPlacesOf (wsV RX4 125 RX2 yX2_size wsX2_size) := goodIn_app (goodIn_of _ (by decide +kernel)) ggX4_collectPlacesOf_X2_size
set_option maxRecDepth 20000 in
theorem ggX4_collectPlacesOf_X2_stepsInCommon : GoodIn wsX4_collectPlacesOf wsX2_stepsInCommon := goodIn_r _ [12, 8, 13, 14, 15, 16, 17, 18, 19, 6, 20, 21, 22, 23, 24, 25, 37, 38] (by decide +kernel) (by decide +kernel)
set_option maxRecDepth 20000 in
theorem gX4_collectPlacesOf_X2_stepsInCommon : GoodIn wsX4_collectPlacesOf (wsV RX4 126 RX2 yX2_stepsInCommon wsX2_stepsInCommon) := goodIn_app (goodIn_of _ (by decide +kernel)) ggX4_collectPlacesOf_X2_stepsInCommon
set_option maxRecDepth 20000 in
theorem ggX4_collectPlacesOf_X2_append : GoodIn wsX4_collectPlacesOf wsX2_append := goodIn_r _ [29, 8, 25, 37, 38] (by decide +kernel) (by decide +kernel)
set_option maxRecDepth 20000 in
theorem gX4_collectPlacesOf_X2_append : GoodIn wsX4_collectPlacesOf (wsV RX4 138 RX2 yX2_append wsX2_append) := goodIn_app (goodIn_of _ (by decide +kernel)) ggX4_collectPlacesOf_X2_append
end
section
set_option maxRecDepth 20000 in
theorem ggX5_isTune_X5_in : GoodIn wsX5_isTune wsX5_in := goodIn_r _ [5] (by decide +kernel) (by decide +kernel)
set_option maxRecDepth 20000 in
theorem gX5_isTune_X5_in : GoodIn wsX5_isTune (va_wsS RX5 48 yX5_in wsX5_in) := goodIn_app (goodIn_of _ (by decide +kernel)) ggX5_isTune_X5_in
set_option maxRecDepth 20000 in
theorem ggX5_isKnown_X5_isTune : GoodIn wsX5_isKnown wsX5_isTune := goodIn_r _ [6, 7, 8, 9, 5, 10, 11, 12, 13, 14, 15, 16, 17, 18, 19, 20, 21, 22, 23] (by decide +kernel) (by decide +kernel)
set_option maxRecDepth 20000 in
theorem gX5_isKnown_X5_isTune : GoodIn wsX5_isKnown (wsV RX5 52 RX5 yX5_isTune wsX5_isTune) := goodIn_app (goodIn_of _ (by decide +kernel)) ggX5_isKnown_X5_isTune
set_option maxRecDepth 20000 in
theorem ggX5_isNote_X5_in : GoodIn wsX5_isNote wsX5_in := goodIn_r _ [4] (by decide +kernel) (by decide +kernel)
set_option maxRecDepth 20000 in
theorem gX5_isNote_X5_in : GoodIn wsX5_isNote (va_wsS RX5 48 yX5_in wsX5_in) := goodIn_app (goodIn_of _ (by decide +kernel)) ggX5_isNote_X5_in
set_option maxRecDepth 20000 in
theorem ggX5_add_X5_isNote : GoodIn wsX5_add wsX5_isNote := goodIn_r _ [6, 7, 8, 5, 9] (by decide +kernel) (by decide +kernel)
set_option maxRecDepth 20000 in
theorem gX5_add_X5_isNote : GoodIn wsX5_add (va_wsS RX5 56 yX5_isNote wsX5_isNote) := goodIn_app (goodIn_of _ (by decide +kernel)) ggX5_add_X5_isNote
set_option maxRecDepth 20000 in
theorem ggX5_add_X5_holds : GoodIn wsX5_add wsX5_holds := goodIn_r _ [13, 14, 21, 22, 23, 24, 25, 26, 27, 28, 29, 30, 31, 32, 33] (by decide +kernel) (by decide +kernel)
set_option maxRecDepth 20000 in
theorem gX5_add_X5_holds : GoodIn wsX5_add (wsV RX5 60 RX5 yX5_holds wsX5_holds) := goodIn_app (goodIn_of _ (by decide +kernel)) ggX5_add_X5_holds
set_option maxRecDepth 20000 in
theorem ggX5_add_X5_sets : GoodIn wsX5_add wsX5_sets := goodIn_r _ [18, 19, 20, 21, 22, 23, 24, 25, 26, 27, 28, 29, 30, 31, 32, 33] (by decide +kernel) (by decide +kernel)
set_option maxRecDepth 20000 in
theorem gX5_add_X5_sets : GoodIn wsX5_add (wsV RX5 63 RX5 yX5_sets wsX5_sets) := goodIn_app (goodIn_of _ (by decide +kernel)) ggX5_add_X5_sets
set_option maxRecDepth 20000 in
theorem ggX5_note_X5_isKnown : GoodIn wsX5_note wsX5_isKnown := goodIn_r _ [6, 7, 8, 9, 10, 5, 11, 12, 13, 14, 15, 30, 31, 32, 33, 34, 35, 36, 37, 38, 39, 40, 41, 42] (by decide +kernel) (by decide +kernel)
set_option maxRecDepth 20000 in
theorem gX5_note_X5_isKnown : GoodIn wsX5_note (wsV RX5 67 RX5 yX5_isKnown wsX5_isKnown) := goodIn_app (goodIn_of _ (by decide +kernel)) ggX5_note_X5_isKnown
set_option maxRecDepth 20000 in
theorem ggX5_note_X5_isNote : GoodIn wsX5_note wsX5_isNote := goodIn_r _ [18, 13, 14, 5, 15] (by decide +kernel) (by decide +kernel)
set_option maxRecDepth 20000 in
theorem gX5_note_X5_isNote : GoodIn wsX5_note (va_wsS RX5 56 yX5_isNote wsX5_isNote) := goodIn_app (goodIn_of _ (by decide +kernel)) ggX5_note_X5_isNote
set_option maxRecDepth 20000 in
theorem ggX5_note_X5_holds : GoodIn wsX5_note wsX5_holds := goodIn_r _ [22, 23, 30, 31, 32, 33, 34, 35, 36, 37, 38, 39, 40, 41, 42] (by decide +kernel) (by decide +kernel)
set_option maxRecDepth 20000 in
theorem gX5_note_X5_holds : GoodIn wsX5_note (wsV RX5 60 RX5 yX5_holds wsX5_holds) := goodIn_app (goodIn_of _ (by decide +kernel)) ggX5_note_X5_holds
set_option maxRecDepth 20000 in
theorem ggX5_note_X5_sets : GoodIn wsX5_note wsX5_sets := goodIn_r _ [27, 28, 29, 30, 31, 32, 33, 34, 35, 36, 37, 38, 39, 40, 41, 42] (by decide +kernel) (by decide +kernel)
set_option maxRecDepth 20000 in
theorem gX5_note_X5_sets : GoodIn wsX5_note (wsV RX5 63 RX5 yX5_sets wsX5_sets) := goodIn_app (goodIn_of _ (by decide +kernel)) ggX5_note_X5_sets
set_option maxRecDepth 20000 in
theorem ggX5_correct_X5_isKnown : GoodIn wsX5_correct wsX5_isKnown := goodIn_r _ [7, 8, 9, 10, 11, 6, 12, 13, 14, 15, 16, 30, 31, 32, 33, 34, 35, 36, 37, 38, 39, 40, 41, 42] (by decide +kernel) (by decide +kernel)
set_option maxRecDepth 20000 in
theorem gX5_correct_X5_isKnown : GoodIn wsX5_correct (wsV RX5 67 RX5 yX5_isKnown wsX5_isKnown) := goodIn_app (goodIn_of _ (by decide +kernel)) ggX5_correct_X5_isKnown
set_option maxRecDepth 20000 in
theorem ggX5_correct_X5_in : GoodIn wsX5_correct wsX5_in := goodIn_r _ [16] (by decide +kernel) (by decide +kernel)
set_option maxRecDepth 20000 in
theorem gX5_correct_X5_in : GoodIn wsX5_correct (va_wsS RX5 48 yX5_in wsX5_in) := goodIn_app (goodIn_of _ (by decide +kernel)) ggX5_correct_X5_in
set_option maxRecDepth 20000 in
theorem ggX5_correct_X5_isNote : GoodIn wsX5_correct wsX5_isNote := goodIn_r _ [19, 14, 15, 6, 16] (by decide +kernel) (by decide +kernel)
set_option maxRecDepth 20000 in
theorem gX5_correct_X5_isNote : GoodIn wsX5_correct (va_wsS RX5 56 yX5_isNote wsX5_isNote) := goodIn_app (goodIn_of _ (by decide +kernel)) ggX5_correct_X5_isNote
set_option maxRecDepth 20000 in
theorem ggX5_correct_X5_holds : GoodIn wsX5_correct wsX5_holds := goodIn_r _ [23, 24, 30, 31, 32, 33, 34, 35, 36, 37, 38, 39, 40, 41, 42] (by decide +kernel) (by decide +kernel)
set_option maxRecDepth 20000 in
theorem gX5_correct_X5_holds : GoodIn wsX5_correct (wsV RX5 60 RX5 yX5_holds wsX5_holds) := goodIn_app (goodIn_of _ (by decide +kernel)) ggX5_correct_X5_holds
set_option maxRecDepth 20000 in
theorem ggX5_correct_X5_sets : GoodIn wsX5_correct wsX5_sets := goodIn_r _ [28, 2, 29, 30, 31, 32, 33, 34, 35, 36, 37, 38, 39, 40, 41, 42] (by decide +kernel) (by decide +kernel)
set_option maxRecDepth 20000 in
theorem gX5_correct_X5_sets : GoodIn wsX5_correct (wsV RX5 63 RX5 yX5_sets wsX5_sets) := goodIn_app (goodIn_of _ (by decide +kernel)) ggX5_correct_X5_sets
set_option maxRecDepth 20000 in
theorem ggX5_mayShift_X5_in : GoodIn wsX5_mayShift wsX5_in := goodIn_r _ [6] (by decide +kernel) (by decide +kernel)
set_option maxRecDepth 20000 in
theorem gX5_mayShift_X5_in : GoodIn wsX5_mayShift (va_wsS RX5 48 yX5_in wsX5_in) := goodIn_app (goodIn_of _ (by decide +kernel)) ggX5_mayShift_X5_in
set_option maxRecDepth 20000 in
theorem ggX5_shift_X5_isKnown : GoodIn wsX5_shift wsX5_isKnown := goodIn_r _ [7, 8, 9, 10, 11, 6, 12, 13, 14, 15, 16, 26, 27, 28, 29, 30, 31, 32, 33, 34, 35, 36, 37, 38] (by decide +kernel) (by decide +kernel)
set_option maxRecDepth 20000 in
theorem gX5_shift_X5_isKnown : GoodIn wsX5_shift (wsV RX5 67 RX5 yX5_isKnown wsX5_isKnown) := goodIn_app (goodIn_of _ (by decide +kernel)) ggX5_shift_X5_isKnown
set_option maxRecDepth 20000 in
theorem ggX5_shift_X5_in : GoodIn wsX5_shift wsX5_in := goodIn_r _ [16] (by decide +kernel) (by decide +kernel)
set_option maxRecDepth 20000 in
theorem gX5_shift_X5_in : GoodIn wsX5_shift (va_wsS RX5 48 yX5_in wsX5_in) := goodIn_app (goodIn_of _ (by decide +kernel)) ggX5_shift_X5_in
set_option maxRecDepth 20000 in
theorem ggX5_shift_X5_mayShift : GoodIn wsX5_shift wsX5_mayShift := goodIn_r _ [20, 1, 2, 14, 15, 6, 16, 26, 27, 28, 29, 30, 31, 32, 33, 34, 35, 36, 37, 38] (by decide +kernel) (by decide +kernel)
set_option maxRecDepth 20000 in
theorem gX5_shift_X5_mayShift : GoodIn wsX5_shift (wsV RX5 70 RX5 yX5_mayShift wsX5_mayShift) := goodIn_app (goodIn_of _ (by decide +kernel)) ggX5_shift_X5_mayShift
set_option maxRecDepth 20000 in
theorem ggX5_shift_X5_holds : GoodIn wsX5_shift wsX5_holds := goodIn_r _ [24, 25, 26, 27, 28, 29, 30, 31, 32, 33, 34, 35, 36, 37, 38] (by decide +kernel) (by decide +kernel)
set_option maxRecDepth 20000 in
theorem gX5_shift_X5_holds : GoodIn wsX5_shift (wsV RX5 60 RX5 yX5_holds wsX5_holds) := goodIn_app (goodIn_of _ (by decide +kernel)) ggX5_shift_X5_holds
set_option maxRecDepth 20000 in
theorem ggX5_retire_X5_isKnown : GoodIn wsX5_retire wsX5_isKnown := goodIn_r _ [7, 1, 8, 9, 10, 6, 11, 2, 12, 13, 14, 20, 21, 22, 23, 24, 25, 26, 27, 28, 29, 30, 31, 32] (by decide +kernel) (by decide +kernel)
set_option maxRecDepth 20000 in
theorem gX5_retire_X5_isKnown : GoodIn wsX5_retire (wsV RX5 67 RX5 yX5_isKnown wsX5_isKnown) := goodIn_app (goodIn_of _ (by decide +kernel)) ggX5_retire_X5_isKnown
set_option maxRecDepth 20000 in
theorem ggX5_retire_X5_holds : GoodIn wsX5_retire wsX5_holds := goodIn_r _ [18, 19, 20, 21, 22, 23, 24, 25, 26, 27, 28, 29, 30, 31, 32] (by decide +kernel) (by decide +kernel)
set_option maxRecDepth 20000 in
theorem gX5_retire_X5_holds : GoodIn wsX5_retire (wsV RX5 60 RX5 yX5_holds wsX5_holds) := goodIn_app (goodIn_of _ (by decide +kernel)) ggX5_retire_X5_holds
set_option maxRecDepth 20000 in
theorem ggX5_notes_X5_isTune : GoodIn wsX5_notes wsX5_isTune := goodIn_r _ [6, 7, 8, 9, 5, 10, 16, 17, 18, 19, 20, 21, 22, 23, 24, 25, 26, 27, 28] (by decide +kernel) (by decide +kernel)
set_option maxRecDepth 20000 in
theorem gX5_notes_X5_isTune : GoodIn wsX5_notes (wsV RX5 52 RX5 yX5_isTune wsX5_isTune) := goodIn_app (goodIn_of _ (by decide +kernel)) ggX5_notes_X5_isTune
set_option maxRecDepth 20000 in
theorem ggX5_notes_X5_holds : GoodIn wsX5_notes wsX5_holds := goodIn_r _ [14, 15, 16, 17, 18, 19, 20, 21, 22, 23, 24, 25, 26, 27, 28] (by decide +kernel) (by decide +kernel)
set_option maxRecDepth 20000 in
theorem gX5_notes_X5_holds : GoodIn wsX5_notes (wsV RX5 60 RX5 yX5_holds wsX5_holds) := goodIn_app (goodIn_of _ (by decide +kernel)) ggX5_notes_X5_holds
set_option maxRecDepth 20000 in
theorem ggX5_step_X5_isTune : GoodIn wsX5_step wsX5_isTune := goodIn_r _ [6, 7, 8, 9, 5, 10, 21, 22, 23, 24, 25, 26, 27, 28, 29, 30, 31, 32, 33] (by decide +kernel) (by decide +kernel)
set_option maxRecDepth 20000 in
theorem gX5_step_X5_isTune : GoodIn wsX5_step (wsV RX5 52 RX5 yX5_isTune wsX5_isTune) := goodIn_app (goodIn_of _ (by decide +kernel)) ggX5_step_X5_isTune
set_option maxRecDepth 20000 in
theorem ggX5_step_X5_in : GoodIn wsX5_step wsX5_in := goodIn_r _ [10] (by decide +kernel) (by decide +kernel)
set_option maxRecDepth 20000 in
theorem gX5_step_X5_in : GoodIn wsX5_step (va_wsS RX5 48 yX5_in wsX5_in) := goodIn_app (goodIn_of _ (by decide +kernel)) ggX5_step_X5_in
set_option maxRecDepth 20000 in
theorem ggX5_step_X5_holds : GoodIn wsX5_step wsX5_holds := goodIn_r _ [14, 15, 21, 22, 23, 24, 25, 26, 27, 28, 29, 30, 31, 32, 33] (by decide +kernel) (by decide +kernel)
set_option maxRecDepth 20000 in
theorem gX5_step_X5_holds : GoodIn wsX5_step (wsV RX5 60 RX5 yX5_holds wsX5_holds) := goodIn_app (goodIn_of _ (by decide +kernel)) ggX5_step_X5_holds
set_option maxRecDepth 20000 in
theorem ggX5_step_X5_stepOf : GoodIn wsX5_step wsX5_stepOf := goodIn_r _ [19, 20, 21, 22, 23, 24, 25, 26, 27, 28, 29, 30, 31, 32, 33] (by decide +kernel) (by decide +kernel)
set_option maxRecDepth 20000 in
theorem gX5_step_X5_stepOf : GoodIn wsX5_step (wsV RX5 73 RX5 yX5_stepOf wsX5_stepOf) := goodIn_app (goodIn_of _ (by decide +kernel)) ggX5_step_X5_stepOf
set_option maxRecDepth 20000 in
theorem ggX5_alike_X5_stepOf : GoodIn wsX5_alike wsX5_stepOf := goodIn_r _ [6, 7, 8, 9, 10, 11, 12, 13, 14, 15, 16, 17, 18, 19, 20] (by decide +kernel) (by decide +kernel)
set_option maxRecDepth 20000 in
theorem gX5_alike_X5_stepOf : GoodIn wsX5_alike (wsV RX5 73 RX5 yX5_stepOf wsX5_stepOf) := goodIn_app (goodIn_of _ (by decide +kernel)) ggX5_alike_X5_stepOf
set_option maxRecDepth 20000 in
theorem ggX5_shared_X5_isTune : GoodIn wsX5_shared wsX5_isTune := goodIn_r _ [5, 6, 7, 8, 4, 9, 25, 26, 27, 28, 29, 30, 31, 32, 33, 34, 35, 36, 37] (by decide +kernel) (by decide +kernel)
set_option maxRecDepth 20000 in
theorem gX5_shared_X5_isTune : GoodIn wsX5_shared (wsV RX5 52 RX5 yX5_isTune wsX5_isTune) := goodIn_app (goodIn_of _ (by decide +kernel)) ggX5_shared_X5_isTune
set_option maxRecDepth 20000 in
theorem ggX5_shared_X5_holds : GoodIn wsX5_shared wsX5_holds := goodIn_r _ [13, 14, 25, 26, 27, 28, 29, 30, 31, 32, 33, 34, 35, 36, 37] (by decide +kernel) (by decide +kernel)
set_option maxRecDepth 20000 in
theorem gX5_shared_X5_holds : GoodIn wsX5_shared (wsV RX5 60 RX5 yX5_holds wsX5_holds) := goodIn_app (goodIn_of _ (by decide +kernel)) ggX5_shared_X5_holds
set_option maxRecDepth 20000 in
theorem ggX5_shared_X5_alike : GoodIn wsX5_shared wsX5_alike := goodIn_r _ [18, 19, 20, 21, 22, 4, 23, 24, 25, 26, 27, 28, 29, 30, 31, 32, 33, 34, 35, 36, 37] (by decide +kernel) (by decide +kernel)
set_option maxRecDepth 20000 in
theorem gX5_shared_X5_alike : GoodIn wsX5_shared (wsV RX5 77 RX5 yX5_alike wsX5_alike) := goodIn_app (goodIn_of _ (by decide +kernel)) ggX5_shared_X5_alike
set_option maxRecDepth 20000 in
theorem ggX5_hum_X5_in : GoodIn wsX5_hum wsX5_in := goodIn_r _ [6] (by decide +kernel) (by decide +kernel)
set_option maxRecDepth 20000 in
theorem gX5_hum_X5_in : GoodIn wsX5_hum (va_wsS RX5 48 yX5_in wsX5_in) := goodIn_app (goodIn_of _ (by decide +kernel)) ggX5_hum_X5_in
set_option maxRecDepth 20000 in
theorem ggX5_hum_X5_holds : GoodIn wsX5_hum wsX5_holds := goodIn_r _ [10, 11, 12, 13, 14, 15, 16, 17, 18, 19, 20, 21, 22, 23, 24] (by decide +kernel) (by decide +kernel)
set_option maxRecDepth 20000 in
theorem gX5_hum_X5_holds : GoodIn wsX5_hum (wsV RX5 60 RX5 yX5_holds wsX5_holds) := goodIn_app (goodIn_of _ (by decide +kernel)) ggX5_hum_X5_holds
set_option maxRecDepth 20000 in
theorem ggX5_setCosts_X5_in : GoodIn wsX5_setCosts wsX5_in := goodIn_r _ [7] (by decide +kernel) (by decide +kernel)
set_option maxRecDepth 20000 in
theorem gX5_setCosts_X5_in : GoodIn wsX5_setCosts (va_wsS RX5 48 yX5_in wsX5_in) := goodIn_app (goodIn_of _ (by decide +kernel)) ggX5_setCosts_X5_in
set_option maxRecDepth 20000 in
theorem ggX5_setCosts_X5_holds : GoodIn wsX5_setCosts wsX5_holds := goodIn_r _ [11, 12, 13, 14, 15, 16, 17, 18, 19, 20, 21, 22, 23, 24, 25] (by decide +kernel) (by decide +kernel)
set_option maxRecDepth 20000 in
theorem gX5_setCosts_X5_holds : GoodIn wsX5_setCosts (wsV RX5 60 RX5 yX5_holds wsX5_holds) := goodIn_app (goodIn_of _ (by decide +kernel)) ggX5_setCosts_X5_holds
set_option maxRecDepth 20000 in
theorem ggX5_laid_X5_costOfNotes : GoodIn wsX5_laid wsX5_costOfNotes := goodIn_r _ [10, 11, 12, 18, 19, 20, 21, 22, 23, 24, 25, 26, 27, 28, 29, 30] (by decide +kernel) (by decide +kernel)
set_option maxRecDepth 20000 in
theorem gX5_laid_X5_costOfNotes : GoodIn wsX5_laid (wsV RX5 85 RX5 yX5_costOfNotes wsX5_costOfNotes) := goodIn_app (goodIn_of _ (by decide +kernel)) ggX5_laid_X5_costOfNotes
set_option maxRecDepth 20000 in
theorem ggX5_laid_X5_costOfPitches : GoodIn wsX5_laid wsX5_costOfPitches := goodIn_r _ [16, 4, 17, 18, 19, 20, 21, 22, 23, 24, 25, 26, 27, 28, 29, 30] (by decide +kernel) (by decide +kernel)
set_option maxRecDepth 20000 in
theorem gX5_laid_X5_costOfPitches : GoodIn wsX5_laid (wsV RX5 89 RX5 yX5_costOfPitches wsX5_costOfPitches) := goodIn_app (goodIn_of _ (by decide +kernel)) ggX5_laid_X5_costOfPitches
set_option maxRecDepth 20000 in
theorem ggX5_costOf_X5_laid : GoodIn wsX5_costOf wsX5_laid := goodIn_r _ [9, 3, 1, 10, 11, 12, 13, 14, 15, 8, 16, 17, 18, 19, 20, 21, 22, 23, 27, 28, 29, 30, 31, 32, 33, 34, 35, 36, 37, 38, 39] (by decide +kernel) (by decide +kernel)
set_option maxRecDepth 20000 in
theorem gX5_costOf_X5_laid : GoodIn wsX5_costOf (wsV RX5 92 RX5 yX5_laid wsX5_laid) := goodIn_app (goodIn_of _ (by decide +kernel)) ggX5_costOf_X5_laid
set_option maxRecDepth 20000 in
theorem ggX5_costOf_X5_least : GoodIn wsX5_costOf wsX5_least := goodIn_r _ [26] (by decide +kernel) (by decide +kernel)
set_option maxRecDepth 20000 in
theorem gX5_costOf_X5_least : GoodIn wsX5_costOf (va_wsS RX5 96 yX5_least wsX5_least) := goodIn_app (goodIn_of _ (by decide +kernel)) ggX5_costOf_X5_least
set_option maxRecDepth 20000 in
theorem ggX5_cost_X5_isKnown : GoodIn wsX5_cost wsX5_isKnown := goodIn_r _ [5, 6, 7, 8, 9, 4, 10, 11, 12, 13, 14, 49, 50, 51, 52, 53, 54, 55, 56, 57, 58, 59, 60, 61] (by decide +kernel) (by decide +kernel)
set_option maxRecDepth 20000 in
theorem gX5_cost_X5_isKnown : GoodIn wsX5_cost (wsV RX5 67 RX5 yX5_isKnown wsX5_isKnown) := goodIn_app (goodIn_of _ (by decide +kernel)) ggX5_cost_X5_isKnown
set_option maxRecDepth 20000 in
theorem ggX5_cost_X5_holds : GoodIn wsX5_cost wsX5_holds := goodIn_r _ [18, 19, 49, 50, 51, 52, 53, 54, 55, 56, 57, 58, 59, 60, 61] (by decide +kernel) (by decide +kernel)
set_option maxRecDepth 20000 in
theorem gX5_cost_X5_holds : GoodIn wsX5_cost (wsV RX5 60 RX5 yX5_holds wsX5_holds) := goodIn_app (goodIn_of _ (by decide +kernel)) ggX5_cost_X5_holds
set_option maxRecDepth 20000 in
theorem ggX5_cost_X5_costOf : GoodIn wsX5_cost wsX5_costOf := goodIn_r _ [23, 24, 25, 26, 27, 28, 29, 30, 4, 31, 32, 33, 34, 35, 36, 37, 38, 39, 40, 41, 42, 43, 44, 45, 46, 47, 48, 49, 50, 51, 52, 53, 54, 55, 56, 57, 58, 59, 60, 61] (by decide +kernel) (by decide +kernel)
set_option maxRecDepth 20000 in
theorem gX5_cost_X5_costOf : GoodIn wsX5_cost (wsV RX5 99 RX5 yX5_costOf wsX5_costOf) := goodIn_app (goodIn_of _ (by decide +kernel)) ggX5_cost_X5_costOf
set_option maxRecDepth 20000 in
theorem ggX5_costByAll_X5_isKnown : GoodIn wsX5_costByAll wsX5_isKnown := goodIn_r _ [6, 7, 8, 9, 10, 5, 11, 12, 13, 14, 15, 49, 50, 51, 52, 53, 54, 55, 56, 57, 58, 59, 60, 61] (by decide +kernel) (by decide +kernel)
set_option maxRecDepth 20000 in
theorem gX5_costByAll_X5_isKnown : GoodIn wsX5_costByAll (wsV RX5 67 RX5 yX5_isKnown wsX5_isKnown) := goodIn_app (goodIn_of _ (by decide +kernel)) ggX5_costByAll_X5_isKnown
set_option maxRecDepth 20000 in
theorem ggX5_costByAll_X5_holds : GoodIn wsX5_costByAll wsX5_holds := goodIn_r _ [19, 20, 49, 50, 51, 52, 53, 54, 55, 56, 57, 58, 59, 60, 61] (by decide +kernel) (by decide +kernel)
set_option maxRecDepth 20000 in
theorem gX5_costByAll_X5_holds : GoodIn wsX5_costByAll (wsV RX5 60 RX5 yX5_holds wsX5_holds) := goodIn_app (goodIn_of _ (by decide +kernel)) ggX5_costByAll_X5_holds
set_option maxRecDepth 20000 in
theorem ggX5_costByAll_X5_costOf : GoodIn wsX5_costByAll wsX5_costOf := goodIn_r _ [24, 25, 1, 26, 27, 28, 29, 30, 5, 31, 32, 33, 34, 35, 36, 37, 38, 39, 40, 41, 42, 43, 44, 45, 46, 47, 48, 49, 50, 51, 52, 53, 54, 55, 56, 57, 58, 59, 60, 61] (by decide +kernel) (by decide +kernel)
set_option maxRecDepth 20000 in
theorem gX5_costByAll_X5_costOf : GoodIn wsX5_costByAll (wsV RX5 99 RX5 yX5_costOf wsX5_costOf) := goodIn_app (goodIn_of _ (by decide +kernel)) ggX5_costByAll_X5_costOf
set_option maxRecDepth 20000 in
theorem ggX5_many_X5_isKnown : GoodIn wsX5_many wsX5_isKnown := goodIn_r _ [6, 7, 8, 9, 10, 5, 11, 1, 12, 13, 14, 44, 45, 46, 47, 48, 49, 50, 51, 52, 53, 54, 55, 56] (by decide +kernel) (by decide +kernel)
set_option maxRecDepth 20000 in
theorem gX5_many_X5_isKnown : GoodIn wsX5_many (wsV RX5 67 RX5 yX5_isKnown wsX5_isKnown) := goodIn_app (goodIn_of _ (by decide +kernel)) ggX5_many_X5_isKnown
set_option maxRecDepth 20000 in
theorem ggX5_many_X5_costOf : GoodIn wsX5_many wsX5_costOf := goodIn_r _ [18, 19, 20, 21, 22, 23, 24, 25, 5, 26, 27, 28, 29, 30, 31, 32, 33, 34, 35, 36, 37, 38, 39, 40, 41, 42, 43, 44, 45, 46, 47, 48, 49, 50, 51, 52, 53, 54, 55, 56] (by decide +kernel) (by decide +kernel)
set_option maxRecDepth 20000 in
theorem gX5_many_X5_costOf : GoodIn wsX5_many (wsV RX5 99 RX5 yX5_costOf wsX5_costOf) := goodIn_app (goodIn_of _ (by decide +kernel)) ggX5_many_X5_costOf
set_option maxRecDepth 20000 in
theorem ggX5_matches_X5_many : GoodIn wsX5_matches wsX5_many := goodIn_r _ [6, 7, 8, 9, 10, 5, 11, 12, 13, 14, 15, 16, 17, 18, 19, 20, 21, 22, 23, 24, 25, 26, 27, 28, 29, 30, 31, 32, 33, 34, 35, 36, 37, 38, 39, 40, 41, 42, 43, 44, 45, 46, 47, 48, 49, 50, 51, 52, 53, 54, 55, 56, 57, 58, 59, 60, 61] (by decide +kernel) (by decide +kernel)
set_option maxRecDepth 20000 in
theorem gX5_matches_X5_many : GoodIn wsX5_matches (wsV RX5 103 RX5 yX5_many wsX5_many) := goodIn_app (goodIn_of _ (by decide +kernel)) ggX5_matches_X5_many
set_option maxRecDepth 20000 in
theorem ggX5_rank_X5_costOf : GoodIn wsX5_rank wsX5_costOf := goodIn_r _ [6, 7, 8, 9, 10, 11, 12, 13, 5, 14, 15, 16, 17, 18, 19, 20, 21, 22, 23, 24, 25, 26, 27, 28, 29, 30, 31, 44, 45, 46, 47, 48, 49, 50, 51, 52, 53, 54, 55, 56] (by decide +kernel) (by decide +kernel)
set_option maxRecDepth 20000 in
theorem gX5_rank_X5_costOf : GoodIn wsX5_rank (wsV RX5 99 RX5 yX5_costOf wsX5_costOf) := goodIn_app (goodIn_of _ (by decide +kernel)) ggX5_rank_X5_costOf
set_option maxRecDepth 20000 in
theorem ggX5_rank_X5_isKnown : GoodIn wsX5_rank wsX5_isKnown := goodIn_r _ [35, 36, 37, 38, 39, 5, 40, 1, 41, 42, 43, 44, 45, 46, 47, 48, 49, 50, 51, 52, 53, 54, 55, 56] (by decide +kernel) (by decide +kernel)
set_option maxRecDepth 20000 in
theorem gX5_rank_X5_isKnown : GoodIn wsX5_rank (wsV RX5 67 RX5 yX5_isKnown wsX5_isKnown) := goodIn_app (goodIn_of _ (by decide +kernel)) ggX5_rank_X5_isKnown
set_option maxRecDepth 20000 in
theorem ggX5_found_X5_many : GoodIn wsX5_found wsX5_many := goodIn_r _ [5, 6, 7, 8, 9, 4, 10, 11, 12, 13, 14, 15, 16, 17, 18, 19, 20, 21, 22, 23, 24, 25, 26, 27, 28, 29, 30, 31, 32, 33, 34, 35, 36, 37, 38, 39, 40, 41, 42, 43, 44, 45, 46, 47, 57, 58, 59, 60, 61, 62, 63, 64, 65, 66, 67, 68, 69] (by decide +kernel) (by decide +kernel)
set_option maxRecDepth 20000 in
theorem gX5_found_X5_many : GoodIn wsX5_found (wsV RX5 103 RX5 yX5_many wsX5_many) := goodIn_app (goodIn_of _ (by decide +kernel)) ggX5_found_X5_many
set_option maxRecDepth 20000 in
theorem ggX5_found_X5_in : GoodIn wsX5_found wsX5_in := goodIn_r _ [18] (by decide +kernel) (by decide +kernel)
set_option maxRecDepth 20000 in
theorem gX5_found_X5_in : GoodIn wsX5_found (va_wsS RX5 48 yX5_in wsX5_in) := goodIn_app (goodIn_of _ (by decide +kernel)) ggX5_found_X5_in
set_option maxRecDepth 20000 in
theorem ggX5_found_X5_holds : GoodIn wsX5_found wsX5_holds := goodIn_r _ [51, 52, 57, 58, 59, 60, 61, 62, 63, 64, 65, 66, 67, 68, 69] (by decide +kernel) (by decide +kernel)
set_option maxRecDepth 20000 in
theorem gX5_found_X5_holds : GoodIn wsX5_found (wsV RX5 60 RX5 yX5_holds wsX5_holds) := goodIn_app (goodIn_of _ (by decide +kernel)) ggX5_found_X5_holds
set_option maxRecDepth 20000 in
theorem ggX5_found_X5_isKnown : GoodIn wsX5_found wsX5_isKnown := goodIn_r _ [10, 11, 12, 13, 14, 4, 15, 6, 16, 17, 18, 57, 58, 59, 60, 61, 62, 63, 64, 65, 66, 67, 68, 69] (by decide +kernel) (by decide +kernel)
set_option maxRecDepth 20000 in
theorem gX5_found_X5_isKnown : GoodIn wsX5_found (wsV RX5 67 RX5 yX5_isKnown wsX5_isKnown) := goodIn_app (goodIn_of _ (by decide +kernel)) ggX5_found_X5_isKnown
set_option maxRecDepth 20000 in
theorem ggX5_found_X5_costOf : GoodIn wsX5_found wsX5_costOf := goodIn_r _ [22, 23, 24, 25, 26, 27, 28, 29, 4, 30, 31, 32, 33, 34, 35, 36, 37, 38, 39, 40, 41, 42, 43, 44, 45, 46, 47, 57, 58, 59, 60, 61, 62, 63, 64, 65, 66, 67, 68, 69] (by decide +kernel) (by decide +kernel)
set_option maxRecDepth 20000 in
theorem gX5_found_X5_costOf : GoodIn wsX5_found (wsV RX5 99 RX5 yX5_costOf wsX5_costOf) := goodIn_app (goodIn_of _ (by decide +kernel)) ggX5_found_X5_costOf
set_option maxRecDepth 20000 in
theorem ggX5_found_X5_rank : GoodIn wsX5_found wsX5_rank := goodIn_r _ [56, 6, 19, 20, 21, 4, 22, 23, 24, 25, 26, 27, 28, 29, 30, 31, 32, 33, 34, 35, 36, 37, 38, 39, 40, 41, 42, 43, 44, 45, 46, 47, 7, 8, 9, 10, 11, 12, 13, 14, 15, 16, 17, 18, 57, 58, 59, 60, 61, 62, 63, 64, 65, 66, 67, 68, 69] (by decide +kernel) (by decide +kernel)
set_option maxRecDepth 20000 in
theorem gX5_found_X5_rank : GoodIn wsX5_found (wsV RX5 107 RX5 yX5_rank wsX5_rank) := goodIn_app (goodIn_of _ (by decide +kernel)) ggX5_found_X5_rank
set_option maxRecDepth 20000 in
theorem ggX5_isLike_X5_stepOf : GoodIn wsX5_isLike wsX5_stepOf := goodIn_r _ [8, 9, 13, 14, 15, 16, 17, 18, 19, 20, 21, 22, 23, 24, 25] (by decide +kernel) (by decide +kernel)
set_option maxRecDepth 20000 in
theorem gX5_isLike_X5_stepOf : GoodIn wsX5_isLike (wsV RX5 73 RX5 yX5_stepOf wsX5_stepOf) := goodIn_app (goodIn_of _ (by decide +kernel)) ggX5_isLike_X5_stepOf
set_option maxRecDepth 20000 in
theorem ggX5_isLike_X5_sign : GoodIn wsX5_isLike wsX5_sign := goodIn_r _ [12] (by decide +kernel) (by decide +kernel)
set_option maxRecDepth 20000 in
theorem gX5_isLike_X5_sign : GoodIn wsX5_isLike (va_wsS RX5 110 yX5_sign wsX5_sign) := goodIn_app (goodIn_of _ (by decide +kernel)) ggX5_isLike_X5_sign
set_option maxRecDepth 20000 in
theorem ggX5_likeContour_X5_isKnown : GoodIn wsX5_likeContour wsX5_isKnown := goodIn_r _ [7, 8, 9, 10, 11, 6, 12, 2, 13, 14, 15, 31, 32, 33, 34, 35, 36, 37, 38, 39, 40, 41, 42, 43] (by decide +kernel) (by decide +kernel)
set_option maxRecDepth 20000 in
theorem gX5_likeContour_X5_isKnown : GoodIn wsX5_likeContour (wsV RX5 67 RX5 yX5_isKnown wsX5_isKnown) := goodIn_app (goodIn_of _ (by decide +kernel)) ggX5_likeContour_X5_isKnown
set_option maxRecDepth 20000 in
theorem ggX5_likeContour_X5_isLike : GoodIn wsX5_likeContour wsX5_isLike := goodIn_r _ [19, 20, 21, 22, 23, 24, 25, 6, 26, 27, 28, 29, 30, 31, 32, 33, 34, 35, 36, 37, 38, 39, 40, 41, 42, 43] (by decide +kernel) (by decide +kernel)
set_option maxRecDepth 20000 in
theorem gX5_likeContour_X5_isLike : GoodIn wsX5_likeContour (wsV RX5 113 RX5 yX5_isLike wsX5_isLike) := goodIn_app (goodIn_of _ (by decide +kernel)) ggX5_likeContour_X5_isLike
set_option maxRecDepth 20000 in
theorem ggX5_isRun_X5_stepOf : GoodIn wsX5_isRun wsX5_stepOf := goodIn_r _ [9, 10, 11, 12, 13, 14, 15, 16, 17, 18, 19, 20, 21, 22, 23] (by decide +kernel) (by decide +kernel)
set_option maxRecDepth 20000 in
theorem gX5_isRun_X5_stepOf : GoodIn wsX5_isRun (wsV RX5 73 RX5 yX5_stepOf wsX5_stepOf) := goodIn_app (goodIn_of _ (by decide +kernel)) ggX5_isRun_X5_stepOf
set_option maxRecDepth 20000 in
theorem ggX5_errorOfRun_X5_in : GoodIn wsX5_errorOfRun wsX5_in := goodIn_r _ [5] (by decide +kernel) (by decide +kernel)
set_option maxRecDepth 20000 in
theorem gX5_errorOfRun_X5_in : GoodIn wsX5_errorOfRun (va_wsS RX5 48 yX5_in wsX5_in) := goodIn_app (goodIn_of _ (by decide +kernel)) ggX5_errorOfRun_X5_in
set_option maxRecDepth 20000 in
theorem ggX5_placesOf_X5_isRun : GoodIn wsX5_placesOf wsX5_isRun := goodIn_r _ [7, 8, 2, 9, 10, 11, 12, 13, 6, 14, 15, 16, 17, 18, 19, 20, 21, 22, 23, 24, 25, 26, 27, 28] (by decide +kernel) (by decide +kernel)
set_option maxRecDepth 20000 in
theorem gX5_placesOf_X5_isRun : GoodIn wsX5_placesOf (wsV RX5 116 RX5 yX5_isRun wsX5_isRun) := goodIn_app (goodIn_of _ (by decide +kernel)) ggX5_placesOf_X5_isRun
set_option maxRecDepth 20000 in
theorem ggX5_places_X5_errorOfRun : GoodIn wsX5_places wsX5_errorOfRun := goodIn_r _ [5, 6, 7, 8, 4, 9, 32, 33, 34, 35, 36, 37, 38, 39, 40, 41, 42, 43, 44] (by decide +kernel) (by decide +kernel)
set_option maxRecDepth 20000 in
theorem gX5_places_X5_errorOfRun : GoodIn wsX5_places (wsV RX5 119 RX5 yX5_errorOfRun wsX5_errorOfRun) := goodIn_app (goodIn_of _ (by decide +kernel)) ggX5_places_X5_errorOfRun
set_option maxRecDepth 20000 in
theorem ggX5_places_X5_holds : GoodIn wsX5_places wsX5_holds := goodIn_r _ [13, 14, 32, 33, 34, 35, 36, 37, 38, 39, 40, 41, 42, 43, 44] (by decide +kernel) (by decide +kernel)
set_option maxRecDepth 20000 in
theorem gX5_places_X5_holds : GoodIn wsX5_places (wsV RX5 60 RX5 yX5_holds wsX5_holds) := goodIn_app (goodIn_of _ (by decide +kernel)) ggX5_places_X5_holds
set_option maxRecDepth 20000 in
theorem ggX5_places_X5_placesOf : GoodIn wsX5_places wsX5_placesOf := goodIn_r _ [18, 19, 20, 21, 22, 23, 4, 24, 6, 25, 26, 27, 28, 29, 30, 31, 32, 33, 34, 35, 36, 37, 38, 39, 40, 41, 42, 43, 44] (by decide +kernel) (by decide +kernel)
set_option maxRecDepth 20000 in
theorem gX5_places_X5_placesOf : GoodIn wsX5_places (wsV RX5 122 RX5 yX5_placesOf wsX5_placesOf) := goodIn_app (goodIn_of _ (by decide +kernel)) ggX5_places_X5_placesOf
set_option maxRecDepth 20000 in
theorem ggX5_place_X5_errorOfRun : GoodIn wsX5_place wsX5_errorOfRun := goodIn_r _ [6, 7, 8, 9, 5, 10, 32, 33, 34, 35, 36, 37, 38, 39, 40, 41, 42, 43, 44] (by decide +kernel) (by decide +kernel)
set_option maxRecDepth 20000 in
theorem gX5_place_X5_errorOfRun : GoodIn wsX5_place (wsV RX5 119 RX5 yX5_errorOfRun wsX5_errorOfRun) := goodIn_app (goodIn_of _ (by decide +kernel)) ggX5_place_X5_errorOfRun
set_option maxRecDepth 20000 in
theorem ggX5_place_X5_placesOf : GoodIn wsX5_place wsX5_placesOf := goodIn_r _ [14, 15, 1, 16, 17, 18, 5, 19, 7, 20, 21, 22, 23, 24, 25, 26, 32, 33, 34, 35, 36, 37, 38, 39, 40, 41, 42, 43, 44] (by decide +kernel) (by decide +kernel)
set_option maxRecDepth 20000 in
theorem gX5_place_X5_placesOf : GoodIn wsX5_place (wsV RX5 122 RX5 yX5_placesOf wsX5_placesOf) := goodIn_app (goodIn_of _ (by decide +kernel)) ggX5_place_X5_placesOf
set_option maxRecDepth 20000 in
theorem ggX5_place_X5_in : GoodIn wsX5_place wsX5_in := goodIn_r _ [10] (by decide +kernel) (by decide +kernel)
set_option maxRecDepth 20000 in
theorem gX5_place_X5_in : GoodIn wsX5_place (va_wsS RX5 48 yX5_in wsX5_in) := goodIn_app (goodIn_of _ (by decide +kernel)) ggX5_place_X5_in
set_option maxRecDepth 20000 in
theorem ggX5_place_X5_holds : GoodIn wsX5_place wsX5_holds := goodIn_r _ [30, 31, 32, 33, 34, 35, 36, 37, 38, 39, 40, 41, 42, 43, 44] (by decide +kernel) (by decide +kernel)
set_option maxRecDepth 20000 in
theorem gX5_place_X5_holds : GoodIn wsX5_place (wsV RX5 60 RX5 yX5_holds wsX5_holds) := goodIn_app (goodIn_of _ (by decide +kernel)) ggX5_place_X5_holds
set_option maxRecDepth 20000 in
theorem ggX5_place_X5_isRun : GoodIn wsX5_place wsX5_isRun := goodIn_r _ [19, 7, 1, 20, 21, 22, 23, 24, 5, 25, 26, 32, 33, 34, 35, 36, 37, 38, 39, 40, 41, 42, 43, 44] (by decide +kernel) (by decide +kernel)
set_option maxRecDepth 20000 in
theorem gX5_place_X5_isRun : GoodIn wsX5_place (wsV RX5 116 RX5 yX5_isRun wsX5_isRun) := goodIn_app (goodIn_of _ (by decide +kernel)) ggX5_place_X5_isRun
set_option maxRecDepth 20000 in
theorem ggX5_lowest_X5_familyOf : GoodIn wsX5_lowest wsX5_familyOf := goodIn_r _ [5, 6, 7, 8, 9, 10, 11, 12, 13, 14, 15, 16, 17, 18, 19, 20] (by decide +kernel) (by decide +kernel)
set_option maxRecDepth 20000 in
theorem gX5_lowest_X5_familyOf : GoodIn wsX5_lowest (wsV RX5 125 RX5 yX5_familyOf wsX5_familyOf) := goodIn_app (goodIn_of _ (by decide +kernel)) ggX5_lowest_X5_familyOf
set_option maxRecDepth 20000 in
theorem ggX5_familiesOf_X5_lowest : GoodIn wsX5_familiesOf wsX5_lowest := goodIn_r _ [6, 7, 8, 9, 5, 10, 1, 11, 12, 13, 14, 15, 16, 17, 18, 19, 20, 21, 22, 23, 24] (by decide +kernel) (by decide +kernel)
set_option maxRecDepth 20000 in
theorem gX5_familiesOf_X5_lowest : GoodIn wsX5_familiesOf (wsV RX5 128 RX5 yX5_lowest wsX5_lowest) := goodIn_app (goodIn_of _ (by decide +kernel)) ggX5_familiesOf_X5_lowest
set_option maxRecDepth 20000 in
theorem ggX5_link_X5_isTune : GoodIn wsX5_link wsX5_isTune := goodIn_r _ [6, 7, 8, 9, 5, 10, 32, 33, 34, 35, 36, 37, 38, 39, 40, 41, 42, 43, 44] (by decide +kernel) (by decide +kernel)
set_option maxRecDepth 20000 in
theorem gX5_link_X5_isTune : GoodIn wsX5_link (wsV RX5 52 RX5 yX5_isTune wsX5_isTune) := goodIn_app (goodIn_of _ (by decide +kernel)) ggX5_link_X5_isTune
set_option maxRecDepth 20000 in
theorem ggX5_link_X5_areLinked : GoodIn wsX5_link wsX5_areLinked := goodIn_r _ [14, 1, 32, 33, 34, 35, 36, 37, 38, 39, 40, 41, 42, 43, 44] (by decide +kernel) (by decide +kernel)
set_option maxRecDepth 20000 in
theorem gX5_link_X5_areLinked : GoodIn wsX5_link (wsV RX5 131 RX5 yX5_areLinked wsX5_areLinked) := goodIn_app (goodIn_of _ (by decide +kernel)) ggX5_link_X5_areLinked
set_option maxRecDepth 20000 in
theorem ggX5_link_X5_holds : GoodIn wsX5_link wsX5_holds := goodIn_r _ [18, 19, 32, 33, 34, 35, 36, 37, 38, 39, 40, 41, 42, 43, 44] (by decide +kernel) (by decide +kernel)
set_option maxRecDepth 20000 in
theorem gX5_link_X5_holds : GoodIn wsX5_link (wsV RX5 60 RX5 yX5_holds wsX5_holds) := goodIn_app (goodIn_of _ (by decide +kernel)) ggX5_link_X5_holds
set_option maxRecDepth 20000 in
theorem ggX5_link_X5_familiesOf : GoodIn wsX5_link wsX5_familiesOf := goodIn_r _ [23, 7, 24, 25, 26, 5, 27, 28, 29, 30, 31, 1, 32, 33, 34, 35, 36, 37, 38, 39, 40, 41, 42, 43, 44] (by decide +kernel) (by decide +kernel)
set_option maxRecDepth 20000 in
theorem gX5_link_X5_familiesOf : GoodIn wsX5_link (wsV RX5 134 RX5 yX5_familiesOf wsX5_familiesOf) := goodIn_app (goodIn_of _ (by decide +kernel)) ggX5_link_X5_familiesOf
set_option maxRecDepth 20000 in
theorem ggX5_cut_X5_isTune : GoodIn wsX5_cut wsX5_isTune := goodIn_r _ [6, 7, 8, 9, 5, 10, 32, 33, 34, 35, 36, 37, 38, 39, 40, 41, 42, 43, 44] (by decide +kernel) (by decide +kernel)
set_option maxRecDepth 20000 in
theorem gX5_cut_X5_isTune : GoodIn wsX5_cut (wsV RX5 52 RX5 yX5_isTune wsX5_isTune) := goodIn_app (goodIn_of _ (by decide +kernel)) ggX5_cut_X5_isTune
set_option maxRecDepth 20000 in
theorem ggX5_cut_X5_areLinked : GoodIn wsX5_cut wsX5_areLinked := goodIn_r _ [14, 1, 32, 33, 34, 35, 36, 37, 38, 39, 40, 41, 42, 43, 44] (by decide +kernel) (by decide +kernel)
set_option maxRecDepth 20000 in
theorem gX5_cut_X5_areLinked : GoodIn wsX5_cut (wsV RX5 131 RX5 yX5_areLinked wsX5_areLinked) := goodIn_app (goodIn_of _ (by decide +kernel)) ggX5_cut_X5_areLinked
set_option maxRecDepth 20000 in
theorem ggX5_cut_X5_holds : GoodIn wsX5_cut wsX5_holds := goodIn_r _ [18, 19, 32, 33, 34, 35, 36, 37, 38, 39, 40, 41, 42, 43, 44] (by decide +kernel) (by decide +kernel)
set_option maxRecDepth 20000 in
theorem gX5_cut_X5_holds : GoodIn wsX5_cut (wsV RX5 60 RX5 yX5_holds wsX5_holds) := goodIn_app (goodIn_of _ (by decide +kernel)) ggX5_cut_X5_holds
set_option maxRecDepth 20000 in
theorem ggX5_cut_X5_familiesOf : GoodIn wsX5_cut wsX5_familiesOf := goodIn_r _ [23, 7, 24, 25, 26, 5, 27, 28, 29, 30, 31, 1, 32, 33, 34, 35, 36, 37, 38, 39, 40, 41, 42, 43, 44] (by decide +kernel) (by decide +kernel)
set_option maxRecDepth 20000 in
theorem gX5_cut_X5_familiesOf : GoodIn wsX5_cut (wsV RX5 134 RX5 yX5_familiesOf wsX5_familiesOf) := goodIn_app (goodIn_of _ (by decide +kernel)) ggX5_cut_X5_familiesOf
set_option maxRecDepth 20000 in
theorem ggX5_family_X5_isTune : GoodIn wsX5_family wsX5_isTune := goodIn_r _ [5, 6, 7, 8, 4, 9, 24, 25, 26, 27, 28, 29, 30, 31, 32, 33, 34, 35, 36] (by decide +kernel) (by decide +kernel)
set_option maxRecDepth 20000 in
theorem gX5_family_X5_isTune : GoodIn wsX5_family (wsV RX5 52 RX5 yX5_isTune wsX5_isTune) := goodIn_app (goodIn_of _ (by decide +kernel)) ggX5_family_X5_isTune
set_option maxRecDepth 20000 in
theorem ggX5_family_X5_holds : GoodIn wsX5_family wsX5_holds := goodIn_r _ [13, 14, 24, 25, 26, 27, 28, 29, 30, 31, 32, 33, 34, 35, 36] (by decide +kernel) (by decide +kernel)
set_option maxRecDepth 20000 in
theorem gX5_family_X5_holds : GoodIn wsX5_family (wsV RX5 60 RX5 yX5_holds wsX5_holds) := goodIn_app (goodIn_of _ (by decide +kernel)) ggX5_family_X5_holds
set_option maxRecDepth 20000 in
theorem ggX5_family_X5_lowest : GoodIn wsX5_family wsX5_lowest := goodIn_r _ [18, 19, 20, 21, 4, 22, 6, 23, 24, 25, 26, 27, 28, 29, 30, 31, 32, 33, 34, 35, 36] (by decide +kernel) (by decide +kernel)
set_option maxRecDepth 20000 in
theorem gX5_family_X5_lowest : GoodIn wsX5_family (wsV RX5 128 RX5 yX5_lowest wsX5_lowest) := goodIn_app (goodIn_of _ (by decide +kernel)) ggX5_family_X5_lowest
set_option maxRecDepth 20000 in
theorem ggX5_families_X5_familiesOf : GoodIn wsX5_families wsX5_familiesOf := goodIn_r _ [6, 7, 8, 9, 10, 5, 11, 12, 13, 14, 15, 16, 17, 18, 19, 20, 21, 22, 23, 24, 25, 26, 27, 28, 29] (by decide +kernel) (by decide +kernel)
set_option maxRecDepth 20000 in
theorem gX5_families_X5_familiesOf : GoodIn wsX5_families (wsV RX5 134 RX5 yX5_familiesOf wsX5_familiesOf) := goodIn_app (goodIn_of _ (by decide +kernel)) ggX5_families_X5_familiesOf
end
section
set_option maxRecDepth 20000 in
theorem ggL_add_X4_add : GoodIn wsL_add wsX4_add := goodIn_ca (goodIn_ca (goodIn_r _ [7, 8, 9, 10, 11, 12, 13, 14, 15, 16, 17, 6, 18, 19, 20, 21, 22, 23, 24, 25, 26, 27, 28, 29, 30, 31, 32, 33, 34, 35, 36, 37, 38, 39, 40, 41, 42, 43, 44, 45, 46, 47, 48, 49, 50, 51, 52, 53, 54, 55, 56, 57, 58, 59, 60, 61, 62, 63, 64, 65, 66, 67, 68, 69, 70, 71, 72, 73, 74, 75] (by decide +kernel) (by decide +kernel)) (goodIn_sub (fun _ h => List.mem_cons_of_mem _ (List.mem_append_left _ (List.mem_append_right _ h))) (by decide +kernel))) (goodIn_sub (fun _ h => List.mem_cons_of_mem _ (List.mem_append_right _ h)) (by decide +kernel))
set_option maxRecDepth 20000 in
theorem gL_add_X4_add : GoodIn wsL_add (wsV RL 7 RX4 yX4_add wsX4_add) := goodIn_app (goodIn_of _ (by decide +kernel)) ggL_add_X4_add
set_option maxRecDepth 20000 in
theorem ggL_note_X4_note : GoodIn wsL_note wsX4_note := goodIn_ca (goodIn_ca (goodIn_ca (goodIn_r _ [8, 9, 10, 11, 12, 13, 7, 14, 15, 16, 17, 18, 19, 20, 21, 22, 23, 24, 25, 26, 27, 28, 29, 30, 31, 32, 33, 34, 35, 36, 37, 38, 39, 40, 41, 42, 43, 44, 45, 46, 47, 48, 49, 50, 51, 52, 53, 54, 55, 56, 57, 58, 59, 60, 61, 62, 63, 64, 65, 66, 67, 68, 69, 70, 71, 72, 73, 74, 75] (by decide +kernel) (by decide +kernel)) (goodIn_sub (fun _ h => List.mem_cons_of_mem _ (List.mem_append_left _ (List.mem_append_left _ (List.mem_append_right _ h)))) (by decide +kernel))) (goodIn_sub (fun _ h => List.mem_cons_of_mem _ (List.mem_append_left _ (List.mem_append_right _ h))) (by decide +kernel))) (goodIn_sub (fun _ h => List.mem_cons_of_mem _ (List.mem_append_right _ h)) (by decide +kernel))
set_option maxRecDepth 20000 in
theorem gL_note_X4_note : GoodIn wsL_note (wsV RL 17 RX4 yX4_note wsX4_note) := goodIn_app (goodIn_of _ (by decide +kernel)) ggL_note_X4_note
set_option maxRecDepth 20000 in
theorem ggL_correct_X4_correct : GoodIn wsL_correct wsX4_correct := goodIn_ca (goodIn_ca (goodIn_r _ [7, 8, 9, 10, 11, 12, 6, 13, 14, 15, 16, 17, 18, 19, 20, 21, 22, 23, 24, 25, 26, 27, 28, 29, 30, 31, 32, 33, 34, 35, 36, 37, 38, 39, 40, 41, 42, 43, 44, 45, 46, 47, 48, 49, 50, 51, 52, 53, 54, 55, 56, 57, 58, 59, 60, 61, 62, 63, 64, 65, 66, 67] (by decide +kernel) (by decide +kernel)) (goodIn_sub (fun _ h => List.mem_cons_of_mem _ (List.mem_append_left _ (List.mem_append_right _ h))) (by decide +kernel))) (goodIn_sub (fun _ h => List.mem_cons_of_mem _ (List.mem_append_right _ h)) (by decide +kernel))
set_option maxRecDepth 20000 in
theorem gL_correct_X4_correct : GoodIn wsL_correct (wsV RL 23 RX4 yX4_correct wsX4_correct) := goodIn_app (goodIn_of _ (by decide +kernel)) ggL_correct_X4_correct
set_option maxRecDepth 20000 in
theorem ggL_shift_X4_shift : GoodIn wsL_shift wsX4_shift := goodIn_ca (goodIn_ca (goodIn_ca (goodIn_r _ [8, 9, 10, 11, 12, 13, 7, 14, 15, 16, 17, 18, 19, 20, 21, 22, 23, 24, 25, 26, 27, 28, 29, 30, 31, 32, 33, 34, 35, 36, 37, 38, 39, 40, 41, 42, 43, 44, 45, 46, 47, 48, 49, 50, 51, 52, 53, 54, 55, 56, 57, 58, 59, 60, 61, 62, 63, 64, 65, 66, 67] (by decide +kernel) (by decide +kernel)) (goodIn_sub (fun _ h => List.mem_cons_of_mem _ (List.mem_append_left _ (List.mem_append_left _ (List.mem_append_right _ h)))) (by decide +kernel))) (goodIn_sub (fun _ h => List.mem_cons_of_mem _ (List.mem_append_left _ (List.mem_append_right _ h))) (by decide +kernel))) (goodIn_sub (fun _ h => List.mem_cons_of_mem _ (List.mem_append_right _ h)) (by decide +kernel))
set_option maxRecDepth 20000 in
theorem gL_shift_X4_shift : GoodIn wsL_shift (wsV RL 27 RX4 yX4_shift wsX4_shift) := goodIn_app (goodIn_of _ (by decide +kernel)) ggL_shift_X4_shift
set_option maxRecDepth 20000 in
theorem ggL_retire_X4_retire : GoodIn wsL_retire wsX4_retire := goodIn_ca (goodIn_r _ [6, 7, 8, 9, 10, 5, 11, 12, 13, 14, 15, 16, 17, 18, 19, 20, 21, 22, 23, 24, 25, 26, 27, 28, 29, 30, 31, 32] (by decide +kernel) (by decide +kernel)) (goodIn_sub (fun _ h => List.mem_cons_of_mem _ (List.mem_append_right _ h)) (by decide +kernel))
set_option maxRecDepth 20000 in
theorem gL_retire_X4_retire : GoodIn wsL_retire (wsV RL 31 RX4 yX4_retire wsX4_retire) := goodIn_app (goodIn_of _ (by decide +kernel)) ggL_retire_X4_retire
set_option maxRecDepth 20000 in
theorem ggL_notes_X4_notes : GoodIn wsL_notes wsX4_notes := goodIn_ca (goodIn_r _ [6, 7, 8, 9, 5, 10, 11, 12, 13, 14, 15, 16, 17, 18, 19, 20, 21, 22, 23, 24, 25, 26, 27, 28, 29, 30, 31, 32, 33, 34, 35, 36, 37, 38, 39, 40, 41, 42] (by decide +kernel) (by decide +kernel)) (goodIn_sub (fun _ h => List.mem_cons_of_mem _ (List.mem_append_right _ h)) (by decide +kernel))
set_option maxRecDepth 20000 in
theorem gL_notes_X4_notes : GoodIn wsL_notes (wsV RL 35 RX4 yX4_notes wsX4_notes) := goodIn_app (goodIn_of _ (by decide +kernel)) ggL_notes_X4_notes
set_option maxRecDepth 20000 in
theorem ggL_step_X4_step : GoodIn wsL_step wsX4_step := goodIn_ca (goodIn_r _ [6, 7, 8, 9, 10, 11, 5, 12, 13, 14, 15, 16, 17, 18, 19, 20, 21, 22, 23, 24, 25, 26, 27, 28, 29, 30, 31, 32, 33, 34, 35, 36, 37, 38, 39, 40, 41, 42, 43, 44, 45, 46, 47, 48, 49, 50, 51] (by decide +kernel) (by decide +kernel)) (goodIn_sub (fun _ h => List.mem_cons_of_mem _ (List.mem_append_right _ h)) (by decide +kernel))
set_option maxRecDepth 20000 in
theorem gL_step_X4_step : GoodIn wsL_step (wsV RL 38 RX4 yX4_step wsX4_step) := goodIn_app (goodIn_of _ (by decide +kernel)) ggL_step_X4_step
set_option maxRecDepth 20000 in
theorem ggL_shared_X4_shared : GoodIn wsL_shared wsX4_shared := goodIn_ca (goodIn_r _ [6, 7, 8, 9, 10, 11, 12, 13, 5, 14, 15, 16, 17, 18, 19, 20, 21, 22, 23, 24, 25, 26, 27, 28, 29, 30, 31, 32, 33, 34, 35, 36, 37, 38, 39, 40, 41, 42, 43, 44, 45, 46, 47, 48, 49, 50, 51, 52, 53, 54, 55, 56] (by decide +kernel) (by decide +kernel)) (goodIn_sub (fun _ h => List.mem_cons_of_mem _ (List.mem_append_right _ h)) (by decide +kernel))
set_option maxRecDepth 20000 in
theorem gL_shared_X4_shared : GoodIn wsL_shared (wsV RL 41 RX4 yX4_shared wsX4_shared) := goodIn_app (goodIn_of _ (by decide +kernel)) ggL_shared_X4_shared
set_option maxRecDepth 20000 in
theorem ggL_hum_X4_hum : GoodIn wsL_hum wsX4_hum := goodIn_ca (goodIn_ca (goodIn_r _ [7, 8, 9, 10, 11, 12, 6, 13, 14, 15, 16, 17, 18, 19, 20, 21, 22, 23, 24, 25, 26, 27, 28, 29, 30, 31, 32, 33, 34, 35, 36, 37, 38, 39, 40, 41, 42] (by decide +kernel) (by decide +kernel)) (goodIn_sub (fun _ h => List.mem_cons_of_mem _ (List.mem_append_left _ (List.mem_append_right _ h))) (by decide +kernel))) (goodIn_sub (fun _ h => List.mem_cons_of_mem _ (List.mem_append_right _ h)) (by decide +kernel))
set_option maxRecDepth 20000 in
theorem gL_hum_X4_hum : GoodIn wsL_hum (wsV RL 44 RX4 yX4_hum wsX4_hum) := goodIn_app (goodIn_of _ (by decide +kernel)) ggL_hum_X4_hum
set_option maxRecDepth 20000 in
theorem ggL_setCosts_X4_setCosts : GoodIn wsL_setCosts wsX4_setCosts := goodIn_ca (goodIn_r _ [6, 7, 8, 9, 5, 10, 11, 12, 13, 14, 15, 16, 17, 18, 19, 20, 21, 22, 23, 24, 25, 26, 27] (by decide +kernel) (by decide +kernel)) (goodIn_sub (fun _ h => List.mem_cons_of_mem _ (List.mem_append_right _ h)) (by decide +kernel))
set_option maxRecDepth 20000 in
theorem gL_setCosts_X4_setCosts : GoodIn wsL_setCosts (wsV RL 47 RX4 yX4_setCosts wsX4_setCosts) := goodIn_app (goodIn_of _ (by decide +kernel)) ggL_setCosts_X4_setCosts
set_option maxRecDepth 20000 in
theorem ggL_cost_X4_cost : GoodIn wsL_cost wsX4_cost := goodIn_ca (goodIn_r _ [6, 7, 8, 9, 10, 5, 11, 12, 13, 14, 15, 16, 17, 18, 19, 20, 21, 22, 23, 24, 25, 26, 27, 28, 29, 30, 31, 32, 33, 34, 35, 36, 37, 38, 39, 40, 41, 42, 43, 44, 45, 46, 47, 48, 49, 50, 51, 52, 53, 54, 55, 56, 57, 58, 59, 60, 61, 62, 63, 64, 65, 66, 67, 68, 69, 70, 71, 72, 73, 74, 75, 76, 77, 78, 79, 80, 81, 82, 83, 84, 85, 86, 87, 88, 89, 90, 91, 92, 93, 94, 95, 96, 97, 98, 99, 100, 101, 102, 103] (by decide +kernel) (by decide +kernel)) (goodIn_sub (fun _ h => List.mem_cons_of_mem _ (List.mem_append_right _ h)) (by decide +kernel))
set_option maxRecDepth 20000 in
theorem gL_cost_X4_cost : GoodIn wsL_cost (wsV RL 51 RX4 yX4_cost wsX4_cost) := goodIn_app (goodIn_of _ (by decide +kernel)) ggL_cost_X4_cost
set_option maxRecDepth 20000 in
theorem ggL_costByAll_X4_costByAll : GoodIn wsL_costByAll wsX4_costByAll := goodIn_ca (goodIn_ca (goodIn_r _ [7, 8, 9, 10, 11, 12, 13, 14, 6, 15, 16, 17, 18, 19, 20, 21, 22, 23, 24, 25, 26, 27, 28, 29, 30, 31, 32, 33, 34, 35, 36, 37, 38, 39, 40, 41, 42, 43, 44, 45, 46, 47, 48, 49, 50, 51, 52, 53, 54, 55, 56, 57, 58, 59, 60, 61, 62, 63, 64, 65, 66, 67, 68, 69, 70, 71, 72, 73, 74, 75, 76, 77, 78, 79, 80, 81, 82, 83, 84, 85, 86, 87, 88, 89, 90, 91, 92, 93, 94, 95, 96, 97] (by decide +kernel) (by decide +kernel)) (goodIn_sub (fun _ h => List.mem_cons_of_mem _ (List.mem_append_left _ (List.mem_append_right _ h))) (by decide +kernel))) (goodIn_sub (fun _ h => List.mem_cons_of_mem _ (List.mem_append_right _ h)) (by decide +kernel))
set_option maxRecDepth 20000 in
theorem gL_costByAll_X4_costByAll : GoodIn wsL_costByAll (wsV RL 54 RX4 yX4_costByAll wsX4_costByAll) := goodIn_app (goodIn_of _ (by decide +kernel)) ggL_costByAll_X4_costByAll
set_option maxRecDepth 20000 in
theorem ggL_found_X4_found : GoodIn wsL_found wsX4_found := goodIn_ca (goodIn_r _ [6, 7, 8, 9, 10, 11, 12, 5, 13, 14, 15, 16, 17, 18, 19, 20, 21, 22, 23, 24, 25, 26, 27, 28, 29, 30, 31, 32, 33, 34, 35, 36, 37, 38, 39, 40, 41, 42, 43, 44, 45, 46, 47, 48, 49, 50, 51, 52, 53, 54, 55, 56, 57, 58, 59, 60, 61, 62, 63, 64, 65, 66, 67, 68, 69, 70, 71, 72, 73, 74, 75, 76, 77, 78, 79, 80, 81, 82, 83, 84, 85, 86, 87, 88, 89, 90, 91, 92, 93, 94, 95, 96, 97, 98, 99, 100, 101, 102, 103, 104, 105, 106, 107, 108, 109, 110, 111, 112, 113, 114, 115, 116, 117, 118] (by decide +kernel) (by decide +kernel)) (goodIn_sub (fun _ h => List.mem_cons_of_mem _ (List.mem_append_right _ h)) (by decide +kernel))
set_option maxRecDepth 20000 in
theorem gL_found_X4_found : GoodIn wsL_found (wsV RL 57 RX4 yX4_found wsX4_found) := goodIn_app (goodIn_of _ (by decide +kernel)) ggL_found_X4_found
set_option maxRecDepth 20000 in
theorem ggL_places_X4_places : GoodIn wsL_places wsX4_places := goodIn_ca (goodIn_ca (goodIn_r _ [7, 8, 9, 10, 11, 6, 12, 13, 14, 15, 16, 17, 18, 19, 20, 21, 22, 23, 24, 25, 26, 27, 28, 29, 30, 31, 32, 33, 34, 35, 36, 37, 38, 39, 40, 41, 42, 43, 44, 45, 46, 47, 48, 49, 50, 51, 52, 53, 54, 55, 56, 57, 58, 59, 60, 61, 62, 63, 64, 65, 66, 67, 68, 69, 70, 71, 72, 73, 74, 75, 76, 77, 78, 79, 80, 81, 82, 83, 84] (by decide +kernel) (by decide +kernel)) (goodIn_sub (fun _ h => List.mem_cons_of_mem _ (List.mem_append_left _ (List.mem_append_right _ h))) (by decide +kernel))) (goodIn_sub (fun _ h => List.mem_cons_of_mem _ (List.mem_append_right _ h)) (by decide +kernel))
set_option maxRecDepth 20000 in
theorem gL_places_X4_places : GoodIn wsL_places (wsV RL 60 RX4 yX4_places wsX4_places) := goodIn_app (goodIn_of _ (by decide +kernel)) ggL_places_X4_places
set_option maxRecDepth 20000 in
theorem ggL_place_X4_place : GoodIn wsL_place wsX4_place := goodIn_ca (goodIn_ca (goodIn_ca (goodIn_r _ [8, 9, 10, 11, 12, 13, 14, 7, 15, 16, 17, 18, 19, 20, 21, 22, 23, 24, 25, 26, 27, 28, 29, 30, 31, 32, 33, 34, 35, 36, 37, 38, 39, 40, 41, 42, 43, 44, 45, 46, 47, 48, 49, 50, 51, 52, 53, 54, 55, 56, 57, 58, 59, 60, 61, 62, 63, 64, 65, 66, 67, 68, 69, 70, 71, 72, 73, 74, 75, 76, 77, 78, 79, 80, 81, 82, 83, 84, 85, 86, 87, 88] (by decide +kernel) (by decide +kernel)) (goodIn_sub (fun _ h => List.mem_cons_of_mem _ (List.mem_append_left _ (List.mem_append_left _ (List.mem_append_right _ h)))) (by decide +kernel))) (goodIn_sub (fun _ h => List.mem_cons_of_mem _ (List.mem_append_left _ (List.mem_append_right _ h))) (by decide +kernel))) (goodIn_sub (fun _ h => List.mem_cons_of_mem _ (List.mem_append_right _ h)) (by decide +kernel))
set_option maxRecDepth 20000 in
theorem gL_place_X4_place : GoodIn wsL_place (wsV RL 63 RX4 yX4_place wsX4_place) := goodIn_app (goodIn_of _ (by decide +kernel)) ggL_place_X4_place
set_option maxRecDepth 20000 in
theorem ggL_link_X4_link : GoodIn wsL_link wsX4_link := goodIn_ca (goodIn_ca (goodIn_ca (goodIn_r _ [8, 9, 10, 11, 12, 13, 14, 15, 16, 7, 17, 18, 19, 20, 21, 22, 23, 24, 25, 26, 27, 28, 29, 30, 31, 32, 33, 34, 35, 36, 37, 38, 39, 40, 41, 42, 43, 44, 45, 46, 47, 48, 49, 50, 51, 52, 53, 54, 55, 56, 57, 58, 59, 60, 61, 62, 63, 64, 65, 66, 67, 68, 69, 70, 71, 72, 73, 74, 75, 76, 77, 78, 79] (by decide +kernel) (by decide +kernel)) (goodIn_sub (fun _ h => List.mem_cons_of_mem _ (List.mem_append_left _ (List.mem_append_left _ (List.mem_append_right _ h)))) (by decide +kernel))) (goodIn_sub (fun _ h => List.mem_cons_of_mem _ (List.mem_append_left _ (List.mem_append_right _ h))) (by decide +kernel))) (goodIn_sub (fun _ h => List.mem_cons_of_mem _ (List.mem_append_right _ h)) (by decide +kernel))
set_option maxRecDepth 20000 in
theorem gL_link_X4_link : GoodIn wsL_link (wsV RL 66 RX4 yX4_link wsX4_link) := goodIn_app (goodIn_of _ (by decide +kernel)) ggL_link_X4_link
set_option maxRecDepth 20000 in
theorem ggL_cut_X4_cut : GoodIn wsL_cut wsX4_cut := goodIn_ca (goodIn_ca (goodIn_r _ [7, 8, 9, 10, 11, 12, 13, 6, 14, 15, 16, 17, 18, 19, 20, 21, 22, 23, 24, 25, 26, 27, 28, 29, 30, 31, 32, 33, 34, 35, 36, 37, 38, 39, 40, 41, 42, 43, 44, 45, 46, 47, 48, 49, 50, 51, 52, 53, 54, 55, 56, 57, 58, 59, 60, 61, 62, 63, 64, 65, 66, 67, 68, 69, 70, 71, 72, 73, 74, 75, 76] (by decide +kernel) (by decide +kernel)) (goodIn_sub (fun _ h => List.mem_cons_of_mem _ (List.mem_append_left _ (List.mem_append_right _ h))) (by decide +kernel))) (goodIn_sub (fun _ h => List.mem_cons_of_mem _ (List.mem_append_right _ h)) (by decide +kernel))
set_option maxRecDepth 20000 in
theorem gL_cut_X4_cut : GoodIn wsL_cut (wsV RL 69 RX4 yX4_cut wsX4_cut) := goodIn_app (goodIn_of _ (by decide +kernel)) ggL_cut_X4_cut
set_option maxRecDepth 20000 in
theorem ggL_family_X4_family : GoodIn wsL_family wsX4_family := goodIn_ca (goodIn_r _ [6, 7, 8, 9, 10, 5, 11, 12, 13, 14, 15, 16, 17, 18, 19, 20, 21, 22, 23, 24, 25, 26, 27, 28, 29, 30, 31, 32, 33, 34, 35, 36, 37, 38, 39, 40, 41, 42, 43, 44, 45, 46, 47, 48, 49, 50, 51, 52, 53] (by decide +kernel) (by decide +kernel)) (goodIn_sub (fun _ h => List.mem_cons_of_mem _ (List.mem_append_right _ h)) (by decide +kernel))
set_option maxRecDepth 20000 in
theorem gL_family_X4_family : GoodIn wsL_family (wsV RL 72 RX4 yX4_family wsX4_family) := goodIn_app (goodIn_of _ (by decide +kernel)) ggL_family_X4_family
set_option maxRecDepth 20000 in
theorem ggL_law_X4_init : GoodIn wsL_law wsX4_init := goodIn_r _ [9, 10, 11, 12, 13, 14, 15, 16, 17, 18, 19, 20, 21, 22, 23, 24, 25, 26, 27, 28, 29, 30, 31, 32, 33, 34, 35, 36, 37, 38, 39, 40, 41, 42, 43, 44, 45, 46, 47, 48, 49, 50, 51, 52, 53, 623, 624, 625, 626, 627, 628, 629, 643, 644, 645, 646, 647, 648, 649, 650] (by decide +kernel) (by decide +kernel)
set_option maxRecDepth 20000 in
theorem gL_law_X4_init : GoodIn wsL_law (wsX4_init) := ggL_law_X4_init
set_option maxRecDepth 20000 in
theorem ggL_law_X5_init : GoodIn wsL_law wsX5_init := goodIn_r _ [56, 57, 11, 12, 37, 58, 59, 60, 61, 62, 63, 64, 65, 66, 67, 68, 630, 631, 632, 633, 634, 635, 636, 637, 638, 639, 640, 641, 642] (by decide +kernel) (by decide +kernel)
set_option maxRecDepth 20000 in
theorem gL_law_X5_init : GoodIn wsL_law (wsX5_init) := ggL_law_X5_init
set_option maxRecDepth 20000 in
theorem ggL_law_L_add : GoodIn wsL_law wsL_add := goodIn_ca (goodIn_ca (goodIn_r _ [72, 73, 74, 75, 76, 77, 2, 78, 79, 80, 81, 14, 13, 82, 83, 26, 84, 85, 86, 87, 88, 89, 90, 91, 92, 93, 94, 95, 96, 97, 11, 12, 98, 16, 17, 99, 100, 101, 30, 31, 32, 33, 34, 35, 36, 37, 38, 102, 103, 104, 105, 106, 107, 108, 109, 110, 111, 112, 113, 25, 114, 52, 115, 623, 624, 625, 626, 627, 628, 629, 651, 652, 653, 643, 644, 650] (by decide +kernel) (by decide +kernel)) (goodIn_sub (fun _ h => List.mem_append_left _ (List.mem_append_left _ (List.mem_append_right _ h))) (by decide +kernel))) (goodIn_sub (fun _ h => List.mem_append_left _ (List.mem_append_right _ h)) (by decide +kernel))
set_option maxRecDepth 20000 in
theorem gL_law_L_add : GoodIn wsL_law (va_wsS RL 79 yL_add wsL_add) := goodIn_app (goodIn_of _ (by decide +kernel)) ggL_law_L_add
set_option maxRecDepth 20000 in
theorem ggL_law_X5_add : GoodIn wsL_law wsX5_add := goodIn_r _ [119, 120, 60, 121, 122, 5, 123, 124, 125, 126, 127, 128, 129, 130, 131, 132, 133, 134, 135, 58, 59, 630, 631, 632, 633, 634, 635, 636, 637, 638, 639, 640, 641, 642] (by decide +kernel) (by decide +kernel)
set_option maxRecDepth 20000 in
theorem gL_law_X5_add : GoodIn wsL_law (wsV RL 84 RX5 yX5_add wsX5_add) := goodIn_app (goodIn_of _ (by decide +kernel)) ggL_law_X5_add
set_option maxRecDepth 20000 in
theorem ggL_law_X5_thrown : GoodIn wsL_law wsX5_thrown := goodIn_r _ [139, 131, 630, 631, 632, 633, 634, 635, 636, 637, 638, 639, 640, 641, 642] (by decide +kernel) (by decide +kernel)
set_option maxRecDepth 20000 in
theorem gL_law_X5_thrown : GoodIn wsL_law (wsV RL 85 RX5 yX5_thrown wsX5_thrown) := goodIn_app (goodIn_of _ (by decide +kernel)) ggL_law_X5_thrown
set_option maxRecDepth 20000 in
theorem ggL_law_L_note : GoodIn wsL_law wsL_note := goodIn_ca (goodIn_ca (goodIn_ca (goodIn_r _ [142, 143, 73, 74, 144, 145, 146, 2, 147, 79, 80, 148, 149, 150, 151, 152, 153, 154, 155, 156, 157, 158, 159, 160, 161, 81, 14, 84, 85, 86, 87, 88, 89, 90, 91, 92, 93, 94, 162, 163, 164, 17, 165, 110, 38, 102, 103, 104, 83, 105, 99, 100, 106, 107, 108, 109, 166, 167, 168, 169, 170, 171, 172, 173, 651, 652, 653, 623, 624, 625, 626, 627, 628, 629, 643, 644] (by decide +kernel) (by decide +kernel)) (goodIn_sub (fun _ h => List.mem_append_left _ (List.mem_append_left _ (List.mem_append_right _ h))) (by decide +kernel))) (goodIn_sub (fun _ h => List.mem_append_right _ h) (by decide +kernel))) (goodIn_sub (fun _ h => List.mem_append_left _ (List.mem_append_right _ h)) (by decide +kernel))
set_option maxRecDepth 20000 in
theorem gL_law_L_note : GoodIn wsL_law (va_wsS RL 89 yL_note wsL_note) := goodIn_app (goodIn_of _ (by decide +kernel)) ggL_law_L_note
set_option maxRecDepth 20000 in
theorem ggL_law_X5_note : GoodIn wsL_law wsX5_note := goodIn_r _ [177, 60, 178, 179, 180, 5, 181, 62, 182, 183, 184, 185, 120, 124, 125, 126, 121, 122, 123, 127, 128, 129, 130, 131, 132, 133, 134, 135, 58, 59, 630, 631, 632, 633, 634, 635, 636, 637, 638, 639, 640, 641, 642] (by decide +kernel) (by decide +kernel)
set_option maxRecDepth 20000 in
theorem gL_law_X5_note : GoodIn wsL_law (wsV RL 92 RX5 yX5_note wsX5_note) := goodIn_app (goodIn_of _ (by decide +kernel)) ggL_law_X5_note
set_option maxRecDepth 20000 in
theorem ggL_law_L_correct : GoodIn wsL_law wsL_correct := goodIn_ca (goodIn_ca (goodIn_r _ [188, 143, 73, 189, 190, 191, 2, 192, 152, 153, 148, 149, 150, 151, 154, 155, 156, 157, 158, 159, 160, 161, 81, 14, 166, 167, 168, 83, 169, 99, 170, 171, 172, 17, 173, 110, 84, 85, 86, 87, 88, 89, 90, 91, 92, 93, 94, 193, 194, 195, 196, 38, 197, 198, 199, 200, 651, 652, 653, 623, 624, 625, 626, 627, 628, 629, 643, 644] (by decide +kernel) (by decide +kernel)) (goodIn_sub (fun _ h => List.mem_append_right _ h) (by decide +kernel))) (goodIn_sub (fun _ h => List.mem_append_left _ (List.mem_append_right _ h)) (by decide +kernel))
set_option maxRecDepth 20000 in
theorem gL_law_L_correct : GoodIn wsL_law (va_wsS RL 93 yL_correct wsL_correct) := goodIn_app (goodIn_of _ (by decide +kernel)) ggL_law_L_correct
set_option maxRecDepth 20000 in
theorem ggL_law_X5_correct : GoodIn wsL_law wsX5_correct := goodIn_r _ [204, 60, 58, 178, 179, 180, 5, 181, 62, 182, 183, 184, 185, 120, 124, 125, 126, 121, 122, 123, 127, 128, 129, 130, 131, 132, 133, 134, 135, 59, 630, 631, 632, 633, 634, 635, 636, 637, 638, 639, 640, 641, 642] (by decide +kernel) (by decide +kernel)
set_option maxRecDepth 20000 in
theorem gL_law_X5_correct : GoodIn wsL_law (wsV RL 96 RX5 yX5_correct wsX5_correct) := goodIn_app (goodIn_of _ (by decide +kernel)) ggL_law_X5_correct
set_option maxRecDepth 20000 in
theorem ggL_law_L_shift : GoodIn wsL_law wsL_shift := goodIn_ca (goodIn_ca (goodIn_ca (goodIn_r _ [207, 143, 73, 74, 208, 209, 210, 2, 211, 79, 80, 148, 149, 150, 151, 152, 153, 154, 155, 156, 157, 158, 159, 160, 161, 81, 14, 87, 88, 89, 90, 91, 92, 93, 94, 166, 167, 168, 83, 169, 99, 170, 171, 172, 17, 173, 110, 193, 194, 195, 196, 38, 197, 198, 199, 200, 651, 652, 653, 623, 624, 625, 626, 627, 628, 629, 643, 644] (by decide +kernel) (by decide +kernel)) (goodIn_sub (fun _ h => List.mem_append_left _ (List.mem_append_left _ (List.mem_append_right _ h))) (by decide +kernel))) (goodIn_sub (fun _ h => List.mem_append_right _ h) (by decide +kernel))) (goodIn_sub (fun _ h => List.mem_append_left _ (List.mem_append_right _ h)) (by decide +kernel))
set_option maxRecDepth 20000 in
theorem gL_law_L_shift : GoodIn wsL_law (va_wsS RL 97 yL_shift wsL_shift) := goodIn_app (goodIn_of _ (by decide +kernel)) ggL_law_L_shift
set_option maxRecDepth 20000 in
theorem ggL_law_X5_shift : GoodIn wsL_law wsX5_shift := goodIn_r _ [215, 60, 58, 178, 179, 180, 5, 181, 62, 182, 183, 184, 185, 120, 124, 125, 126, 216, 217, 218, 219, 127, 128, 129, 130, 131, 630, 631, 632, 633, 634, 635, 636, 637, 638, 639, 640, 641, 642] (by decide +kernel) (by decide +kernel)
set_option maxRecDepth 20000 in
theorem gL_law_X5_shift : GoodIn wsL_law (wsV RL 100 RX5 yX5_shift wsX5_shift) := goodIn_app (goodIn_of _ (by decide +kernel)) ggL_law_X5_shift
set_option maxRecDepth 20000 in
theorem ggL_law_L_retire : GoodIn wsL_law wsL_retire := goodIn_ca (goodIn_r _ [222, 143, 223, 224, 225, 2, 226, 81, 148, 149, 150, 151, 152, 153, 154, 155, 156, 157, 158, 159, 160, 161, 14, 651, 652, 653, 623, 624, 625, 626, 627, 628, 629] (by decide +kernel) (by decide +kernel)) (goodIn_sub (fun _ h => List.mem_append_right _ h) (by decide +kernel))
set_option maxRecDepth 20000 in
theorem gL_law_L_retire : GoodIn wsL_law (va_wsS RL 101 yL_retire wsL_retire) := goodIn_app (goodIn_of _ (by decide +kernel)) ggL_law_L_retire
set_option maxRecDepth 20000 in
theorem ggL_law_X5_retire : GoodIn wsL_law wsX5_retire := goodIn_r _ [230, 62, 120, 178, 179, 180, 5, 181, 182, 183, 184, 185, 124, 125, 126, 127, 128, 129, 130, 131, 630, 631, 632, 633, 634, 635, 636, 637, 638, 639, 640, 641, 642] (by decide +kernel) (by decide +kernel)
set_option maxRecDepth 20000 in
theorem gL_law_X5_retire : GoodIn wsL_law (wsV RL 104 RX5 yX5_retire wsX5_retire) := goodIn_app (goodIn_of _ (by decide +kernel)) ggL_law_X5_retire
set_option maxRecDepth 20000 in
theorem ggL_law_X4_tunes : GoodIn wsL_law wsX4_tunes := goodIn_r _ [234, 81, 623, 624, 625, 626, 627, 628, 629] (by decide +kernel) (by decide +kernel)
set_option maxRecDepth 20000 in
theorem gL_law_X4_tunes : GoodIn wsL_law (wsV RL 105 RX4 yX4_tunes wsX4_tunes) := goodIn_app (goodIn_of _ (by decide +kernel)) ggL_law_X4_tunes
set_option maxRecDepth 20000 in
theorem ggL_law_X5_tunes : GoodIn wsL_law wsX5_tunes := goodIn_r _ [238, 131, 120, 630, 631, 632, 633, 634, 635, 636, 637, 638, 639, 640, 641, 642] (by decide +kernel) (by decide +kernel)
set_option maxRecDepth 20000 in
theorem gL_law_X5_tunes : GoodIn wsL_law (wsV RL 108 RX5 yX5_tunes wsX5_tunes) := goodIn_app (goodIn_of _ (by decide +kernel)) ggL_law_X5_tunes
set_option maxRecDepth 20000 in
theorem ggL_law_L_notes : GoodIn wsL_law wsL_notes := goodIn_ca (goodIn_r _ [241, 143, 242, 243, 244, 2, 245, 246, 247, 248, 249, 152, 153, 158, 159, 160, 161, 81, 14, 166, 167, 168, 83, 169, 99, 170, 171, 172, 17, 173, 110, 623, 624, 625, 626, 627, 628, 629, 651, 652, 653, 643, 644] (by decide +kernel) (by decide +kernel)) (goodIn_sub (fun _ h => List.mem_append_right _ h) (by decide +kernel))
set_option maxRecDepth 20000 in
theorem gL_law_L_notes : GoodIn wsL_law (va_wsS RL 109 yL_notes wsL_notes) := goodIn_app (goodIn_of _ (by decide +kernel)) ggL_law_L_notes
set_option maxRecDepth 20000 in
theorem ggL_law_X5_notes : GoodIn wsL_law wsX5_notes := goodIn_r _ [253, 60, 182, 183, 184, 5, 185, 120, 124, 125, 126, 127, 128, 129, 130, 131, 630, 631, 632, 633, 634, 635, 636, 637, 638, 639, 640, 641, 642] (by decide +kernel) (by decide +kernel)
set_option maxRecDepth 20000 in
theorem gL_law_X5_notes : GoodIn wsL_law (wsV RL 111 RX5 yX5_notes wsX5_notes) := goodIn_app (goodIn_of _ (by decide +kernel)) ggL_law_X5_notes
set_option maxRecDepth 20000 in
theorem ggL_law_L_step : GoodIn wsL_law wsL_step := goodIn_ca (goodIn_r _ [256, 143, 257, 258, 259, 2, 260, 152, 153, 246, 247, 248, 249, 158, 159, 160, 161, 81, 14, 166, 167, 168, 83, 169, 99, 170, 171, 172, 17, 173, 110, 261, 262, 263, 264, 265, 194, 195, 196, 38, 651, 652, 653, 623, 624, 625, 626, 627, 628, 629, 643, 644] (by decide +kernel) (by decide +kernel)) (goodIn_sub (fun _ h => List.mem_append_right _ h) (by decide +kernel))
set_option maxRecDepth 20000 in
theorem gL_law_L_step : GoodIn wsL_law (va_wsS RL 112 yL_step wsL_step) := goodIn_app (goodIn_of _ (by decide +kernel)) ggL_law_L_step
set_option maxRecDepth 20000 in
theorem ggL_law_X5_step : GoodIn wsL_law wsX5_step := goodIn_r _ [269, 60, 182, 183, 184, 5, 185, 120, 124, 125, 126, 127, 128, 129, 130, 131, 270, 271, 272, 273, 58, 630, 631, 632, 633, 634, 635, 636, 637, 638, 639, 640, 641, 642] (by decide +kernel) (by decide +kernel)
set_option maxRecDepth 20000 in
theorem gL_law_X5_step : GoodIn wsL_law (wsV RL 114 RX5 yX5_step wsX5_step) := goodIn_app (goodIn_of _ (by decide +kernel)) ggL_law_X5_step
set_option maxRecDepth 20000 in
theorem ggL_law_L_shared : GoodIn wsL_law wsL_shared := goodIn_ca (goodIn_r _ [276, 143, 277, 278, 279, 2, 280, 281, 34, 35, 36, 246, 247, 248, 249, 152, 153, 158, 159, 160, 161, 81, 14, 282, 171, 172, 17, 173, 110, 283, 284, 285, 286, 287, 288, 289, 290, 262, 263, 264, 265, 194, 195, 196, 38, 651, 652, 653, 623, 624, 625, 626, 627, 628, 629, 643, 644] (by decide +kernel) (by decide +kernel)) (goodIn_sub (fun _ h => List.mem_append_right _ h) (by decide +kernel))
set_option maxRecDepth 20000 in
theorem gL_law_L_shared : GoodIn wsL_law (va_wsS RL 115 yL_shared wsL_shared) := goodIn_app (goodIn_of _ (by decide +kernel)) ggL_law_L_shared
set_option maxRecDepth 20000 in
theorem ggL_law_X5_shared : GoodIn wsL_law wsX5_shared := goodIn_r _ [294, 182, 183, 184, 5, 185, 120, 124, 125, 126, 127, 128, 129, 130, 131, 295, 296, 297, 298, 60, 270, 271, 272, 273, 58, 630, 631, 632, 633, 634, 635, 636, 637, 638, 639, 640, 641, 642] (by decide +kernel) (by decide +kernel)
set_option maxRecDepth 20000 in
theorem gL_law_X5_shared : GoodIn wsL_law (wsV RL 117 RX5 yX5_shared wsX5_shared) := goodIn_app (goodIn_of _ (by decide +kernel)) ggL_law_X5_shared
set_option maxRecDepth 20000 in
theorem ggL_law_L_hum : GoodIn wsL_law wsL_hum := goodIn_ca (goodIn_ca (goodIn_r _ [301, 73, 74, 302, 303, 304, 2, 305, 79, 80, 18, 87, 88, 89, 90, 91, 92, 93, 94, 162, 163, 164, 17, 165, 110, 38, 306, 107, 108, 109, 282, 171, 172, 173, 623, 624, 625, 626, 627, 628, 629, 643, 644] (by decide +kernel) (by decide +kernel)) (goodIn_sub (fun _ h => List.mem_append_left _ (List.mem_append_left _ (List.mem_append_right _ h))) (by decide +kernel))) (goodIn_sub (fun _ h => List.mem_append_left _ (List.mem_append_right _ h)) (by decide +kernel))
set_option maxRecDepth 20000 in
theorem gL_law_L_hum : GoodIn wsL_law (va_wsS RL 118 yL_hum wsL_hum) := goodIn_app (goodIn_of _ (by decide +kernel)) ggL_law_L_hum
set_option maxRecDepth 20000 in
theorem ggL_law_X5_hum : GoodIn wsL_law wsX5_hum := goodIn_r _ [310, 311, 63, 124, 125, 5, 126, 127, 128, 129, 130, 131, 630, 631, 632, 633, 634, 635, 636, 637, 638, 639, 640, 641, 642] (by decide +kernel) (by decide +kernel)
set_option maxRecDepth 20000 in
theorem gL_law_X5_hum : GoodIn wsL_law (wsV RL 120 RX5 yX5_hum wsX5_hum) := goodIn_app (goodIn_of _ (by decide +kernel)) ggL_law_X5_hum
set_option maxRecDepth 20000 in
theorem ggL_law_X4_hush : GoodIn wsL_law wsX4_hush := goodIn_r _ [315, 18, 282, 171, 172, 17, 173, 110, 316, 317, 318, 319, 623, 624, 625, 626, 627, 628, 629, 643, 644] (by decide +kernel) (by decide +kernel)
set_option maxRecDepth 20000 in
theorem gL_law_X4_hush : GoodIn wsL_law (wsV RL 121 RX4 yX4_hush wsX4_hush) := goodIn_app (goodIn_of _ (by decide +kernel)) ggL_law_X4_hush
set_option maxRecDepth 20000 in
theorem ggL_law_X5_hush : GoodIn wsL_law wsX5_hush := goodIn_r _ [323, 131, 311, 630, 631, 632, 633, 634, 635, 636, 637, 638, 639, 640, 641, 642] (by decide +kernel) (by decide +kernel)
set_option maxRecDepth 20000 in
theorem gL_law_X5_hush : GoodIn wsL_law (wsV RL 124 RX5 yX5_hush wsX5_hush) := goodIn_app (goodIn_of _ (by decide +kernel)) ggL_law_X5_hush
set_option maxRecDepth 20000 in
theorem ggL_law_X4_hummed : GoodIn wsL_law wsX4_hummed := goodIn_r _ [327, 18, 282, 171, 172, 17, 173, 110, 623, 624, 625, 626, 627, 628, 629, 643, 644] (by decide +kernel) (by decide +kernel)
set_option maxRecDepth 20000 in
theorem gL_law_X4_hummed : GoodIn wsL_law (wsV RL 125 RX4 yX4_hummed wsX4_hummed) := goodIn_app (goodIn_of _ (by decide +kernel)) ggL_law_X4_hummed
set_option maxRecDepth 20000 in
theorem ggL_law_X5_hummed : GoodIn wsL_law wsX5_hummed := goodIn_r _ [331, 131, 311, 630, 631, 632, 633, 634, 635, 636, 637, 638, 639, 640, 641, 642] (by decide +kernel) (by decide +kernel)
set_option maxRecDepth 20000 in
theorem gL_law_X5_hummed : GoodIn wsL_law (wsV RL 128 RX5 yX5_hummed wsX5_hummed) := goodIn_app (goodIn_of _ (by decide +kernel)) ggL_law_X5_hummed
set_option maxRecDepth 20000 in
theorem ggL_law_L_setCosts : GoodIn wsL_law wsL_setCosts := goodIn_ca (goodIn_r _ [334, 73, 335, 336, 337, 2, 338, 22, 87, 88, 89, 90, 91, 92, 93, 94, 623, 624, 625, 626, 627, 628, 629, 645, 646, 647, 648, 649] (by decide +kernel) (by decide +kernel)) (goodIn_sub (fun _ h => List.mem_append_left _ (List.mem_append_right _ h)) (by decide +kernel))
set_option maxRecDepth 20000 in
theorem gL_law_L_setCosts : GoodIn wsL_law (va_wsS RL 129 yL_setCosts wsL_setCosts) := goodIn_app (goodIn_of _ (by decide +kernel)) ggL_law_L_setCosts
set_option maxRecDepth 20000 in
theorem ggL_law_X5_setCosts : GoodIn wsL_law wsX5_setCosts := goodIn_r _ [342, 64, 65, 66, 124, 125, 5, 126, 127, 128, 129, 130, 131, 630, 631, 632, 633, 634, 635, 636, 637, 638, 639, 640, 641, 642] (by decide +kernel) (by decide +kernel)
set_option maxRecDepth 20000 in
theorem gL_law_X5_setCosts : GoodIn wsL_law (wsV RL 132 RX5 yX5_setCosts wsX5_setCosts) := goodIn_app (goodIn_of _ (by decide +kernel)) ggL_law_X5_setCosts
set_option maxRecDepth 20000 in
theorem ggL_law_L_cost : GoodIn wsL_law wsL_cost := goodIn_ca (goodIn_r _ [345, 143, 346, 347, 348, 2, 349, 22, 148, 149, 150, 151, 152, 153, 154, 155, 156, 157, 158, 159, 160, 161, 81, 14, 350, 351, 352, 21, 353, 47, 354, 171, 172, 17, 173, 110, 355, 167, 168, 83, 169, 99, 170, 356, 357, 358, 359, 360, 361, 362, 363, 364, 365, 366, 367, 46, 93, 94, 368, 369, 370, 371, 43, 372, 373, 35, 374, 44, 45, 375, 194, 195, 196, 38, 376, 377, 378, 379, 34, 36, 380, 288, 289, 381, 382, 383, 384, 623, 624, 625, 626, 627, 628, 629, 651, 652, 653, 645, 646, 647, 648, 649, 643, 644] (by decide +kernel) (by decide +kernel)) (goodIn_sub (fun _ h => List.mem_append_right _ h) (by decide +kernel))
set_option maxRecDepth 20000 in
theorem gL_law_L_cost : GoodIn wsL_law (va_wsS RL 133 yL_cost wsL_cost) := goodIn_app (goodIn_of _ (by decide +kernel)) ggL_law_L_cost
set_option maxRecDepth 20000 in
theorem ggL_law_X5_cost : GoodIn wsL_law wsX5_cost := goodIn_r _ [388, 178, 179, 180, 5, 181, 62, 182, 183, 184, 185, 120, 124, 125, 126, 127, 128, 129, 130, 131, 389, 390, 391, 392, 393, 311, 67, 60, 394, 395, 396, 397, 58, 63, 64, 398, 399, 400, 401, 65, 59, 402, 403, 404, 405, 66, 406, 407, 408, 630, 631, 632, 633, 634, 635, 636, 637, 638, 639, 640, 641, 642] (by decide +kernel) (by decide +kernel)
set_option maxRecDepth 20000 in
theorem gL_law_X5_cost : GoodIn wsL_law (wsV RL 135 RX5 yX5_cost wsX5_cost) := goodIn_app (goodIn_of _ (by decide +kernel)) ggL_law_X5_cost
set_option maxRecDepth 20000 in
theorem ggL_law_L_costByAll : GoodIn wsL_law wsL_costByAll := goodIn_ca (goodIn_ca (goodIn_r _ [411, 143, 74, 412, 413, 414, 2, 415, 79, 80, 18, 22, 148, 149, 150, 151, 152, 153, 154, 155, 156, 157, 158, 159, 160, 161, 81, 14, 282, 171, 172, 17, 173, 110, 416, 417, 418, 21, 419, 47, 354, 420, 421, 422, 423, 424, 425, 426, 376, 377, 378, 379, 34, 35, 36, 380, 288, 289, 427, 355, 167, 168, 83, 169, 99, 170, 368, 369, 370, 371, 43, 372, 373, 374, 44, 45, 375, 194, 195, 196, 38, 623, 624, 625, 626, 627, 628, 629, 651, 652, 653, 643, 644, 645, 646, 647, 648, 649] (by decide +kernel) (by decide +kernel)) (goodIn_sub (fun _ h => List.mem_append_left _ (List.mem_append_left _ (List.mem_append_right _ h))) (by decide +kernel))) (goodIn_sub (fun _ h => List.mem_append_right _ h) (by decide +kernel))
set_option maxRecDepth 20000 in
theorem gL_law_L_costByAll : GoodIn wsL_law (va_wsS RL 136 yL_costByAll wsL_costByAll) := goodIn_app (goodIn_of _ (by decide +kernel)) ggL_law_L_costByAll
set_option maxRecDepth 20000 in
theorem ggL_law_X5_costByAll : GoodIn wsL_law wsX5_costByAll := goodIn_r _ [431, 311, 178, 179, 180, 5, 181, 62, 182, 183, 184, 185, 120, 124, 125, 126, 127, 128, 129, 130, 131, 389, 390, 391, 392, 393, 67, 60, 394, 395, 396, 397, 58, 63, 64, 398, 399, 400, 401, 65, 59, 402, 403, 404, 405, 66, 406, 407, 408, 630, 631, 632, 633, 634, 635, 636, 637, 638, 639, 640, 641, 642] (by decide +kernel) (by decide +kernel)
set_option maxRecDepth 20000 in
theorem gL_law_X5_costByAll : GoodIn wsL_law (wsV RL 138 RX5 yX5_costByAll wsX5_costByAll) := goodIn_app (goodIn_of _ (by decide +kernel)) ggL_law_X5_costByAll
set_option maxRecDepth 20000 in
theorem ggL_law_X4_matches : GoodIn wsL_law wsX4_matches := goodIn_r _ [435, 27, 436, 437, 438, 2, 439, 81, 22, 316, 317, 318, 17, 319, 110, 154, 155, 156, 157, 158, 159, 160, 161, 14, 350, 351, 352, 21, 353, 47, 354, 171, 172, 173, 355, 167, 168, 83, 169, 99, 170, 356, 357, 358, 359, 360, 361, 362, 363, 364, 365, 366, 367, 46, 93, 94, 368, 369, 370, 371, 43, 372, 373, 35, 374, 44, 45, 375, 194, 195, 196, 38, 376, 377, 378, 379, 34, 36, 380, 288, 289, 381, 382, 383, 384, 306, 107, 108, 109, 282, 193, 623, 624, 625, 626, 627, 628, 629, 643, 644, 651, 652, 653, 645, 646, 647, 648, 649] (by decide +kernel) (by decide +kernel)
set_option maxRecDepth 20000 in
theorem gL_law_X4_matches : GoodIn wsL_law (wsV RL 139 RX4 yX4_matches wsX4_matches) := goodIn_app (goodIn_of _ (by decide +kernel)) ggL_law_X4_matches
set_option maxRecDepth 20000 in
theorem ggL_law_X5_matches : GoodIn wsL_law wsX5_matches := goodIn_r _ [443, 131, 444, 445, 446, 5, 447, 120, 178, 179, 180, 181, 62, 182, 183, 184, 185, 124, 125, 126, 389, 390, 391, 392, 393, 311, 67, 60, 394, 395, 396, 397, 58, 63, 64, 398, 399, 400, 401, 65, 59, 402, 403, 404, 405, 66, 406, 407, 408, 630, 631, 632, 633, 634, 635, 636, 637, 638, 639, 640, 641, 642] (by decide +kernel) (by decide +kernel)
set_option maxRecDepth 20000 in
theorem gL_law_X5_matches : GoodIn wsL_law (wsV RL 142 RX5 yX5_matches wsX5_matches) := goodIn_app (goodIn_of _ (by decide +kernel)) ggL_law_X5_matches
set_option maxRecDepth 20000 in
theorem ggL_law_L_found : GoodIn wsL_law wsL_found := goodIn_ca (goodIn_r _ [450, 143, 451, 452, 453, 2, 454, 152, 153, 27, 436, 437, 438, 439, 81, 22, 316, 317, 318, 17, 319, 110, 154, 155, 156, 157, 158, 159, 160, 161, 14, 350, 351, 352, 21, 353, 47, 354, 171, 172, 173, 355, 167, 168, 83, 169, 99, 170, 356, 357, 358, 359, 360, 361, 362, 363, 364, 365, 366, 367, 46, 93, 94, 368, 369, 370, 371, 43, 372, 373, 35, 374, 44, 45, 375, 194, 195, 196, 38, 376, 377, 378, 379, 34, 36, 380, 288, 289, 381, 382, 383, 384, 306, 107, 108, 109, 282, 193, 455, 456, 457, 458, 623, 624, 625, 626, 627, 628, 629, 643, 644, 651, 652, 653, 645, 646, 647, 648, 649] (by decide +kernel) (by decide +kernel)) (goodIn_sub (fun _ h => List.mem_append_right _ h) (by decide +kernel))
set_option maxRecDepth 20000 in
theorem gL_law_L_found : GoodIn wsL_law (va_wsS RL 143 yL_found wsL_found) := goodIn_app (goodIn_of _ (by decide +kernel)) ggL_law_L_found
set_option maxRecDepth 20000 in
theorem ggL_law_X5_found : GoodIn wsL_law wsX5_found := goodIn_r _ [462, 444, 445, 446, 5, 447, 120, 178, 179, 180, 181, 62, 182, 183, 184, 185, 124, 125, 126, 389, 390, 391, 392, 393, 311, 67, 60, 394, 395, 396, 397, 58, 63, 64, 398, 399, 400, 401, 65, 59, 402, 403, 404, 405, 66, 406, 407, 408, 127, 128, 129, 130, 131, 463, 464, 465, 466, 630, 631, 632, 633, 634, 635, 636, 637, 638, 639, 640, 641, 642] (by decide +kernel) (by decide +kernel)
set_option maxRecDepth 20000 in
theorem gL_law_X5_found : GoodIn wsL_law (wsV RL 145 RX5 yX5_found wsX5_found) := goodIn_app (goodIn_of _ (by decide +kernel)) ggL_law_X5_found
set_option maxRecDepth 20000 in
theorem ggL_law_X4_likeContour : GoodIn wsL_law wsX4_likeContour := goodIn_r _ [470, 81, 18, 154, 155, 156, 2, 157, 158, 159, 160, 161, 14, 471, 472, 473, 17, 474, 110, 290, 262, 263, 264, 265, 194, 195, 196, 38, 475, 476, 477, 623, 624, 625, 626, 627, 628, 629, 651, 652, 653, 643, 644] (by decide +kernel) (by decide +kernel)
set_option maxRecDepth 20000 in
theorem gL_law_X4_likeContour : GoodIn wsL_law (wsV RL 146 RX4 yX4_likeContour wsX4_likeContour) := goodIn_app (goodIn_of _ (by decide +kernel)) ggL_law_X4_likeContour
set_option maxRecDepth 20000 in
theorem ggL_law_X5_likeContour : GoodIn wsL_law wsX5_likeContour := goodIn_r _ [481, 131, 120, 178, 179, 180, 5, 181, 62, 182, 183, 184, 185, 124, 125, 126, 482, 483, 484, 485, 311, 60, 63, 270, 271, 272, 273, 58, 486, 487, 488, 630, 631, 632, 633, 634, 635, 636, 637, 638, 639, 640, 641, 642] (by decide +kernel) (by decide +kernel)
set_option maxRecDepth 20000 in
theorem gL_law_X5_likeContour : GoodIn wsL_law (wsV RL 149 RX5 yX5_likeContour wsX5_likeContour) := goodIn_app (goodIn_of _ (by decide +kernel)) ggL_law_X5_likeContour
set_option maxRecDepth 20000 in
theorem ggL_law_L_places : GoodIn wsL_law wsL_places := goodIn_ca (goodIn_ca (goodIn_r _ [491, 73, 74, 492, 493, 494, 2, 495, 28, 496, 497, 498, 499, 79, 80, 18, 87, 88, 89, 90, 91, 92, 93, 94, 282, 171, 172, 17, 173, 110, 500, 501, 502, 503, 81, 316, 317, 318, 319, 154, 155, 156, 157, 158, 159, 160, 161, 14, 504, 505, 506, 507, 283, 284, 285, 286, 287, 288, 35, 289, 290, 262, 263, 264, 265, 194, 195, 196, 38, 306, 107, 108, 109, 623, 624, 625, 626, 627, 628, 629, 643, 644, 651, 652, 653] (by decide +kernel) (by decide +kernel)) (goodIn_sub (fun _ h => List.mem_append_left _ (List.mem_append_left _ (List.mem_append_right _ h))) (by decide +kernel))) (goodIn_sub (fun _ h => List.mem_append_left _ (List.mem_append_right _ h)) (by decide +kernel))
set_option maxRecDepth 20000 in
theorem gL_law_L_places : GoodIn wsL_law (va_wsS RL 150 yL_places wsL_places) := goodIn_app (goodIn_of _ (by decide +kernel)) ggL_law_L_places
set_option maxRecDepth 20000 in
theorem ggL_law_X5_places : GoodIn wsL_law wsX5_places := goodIn_r _ [511, 512, 513, 514, 5, 515, 311, 124, 125, 126, 127, 128, 129, 130, 131, 516, 517, 518, 519, 120, 60, 520, 521, 522, 523, 63, 62, 270, 271, 272, 273, 58, 630, 631, 632, 633, 634, 635, 636, 637, 638, 639, 640, 641, 642] (by decide +kernel) (by decide +kernel)
set_option maxRecDepth 20000 in
theorem gL_law_X5_places : GoodIn wsL_law (wsV RL 152 RX5 yX5_places wsX5_places) := goodIn_app (goodIn_of _ (by decide +kernel)) ggL_law_X5_places
set_option maxRecDepth 20000 in
theorem ggL_law_L_place : GoodIn wsL_law wsL_place := goodIn_ca (goodIn_ca (goodIn_ca (goodIn_r _ [526, 73, 74, 143, 527, 528, 529, 2, 530, 152, 153, 28, 496, 497, 498, 499, 79, 80, 18, 87, 88, 89, 90, 91, 92, 93, 94, 282, 171, 172, 17, 173, 110, 500, 501, 502, 503, 81, 316, 317, 318, 319, 154, 155, 156, 157, 158, 159, 160, 161, 14, 504, 505, 506, 507, 283, 284, 285, 286, 287, 288, 35, 289, 290, 262, 263, 264, 265, 194, 195, 196, 38, 306, 107, 108, 109, 193, 623, 624, 625, 626, 627, 628, 629, 643, 644, 651, 652, 653] (by decide +kernel) (by decide +kernel)) (goodIn_sub (fun _ h => List.mem_append_right _ h) (by decide +kernel))) (goodIn_sub (fun _ h => List.mem_append_left _ (List.mem_append_left _ (List.mem_append_right _ h))) (by decide +kernel))) (goodIn_sub (fun _ h => List.mem_append_left _ (List.mem_append_right _ h)) (by decide +kernel))
set_option maxRecDepth 20000 in
theorem gL_law_L_place : GoodIn wsL_law (va_wsS RL 153 yL_place wsL_place) := goodIn_app (goodIn_of _ (by decide +kernel)) ggL_law_L_place
set_option maxRecDepth 20000 in
theorem ggL_law_X5_place : GoodIn wsL_law wsX5_place := goodIn_r _ [534, 60, 512, 513, 514, 5, 515, 311, 124, 125, 126, 516, 517, 518, 519, 120, 520, 521, 522, 523, 63, 62, 270, 271, 272, 273, 58, 127, 128, 129, 130, 131, 630, 631, 632, 633, 634, 635, 636, 637, 638, 639, 640, 641, 642] (by decide +kernel) (by decide +kernel)
set_option maxRecDepth 20000 in
theorem gL_law_X5_place : GoodIn wsL_law (wsV RL 155 RX5 yX5_place wsX5_place) := goodIn_app (goodIn_of _ (by decide +kernel)) ggL_law_X5_place
set_option maxRecDepth 20000 in
theorem ggL_law_L_link : GoodIn wsL_law wsL_link := goodIn_ca (goodIn_ca (goodIn_ca (goodIn_r _ [537, 143, 73, 74, 538, 539, 540, 2, 541, 90, 91, 79, 80, 26, 542, 543, 544, 545, 246, 247, 248, 249, 152, 153, 158, 159, 160, 161, 81, 14, 546, 547, 548, 25, 549, 52, 550, 194, 195, 17, 196, 110, 38, 551, 552, 553, 554, 555, 556, 557, 558, 198, 199, 200, 559, 560, 561, 562, 563, 171, 172, 173, 564, 565, 566, 567, 568, 569, 570, 571, 623, 624, 625, 626, 627, 628, 629, 650, 643, 644] (by decide +kernel) (by decide +kernel)) (goodIn_sub (fun _ h => List.mem_append_left _ (List.mem_append_right _ h)) (by decide +kernel))) (goodIn_sub (fun _ h => List.mem_append_left _ (List.mem_append_left _ (List.mem_append_right _ h))) (by decide +kernel))) (goodIn_sub (fun _ h => List.mem_append_right _ h) (by decide +kernel))
set_option maxRecDepth 20000 in
theorem gL_law_L_link : GoodIn wsL_law (va_wsS RL 156 yL_link wsL_link) := goodIn_app (goodIn_of _ (by decide +kernel)) ggL_law_L_link
set_option maxRecDepth 20000 in
theorem ggL_law_X5_link : GoodIn wsL_law wsX5_link := goodIn_r _ [575, 68, 182, 183, 184, 5, 185, 120, 124, 125, 126, 576, 577, 578, 579, 127, 128, 129, 130, 131, 580, 581, 582, 583, 584, 585, 586, 587, 588, 589, 590, 591, 630, 631, 632, 633, 634, 635, 636, 637, 638, 639, 640, 641, 642] (by decide +kernel) (by decide +kernel)
set_option maxRecDepth 20000 in
theorem gL_law_X5_link : GoodIn wsL_law (wsV RL 158 RX5 yX5_link wsX5_link) := goodIn_app (goodIn_of _ (by decide +kernel)) ggL_law_X5_link
set_option maxRecDepth 20000 in
theorem ggL_law_L_cut : GoodIn wsL_law wsL_cut := goodIn_ca (goodIn_ca (goodIn_r _ [594, 143, 74, 595, 596, 597, 2, 598, 79, 80, 26, 542, 543, 544, 545, 246, 247, 248, 249, 152, 153, 158, 159, 160, 161, 81, 14, 546, 547, 548, 25, 549, 52, 550, 194, 195, 17, 196, 110, 38, 551, 552, 553, 554, 555, 556, 557, 558, 198, 199, 200, 559, 560, 561, 562, 563, 171, 172, 173, 564, 565, 566, 567, 568, 569, 570, 571, 623, 624, 625, 626, 627, 628, 629, 650, 643, 644] (by decide +kernel) (by decide +kernel)) (goodIn_sub (fun _ h => List.mem_append_left _ (List.mem_append_left _ (List.mem_append_right _ h))) (by decide +kernel))) (goodIn_sub (fun _ h => List.mem_append_right _ h) (by decide +kernel))
set_option maxRecDepth 20000 in
theorem gL_law_L_cut : GoodIn wsL_law (va_wsS RL 159 yL_cut wsL_cut) := goodIn_app (goodIn_of _ (by decide +kernel)) ggL_law_L_cut
set_option maxRecDepth 20000 in
theorem ggL_law_X5_cut : GoodIn wsL_law wsX5_cut := goodIn_r _ [602, 68, 182, 183, 184, 5, 185, 120, 124, 125, 126, 576, 577, 578, 579, 127, 128, 129, 130, 131, 580, 581, 582, 583, 584, 585, 586, 587, 588, 589, 590, 591, 630, 631, 632, 633, 634, 635, 636, 637, 638, 639, 640, 641, 642] (by decide +kernel) (by decide +kernel)
set_option maxRecDepth 20000 in
theorem gL_law_X5_cut : GoodIn wsL_law (wsV RL 161 RX5 yX5_cut wsX5_cut) := goodIn_app (goodIn_of _ (by decide +kernel)) ggL_law_X5_cut
set_option maxRecDepth 20000 in
theorem ggL_law_L_family : GoodIn wsL_law wsL_family := goodIn_ca (goodIn_r _ [605, 143, 606, 607, 608, 2, 609, 26, 246, 247, 248, 249, 152, 153, 158, 159, 160, 161, 81, 14, 610, 565, 566, 25, 567, 52, 551, 552, 553, 563, 171, 172, 17, 173, 110, 568, 569, 570, 571, 550, 194, 195, 196, 38, 623, 624, 625, 626, 627, 628, 629, 650, 643, 644] (by decide +kernel) (by decide +kernel)) (goodIn_sub (fun _ h => List.mem_append_right _ h) (by decide +kernel))
set_option maxRecDepth 20000 in
theorem gL_law_L_family : GoodIn wsL_law (va_wsS RL 162 yL_family wsL_family) := goodIn_app (goodIn_of _ (by decide +kernel)) ggL_law_L_family
set_option maxRecDepth 20000 in
theorem ggL_law_X5_family : GoodIn wsL_law wsX5_family := goodIn_r _ [614, 182, 183, 184, 5, 185, 120, 124, 125, 126, 127, 128, 129, 130, 131, 584, 585, 586, 587, 588, 589, 590, 591, 68, 630, 631, 632, 633, 634, 635, 636, 637, 638, 639, 640, 641, 642] (by decide +kernel) (by decide +kernel)
set_option maxRecDepth 20000 in
theorem gL_law_X5_family : GoodIn wsL_law (wsV RL 164 RX5 yX5_family wsX5_family) := goodIn_app (goodIn_of _ (by decide +kernel)) ggL_law_X5_family
set_option maxRecDepth 20000 in
theorem ggL_law_X4_families : GoodIn wsL_law wsX4_families := goodIn_r _ [618, 26, 559, 560, 561, 25, 562, 52, 563, 171, 172, 17, 173, 110, 564, 565, 566, 567, 551, 552, 553, 568, 569, 570, 571, 550, 194, 195, 196, 38, 623, 624, 625, 626, 627, 628, 629, 650, 643, 644] (by decide +kernel) (by decide +kernel)
set_option maxRecDepth 20000 in
theorem gL_law_X4_families : GoodIn wsL_law (wsV RL 165 RX4 yX4_families wsX4_families) := goodIn_app (goodIn_of _ (by decide +kernel)) ggL_law_X4_families
set_option maxRecDepth 20000 in
theorem ggL_law_X5_families : GoodIn wsL_law wsX5_families := goodIn_r _ [622, 131, 580, 581, 582, 5, 583, 120, 584, 585, 586, 587, 588, 589, 590, 591, 68, 630, 631, 632, 633, 634, 635, 636, 637, 638, 639, 640, 641, 642] (by decide +kernel) (by decide +kernel)
set_option maxRecDepth 20000 in
theorem gL_law_X5_families : GoodIn wsL_law (wsV RL 168 RX5 yX5_families wsX5_families) := goodIn_app (goodIn_of _ (by decide +kernel)) ggL_law_X5_families
end
section
theorem dX0_init_0 : decode cX0_init 0 = .ok (.aload_n 0, 1) := by decide +kernel
theorem dX0_init_1 : decode cX0_init 1 = .ok (.invokespecial 3, 3) := by decide +kernel
theorem dX0_init_4 : decode cX0_init 4 = .ok (.aload_n 0, 1) := by decide +kernel
theorem dX0_init_5 : decode cX0_init 5 = .ok (.new 9, 3) := by decide +kernel
theorem dX0_init_8 : decode cX0_init 8 = .ok (.dup, 1) := by decide +kernel
theorem dX0_init_9 : decode cX0_init 9 = .ok (.bipush 16, 2) := by decide +kernel
theorem dX0_init_11 : decode cX0_init 11 = .ok (.invokespecial 11, 3) := by decide +kernel
theorem dX0_init_14 : decode cX0_init 14 = .ok (.putfield 14, 3) := by decide +kernel
theorem dX0_init_17 : decode cX0_init 17 = .ok (.return_, 1) := by decide +kernel
theorem dX0_admitTune_0 : decode cX0_admitTune 0 = .ok (.aload_n 0, 1) := by decide +kernel
theorem dX0_admitTune_1 : decode cX0_admitTune 1 = .ok (.getfield 14, 3) := by decide +kernel
theorem dX0_admitTune_4 : decode cX0_admitTune 4 = .ok (.iconst 0, 1) := by decide +kernel
theorem dX0_admitTune_5 : decode cX0_admitTune 5 = .ok (.invokevirtual 20, 3) := by decide +kernel
theorem dX0_admitTune_8 : decode cX0_admitTune 8 = .ok (.return_, 1) := by decide +kernel
theorem dX0_areLinked_0 : decode cX0_areLinked 0 = .ok (.aload_n 0, 1) := by decide +kernel
theorem dX0_areLinked_1 : decode cX0_areLinked 1 = .ok (.getfield 14, 3) := by decide +kernel
theorem dX0_areLinked_4 : decode cX0_areLinked 4 = .ok (.iload_n 1, 1) := by decide +kernel
theorem dX0_areLinked_5 : decode cX0_areLinked 5 = .ok (.invokevirtual 23, 3) := by decide +kernel
theorem dX0_areLinked_8 : decode cX0_areLinked 8 = .ok (.iload_n 2, 1) := by decide +kernel
theorem dX0_areLinked_9 : decode cX0_areLinked 9 = .ok (.invokestatic 27, 3) := by decide +kernel
theorem dX0_areLinked_12 : decode cX0_areLinked 12 = .ok (.iand, 1) := by decide +kernel
theorem dX0_areLinked_13 : decode cX0_areLinked 13 = .ok (.ifCond .eq 7, 3) := by decide +kernel
theorem dX0_areLinked_16 : decode cX0_areLinked 16 = .ok (.iconst 1, 1) := by decide +kernel
theorem dX0_areLinked_17 : decode cX0_areLinked 17 = .ok (.goto 4, 3) := by decide +kernel
theorem dX0_areLinked_20 : decode cX0_areLinked 20 = .ok (.iconst 0, 1) := by decide +kernel
theorem dX0_areLinked_21 : decode cX0_areLinked 21 = .ok (.ireturn, 1) := by decide +kernel
theorem dX0_toggle_0 : decode cX0_toggle 0 = .ok (.aload_n 0, 1) := by decide +kernel
theorem dX0_toggle_1 : decode cX0_toggle 1 = .ok (.getfield 14, 3) := by decide +kernel
theorem dX0_toggle_4 : decode cX0_toggle 4 = .ok (.iload_n 1, 1) := by decide +kernel
theorem dX0_toggle_5 : decode cX0_toggle 5 = .ok (.aload_n 0, 1) := by decide +kernel
theorem dX0_toggle_6 : decode cX0_toggle 6 = .ok (.getfield 14, 3) := by decide +kernel
theorem dX0_toggle_9 : decode cX0_toggle 9 = .ok (.iload_n 1, 1) := by decide +kernel
theorem dX0_toggle_10 : decode cX0_toggle 10 = .ok (.invokevirtual 23, 3) := by decide +kernel
theorem dX0_toggle_13 : decode cX0_toggle 13 = .ok (.iload_n 2, 1) := by decide +kernel
theorem dX0_toggle_14 : decode cX0_toggle 14 = .ok (.invokestatic 27, 3) := by decide +kernel
theorem dX0_toggle_17 : decode cX0_toggle 17 = .ok (.ixor, 1) := by decide +kernel
theorem dX0_toggle_18 : decode cX0_toggle 18 = .ok (.invokevirtual 30, 3) := by decide +kernel
theorem dX0_toggle_21 : decode cX0_toggle 21 = .ok (.aload_n 0, 1) := by decide +kernel
theorem dX0_toggle_22 : decode cX0_toggle 22 = .ok (.getfield 14, 3) := by decide +kernel
theorem dX0_toggle_25 : decode cX0_toggle 25 = .ok (.iload_n 2, 1) := by decide +kernel
theorem dX0_toggle_26 : decode cX0_toggle 26 = .ok (.aload_n 0, 1) := by decide +kernel
theorem dX0_toggle_27 : decode cX0_toggle 27 = .ok (.getfield 14, 3) := by decide +kernel
theorem dX0_toggle_30 : decode cX0_toggle 30 = .ok (.iload_n 2, 1) := by decide +kernel
theorem dX0_toggle_31 : decode cX0_toggle 31 = .ok (.invokevirtual 23, 3) := by decide +kernel
theorem dX0_toggle_34 : decode cX0_toggle 34 = .ok (.iload_n 1, 1) := by decide +kernel
theorem dX0_toggle_35 : decode cX0_toggle 35 = .ok (.invokestatic 27, 3) := by decide +kernel
theorem dX0_toggle_38 : decode cX0_toggle 38 = .ok (.ixor, 1) := by decide +kernel
theorem dX0_toggle_39 : decode cX0_toggle 39 = .ok (.invokevirtual 30, 3) := by decide +kernel
theorem dX0_toggle_42 : decode cX0_toggle 42 = .ok (.return_, 1) := by decide +kernel
theorem dX0_countFamilies_0 : decode cX0_countFamilies 0 = .ok (.iconst 0, 1) := by decide +kernel
theorem dX0_countFamilies_1 : decode cX0_countFamilies 1 = .ok (.istore_n 1, 1) := by decide +kernel
theorem dX0_countFamilies_2 : decode cX0_countFamilies 2 = .ok (.iconst 0, 1) := by decide +kernel
theorem dX0_countFamilies_3 : decode cX0_countFamilies 3 = .ok (.istore_n 2, 1) := by decide +kernel
theorem dX0_countFamilies_4 : decode cX0_countFamilies 4 = .ok (.iload_n 2, 1) := by decide +kernel
theorem dX0_countFamilies_5 : decode cX0_countFamilies 5 = .ok (.aload_n 0, 1) := by decide +kernel
theorem dX0_countFamilies_6 : decode cX0_countFamilies 6 = .ok (.getfield 14, 3) := by decide +kernel
theorem dX0_countFamilies_9 : decode cX0_countFamilies 9 = .ok (.invokevirtual 34, 3) := by decide +kernel
theorem dX0_countFamilies_12 : decode cX0_countFamilies 12 = .ok (.if_icmp .ge 21, 3) := by decide +kernel
theorem dX0_countFamilies_15 : decode cX0_countFamilies 15 = .ok (.aload_n 0, 1) := by decide +kernel
theorem dX0_countFamilies_16 : decode cX0_countFamilies 16 = .ok (.iload_n 2, 1) := by decide +kernel
theorem dX0_countFamilies_17 : decode cX0_countFamilies 17 = .ok (.invokevirtual 38, 3) := by decide +kernel
theorem dX0_countFamilies_20 : decode cX0_countFamilies 20 = .ok (.iload_n 2, 1) := by decide +kernel
theorem dX0_countFamilies_21 : decode cX0_countFamilies 21 = .ok (.if_icmp .ne 6, 3) := by decide +kernel
theorem dX0_countFamilies_24 : decode cX0_countFamilies 24 = .ok (.iinc 1 1, 3) := by decide +kernel
theorem dX0_countFamilies_27 : decode cX0_countFamilies 27 = .ok (.iinc 2 1, 3) := by decide +kernel
theorem dX0_countFamilies_30 : decode cX0_countFamilies 30 = .ok (.goto (-26), 3) := by decide +kernel
theorem dX0_countFamilies_33 : decode cX0_countFamilies 33 = .ok (.iload_n 1, 1) := by decide +kernel
theorem dX0_countFamilies_34 : decode cX0_countFamilies 34 = .ok (.ireturn, 1) := by decide +kernel
theorem dX0_lowestOfFamily_0 : decode cX0_lowestOfFamily 0 = .ok (.iload_n 1, 1) := by decide +kernel
theorem dX0_lowestOfFamily_1 : decode cX0_lowestOfFamily 1 = .ok (.invokestatic 27, 3) := by decide +kernel
theorem dX0_lowestOfFamily_4 : decode cX0_lowestOfFamily 4 = .ok (.istore_n 2, 1) := by decide +kernel
theorem dX0_lowestOfFamily_5 : decode cX0_lowestOfFamily 5 = .ok (.iconst 1, 1) := by decide +kernel
theorem dX0_lowestOfFamily_6 : decode cX0_lowestOfFamily 6 = .ok (.istore_n 3, 1) := by decide +kernel
theorem dX0_lowestOfFamily_7 : decode cX0_lowestOfFamily 7 = .ok (.iload_n 3, 1) := by decide +kernel
theorem dX0_lowestOfFamily_8 : decode cX0_lowestOfFamily 8 = .ok (.aload_n 0, 1) := by decide +kernel
theorem dX0_lowestOfFamily_9 : decode cX0_lowestOfFamily 9 = .ok (.getfield 14, 3) := by decide +kernel
theorem dX0_lowestOfFamily_12 : decode cX0_lowestOfFamily 12 = .ok (.invokevirtual 34, 3) := by decide +kernel
theorem dX0_lowestOfFamily_15 : decode cX0_lowestOfFamily 15 = .ok (.if_icmp .ge 15, 3) := by decide +kernel
theorem dX0_lowestOfFamily_18 : decode cX0_lowestOfFamily 18 = .ok (.aload_n 0, 1) := by decide +kernel
theorem dX0_lowestOfFamily_19 : decode cX0_lowestOfFamily 19 = .ok (.iload_n 2, 1) := by decide +kernel
theorem dX0_lowestOfFamily_20 : decode cX0_lowestOfFamily 20 = .ok (.invokevirtual 41, 3) := by decide +kernel
theorem dX0_lowestOfFamily_23 : decode cX0_lowestOfFamily 23 = .ok (.istore_n 2, 1) := by decide +kernel
theorem dX0_lowestOfFamily_24 : decode cX0_lowestOfFamily 24 = .ok (.iinc 3 1, 3) := by decide +kernel
theorem dX0_lowestOfFamily_27 : decode cX0_lowestOfFamily 27 = .ok (.goto (-20), 3) := by decide +kernel
theorem dX0_lowestOfFamily_30 : decode cX0_lowestOfFamily 30 = .ok (.iconst 0, 1) := by decide +kernel
theorem dX0_lowestOfFamily_31 : decode cX0_lowestOfFamily 31 = .ok (.istore_n 3, 1) := by decide +kernel
theorem dX0_lowestOfFamily_32 : decode cX0_lowestOfFamily 32 = .ok (.iload_n 3, 1) := by decide +kernel
theorem dX0_lowestOfFamily_33 : decode cX0_lowestOfFamily 33 = .ok (.iload_n 1, 1) := by decide +kernel
theorem dX0_lowestOfFamily_34 : decode cX0_lowestOfFamily 34 = .ok (.if_icmp .ge 18, 3) := by decide +kernel
theorem dX0_lowestOfFamily_37 : decode cX0_lowestOfFamily 37 = .ok (.iload_n 2, 1) := by decide +kernel
theorem dX0_lowestOfFamily_38 : decode cX0_lowestOfFamily 38 = .ok (.iload_n 3, 1) := by decide +kernel
theorem dX0_lowestOfFamily_39 : decode cX0_lowestOfFamily 39 = .ok (.invokestatic 27, 3) := by decide +kernel
theorem dX0_lowestOfFamily_42 : decode cX0_lowestOfFamily 42 = .ok (.iand, 1) := by decide +kernel
theorem dX0_lowestOfFamily_43 : decode cX0_lowestOfFamily 43 = .ok (.ifCond .ne 9, 3) := by decide +kernel
theorem dX0_lowestOfFamily_46 : decode cX0_lowestOfFamily 46 = .ok (.iinc 3 1, 3) := by decide +kernel
theorem dX0_lowestOfFamily_49 : decode cX0_lowestOfFamily 49 = .ok (.goto (-17), 3) := by decide +kernel
theorem dX0_lowestOfFamily_52 : decode cX0_lowestOfFamily 52 = .ok (.iload_n 3, 1) := by decide +kernel
theorem dX0_lowestOfFamily_53 : decode cX0_lowestOfFamily 53 = .ok (.ireturn, 1) := by decide +kernel
theorem dX0_withPartners_0 : decode cX0_withPartners 0 = .ok (.iload_n 1, 1) := by decide +kernel
theorem dX0_withPartners_1 : decode cX0_withPartners 1 = .ok (.istore_n 2, 1) := by decide +kernel
theorem dX0_withPartners_2 : decode cX0_withPartners 2 = .ok (.iconst 0, 1) := by decide +kernel
theorem dX0_withPartners_3 : decode cX0_withPartners 3 = .ok (.istore_n 3, 1) := by decide +kernel
theorem dX0_withPartners_4 : decode cX0_withPartners 4 = .ok (.iload_n 3, 1) := by decide +kernel
theorem dX0_withPartners_5 : decode cX0_withPartners 5 = .ok (.aload_n 0, 1) := by decide +kernel
theorem dX0_withPartners_6 : decode cX0_withPartners 6 = .ok (.getfield 14, 3) := by decide +kernel
theorem dX0_withPartners_9 : decode cX0_withPartners 9 = .ok (.invokevirtual 34, 3) := by decide +kernel
theorem dX0_withPartners_12 : decode cX0_withPartners 12 = .ok (.if_icmp .ge 29, 3) := by decide +kernel
theorem dX0_withPartners_15 : decode cX0_withPartners 15 = .ok (.iload_n 1, 1) := by decide +kernel
theorem dX0_withPartners_16 : decode cX0_withPartners 16 = .ok (.iload_n 3, 1) := by decide +kernel
theorem dX0_withPartners_17 : decode cX0_withPartners 17 = .ok (.invokestatic 27, 3) := by decide +kernel
theorem dX0_withPartners_20 : decode cX0_withPartners 20 = .ok (.iand, 1) := by decide +kernel
theorem dX0_withPartners_21 : decode cX0_withPartners 21 = .ok (.ifCond .eq 14, 3) := by decide +kernel
theorem dX0_withPartners_24 : decode cX0_withPartners 24 = .ok (.iload_n 2, 1) := by decide +kernel
theorem dX0_withPartners_25 : decode cX0_withPartners 25 = .ok (.aload_n 0, 1) := by decide +kernel
theorem dX0_withPartners_26 : decode cX0_withPartners 26 = .ok (.getfield 14, 3) := by decide +kernel
theorem dX0_withPartners_29 : decode cX0_withPartners 29 = .ok (.iload_n 3, 1) := by decide +kernel
theorem dX0_withPartners_30 : decode cX0_withPartners 30 = .ok (.invokevirtual 23, 3) := by decide +kernel
theorem dX0_withPartners_33 : decode cX0_withPartners 33 = .ok (.ior, 1) := by decide +kernel
theorem dX0_withPartners_34 : decode cX0_withPartners 34 = .ok (.istore_n 2, 1) := by decide +kernel
theorem dX0_withPartners_35 : decode cX0_withPartners 35 = .ok (.iinc 3 1, 3) := by decide +kernel
theorem dX0_withPartners_38 : decode cX0_withPartners 38 = .ok (.goto (-34), 3) := by decide +kernel
theorem dX0_withPartners_41 : decode cX0_withPartners 41 = .ok (.iload_n 2, 1) := by decide +kernel
theorem dX0_withPartners_42 : decode cX0_withPartners 42 = .ok (.ireturn, 1) := by decide +kernel
theorem dX0_setOf_0 : decode cX0_setOf 0 = .ok (.iconst 1, 1) := by decide +kernel
theorem dX0_setOf_1 : decode cX0_setOf 1 = .ok (.iload_n 0, 1) := by decide +kernel
theorem dX0_setOf_2 : decode cX0_setOf 2 = .ok (.ishl, 1) := by decide +kernel
theorem dX0_setOf_3 : decode cX0_setOf 3 = .ok (.ireturn, 1) := by decide +kernel
theorem dX1_init_0 : decode cX1_init 0 = .ok (.aload_n 0, 1) := by decide +kernel
theorem dX1_init_1 : decode cX1_init 1 = .ok (.invokespecial 3, 3) := by decide +kernel
theorem dX1_init_4 : decode cX1_init 4 = .ok (.aload_n 0, 1) := by decide +kernel
theorem dX1_init_5 : decode cX1_init 5 = .ok (.iconst 2, 1) := by decide +kernel
theorem dX1_init_6 : decode cX1_init 6 = .ok (.putfield 9, 3) := by decide +kernel
theorem dX1_init_9 : decode cX1_init 9 = .ok (.aload_n 0, 1) := by decide +kernel
theorem dX1_init_10 : decode cX1_init 10 = .ok (.iconst 3, 1) := by decide +kernel
theorem dX1_init_11 : decode cX1_init 11 = .ok (.putfield 15, 3) := by decide +kernel
theorem dX1_init_14 : decode cX1_init 14 = .ok (.aload_n 0, 1) := by decide +kernel
theorem dX1_init_15 : decode cX1_init 15 = .ok (.iconst 1, 1) := by decide +kernel
theorem dX1_init_16 : decode cX1_init 16 = .ok (.putfield 18, 3) := by decide +kernel
theorem dX1_init_19 : decode cX1_init 19 = .ok (.aload_n 0, 1) := by decide +kernel
theorem dX1_init_20 : decode cX1_init 20 = .ok (.sipush 288, 3) := by decide +kernel
theorem dX1_init_23 : decode cX1_init 23 = .ok (.newarray .int, 2) := by decide +kernel
theorem dX1_init_25 : decode cX1_init 25 = .ok (.putfield 21, 3) := by decide +kernel
theorem dX1_init_28 : decode cX1_init 28 = .ok (.aload_n 0, 1) := by decide +kernel
theorem dX1_init_29 : decode cX1_init 29 = .ok (.aload_n 1, 1) := by decide +kernel
theorem dX1_init_30 : decode cX1_init 30 = .ok (.putfield 25, 3) := by decide +kernel
theorem dX1_init_33 : decode cX1_init 33 = .ok (.return_, 1) := by decide +kernel
theorem dX1_cheapestByTable_0 : decode cX1_cheapestByTable 0 = .ok (.iconst 0, 1) := by decide +kernel
theorem dX1_cheapestByTable_1 : decode cX1_cheapestByTable 1 = .ok (.istore_n 2, 1) := by decide +kernel
theorem dX1_cheapestByTable_2 : decode cX1_cheapestByTable 2 = .ok (.iload_n 2, 1) := by decide +kernel
theorem dX1_cheapestByTable_3 : decode cX1_cheapestByTable 3 = .ok (.aload_n 0, 1) := by decide +kernel
theorem dX1_cheapestByTable_4 : decode cX1_cheapestByTable 4 = .ok (.getfield 25, 3) := by decide +kernel
theorem dX1_cheapestByTable_7 : decode cX1_cheapestByTable 7 = .ok (.invokevirtual 29, 3) := by decide +kernel
theorem dX1_cheapestByTable_10 : decode cX1_cheapestByTable 10 = .ok (.if_icmp .ge 38, 3) := by decide +kernel
theorem dX1_cheapestByTable_13 : decode cX1_cheapestByTable 13 = .ok (.iconst 0, 1) := by decide +kernel
theorem dX1_cheapestByTable_14 : decode cX1_cheapestByTable 14 = .ok (.istore_n 3, 1) := by decide +kernel
theorem dX1_cheapestByTable_15 : decode cX1_cheapestByTable 15 = .ok (.iload_n 3, 1) := by decide +kernel
theorem dX1_cheapestByTable_16 : decode cX1_cheapestByTable 16 = .ok (.aload_n 1, 1) := by decide +kernel
theorem dX1_cheapestByTable_17 : decode cX1_cheapestByTable 17 = .ok (.invokevirtual 35, 3) := by decide +kernel
theorem dX1_cheapestByTable_20 : decode cX1_cheapestByTable 20 = .ok (.if_icmp .ge 22, 3) := by decide +kernel
theorem dX1_cheapestByTable_23 : decode cX1_cheapestByTable 23 = .ok (.aload_n 0, 1) := by decide +kernel
theorem dX1_cheapestByTable_24 : decode cX1_cheapestByTable 24 = .ok (.iload_n 2, 1) := by decide +kernel
theorem dX1_cheapestByTable_25 : decode cX1_cheapestByTable 25 = .ok (.iload_n 3, 1) := by decide +kernel
theorem dX1_cheapestByTable_26 : decode cX1_cheapestByTable 26 = .ok (.aload_n 0, 1) := by decide +kernel
theorem dX1_cheapestByTable_27 : decode cX1_cheapestByTable 27 = .ok (.aload_n 1, 1) := by decide +kernel
theorem dX1_cheapestByTable_28 : decode cX1_cheapestByTable 28 = .ok (.iload_n 2, 1) := by decide +kernel
theorem dX1_cheapestByTable_29 : decode cX1_cheapestByTable 29 = .ok (.iload_n 3, 1) := by decide +kernel
theorem dX1_cheapestByTable_30 : decode cX1_cheapestByTable 30 = .ok (.invokevirtual 38, 3) := by decide +kernel
theorem dX1_cheapestByTable_33 : decode cX1_cheapestByTable 33 = .ok (.invokevirtual 42, 3) := by decide +kernel
theorem dX1_cheapestByTable_36 : decode cX1_cheapestByTable 36 = .ok (.iinc 3 1, 3) := by decide +kernel
theorem dX1_cheapestByTable_39 : decode cX1_cheapestByTable 39 = .ok (.goto (-24), 3) := by decide +kernel
theorem dX1_cheapestByTable_42 : decode cX1_cheapestByTable 42 = .ok (.iinc 2 1, 3) := by decide +kernel
theorem dX1_cheapestByTable_45 : decode cX1_cheapestByTable 45 = .ok (.goto (-43), 3) := by decide +kernel
theorem dX1_cheapestByTable_48 : decode cX1_cheapestByTable 48 = .ok (.iconst (-1), 1) := by decide +kernel
theorem dX1_cheapestByTable_49 : decode cX1_cheapestByTable 49 = .ok (.istore_n 2, 1) := by decide +kernel
theorem dX1_cheapestByTable_50 : decode cX1_cheapestByTable 50 = .ok (.iconst 0, 1) := by decide +kernel
theorem dX1_cheapestByTable_51 : decode cX1_cheapestByTable 51 = .ok (.istore_n 3, 1) := by decide +kernel
theorem dX1_cheapestByTable_52 : decode cX1_cheapestByTable 52 = .ok (.iload_n 3, 1) := by decide +kernel
theorem dX1_cheapestByTable_53 : decode cX1_cheapestByTable 53 = .ok (.aload_n 1, 1) := by decide +kernel
theorem dX1_cheapestByTable_54 : decode cX1_cheapestByTable 54 = .ok (.invokevirtual 35, 3) := by decide +kernel
theorem dX1_cheapestByTable_57 : decode cX1_cheapestByTable 57 = .ok (.if_icmp .ge 28, 3) := by decide +kernel
theorem dX1_cheapestByTable_60 : decode cX1_cheapestByTable 60 = .ok (.iload_n 2, 1) := by decide +kernel
theorem dX1_cheapestByTable_61 : decode cX1_cheapestByTable 61 = .ok (.aload_n 0, 1) := by decide +kernel
theorem dX1_cheapestByTable_62 : decode cX1_cheapestByTable 62 = .ok (.aload_n 0, 1) := by decide +kernel
theorem dX1_cheapestByTable_63 : decode cX1_cheapestByTable 63 = .ok (.getfield 25, 3) := by decide +kernel
theorem dX1_cheapestByTable_66 : decode cX1_cheapestByTable 66 = .ok (.invokevirtual 29, 3) := by decide +kernel
theorem dX1_cheapestByTable_69 : decode cX1_cheapestByTable 69 = .ok (.iconst 1, 1) := by decide +kernel
theorem dX1_cheapestByTable_70 : decode cX1_cheapestByTable 70 = .ok (.isub, 1) := by decide +kernel
theorem dX1_cheapestByTable_71 : decode cX1_cheapestByTable 71 = .ok (.iload_n 3, 1) := by decide +kernel
theorem dX1_cheapestByTable_72 : decode cX1_cheapestByTable 72 = .ok (.invokevirtual 46, 3) := by decide +kernel
theorem dX1_cheapestByTable_75 : decode cX1_cheapestByTable 75 = .ok (.invokestatic 50, 3) := by decide +kernel
theorem dX1_cheapestByTable_78 : decode cX1_cheapestByTable 78 = .ok (.istore_n 2, 1) := by decide +kernel
theorem dX1_cheapestByTable_79 : decode cX1_cheapestByTable 79 = .ok (.iinc 3 1, 3) := by decide +kernel
theorem dX1_cheapestByTable_82 : decode cX1_cheapestByTable 82 = .ok (.goto (-30), 3) := by decide +kernel
theorem dX1_cheapestByTable_85 : decode cX1_cheapestByTable 85 = .ok (.iload_n 2, 1) := by decide +kernel
theorem dX1_cheapestByTable_86 : decode cX1_cheapestByTable 86 = .ok (.ireturn, 1) := by decide +kernel
theorem dX1_cheapestByTrying_0 : decode cX1_cheapestByTrying 0 = .ok (.aload_n 0, 1) := by decide +kernel
theorem dX1_cheapestByTrying_1 : decode cX1_cheapestByTrying 1 = .ok (.getfield 25, 3) := by decide +kernel
theorem dX1_cheapestByTrying_4 : decode cX1_cheapestByTrying 4 = .ok (.invokevirtual 29, 3) := by decide +kernel
theorem dX1_cheapestByTrying_7 : decode cX1_cheapestByTrying 7 = .ok (.ifCond .ne 7, 3) := by decide +kernel
theorem dX1_cheapestByTrying_10 : decode cX1_cheapestByTrying 10 = .ok (.iconst (-1), 1) := by decide +kernel
theorem dX1_cheapestByTrying_11 : decode cX1_cheapestByTrying 11 = .ok (.goto 11, 3) := by decide +kernel
theorem dX1_cheapestByTrying_14 : decode cX1_cheapestByTrying 14 = .ok (.aload_n 0, 1) := by decide +kernel
theorem dX1_cheapestByTrying_15 : decode cX1_cheapestByTrying 15 = .ok (.aload_n 1, 1) := by decide +kernel
theorem dX1_cheapestByTrying_16 : decode cX1_cheapestByTrying 16 = .ok (.iconst 0, 1) := by decide +kernel
theorem dX1_cheapestByTrying_17 : decode cX1_cheapestByTrying 17 = .ok (.iconst 0, 1) := by decide +kernel
theorem dX1_cheapestByTrying_18 : decode cX1_cheapestByTrying 18 = .ok (.iconst 1, 1) := by decide +kernel
theorem dX1_cheapestByTrying_19 : decode cX1_cheapestByTrying 19 = .ok (.invokevirtual 53, 3) := by decide +kernel
theorem dX1_cheapestByTrying_22 : decode cX1_cheapestByTrying 22 = .ok (.ireturn, 1) := by decide +kernel
theorem dX1_tableAt_0 : decode cX1_tableAt 0 = .ok (.iload_n 1, 1) := by decide +kernel
theorem dX1_tableAt_1 : decode cX1_tableAt 1 = .ok (.iconst 0, 1) := by decide +kernel
theorem dX1_tableAt_2 : decode cX1_tableAt 2 = .ok (.bipush 11, 2) := by decide +kernel
theorem dX1_tableAt_4 : decode cX1_tableAt 4 = .ok (.invokestatic 57, 3) := by decide +kernel
theorem dX1_tableAt_7 : decode cX1_tableAt 7 = .ok (.ifCond .eq 17, 3) := by decide +kernel
theorem dX1_tableAt_10 : decode cX1_tableAt 10 = .ok (.iload_n 2, 1) := by decide +kernel
theorem dX1_tableAt_11 : decode cX1_tableAt 11 = .ok (.iconst 0, 1) := by decide +kernel
theorem dX1_tableAt_12 : decode cX1_tableAt 12 = .ok (.bipush 23, 2) := by decide +kernel
theorem dX1_tableAt_14 : decode cX1_tableAt 14 = .ok (.invokestatic 57, 3) := by decide +kernel
theorem dX1_tableAt_17 : decode cX1_tableAt 17 = .ok (.ifCond .eq 7, 3) := by decide +kernel
theorem dX1_tableAt_20 : decode cX1_tableAt 20 = .ok (.iconst 1, 1) := by decide +kernel
theorem dX1_tableAt_21 : decode cX1_tableAt 21 = .ok (.goto 4, 3) := by decide +kernel
theorem dX1_tableAt_24 : decode cX1_tableAt 24 = .ok (.iconst 0, 1) := by decide +kernel
theorem dX1_tableAt_25 : decode cX1_tableAt 25 = .ok (.istore_n 3, 1) := by decide +kernel
theorem dX1_tableAt_26 : decode cX1_tableAt 26 = .ok (.iload_n 1, 1) := by decide +kernel
theorem dX1_tableAt_27 : decode cX1_tableAt 27 = .ok (.bipush 24, 2) := by decide +kernel
theorem dX1_tableAt_29 : decode cX1_tableAt 29 = .ok (.imul, 1) := by decide +kernel
theorem dX1_tableAt_30 : decode cX1_tableAt 30 = .ok (.iload_n 2, 1) := by decide +kernel
theorem dX1_tableAt_31 : decode cX1_tableAt 31 = .ok (.iadd, 1) := by decide +kernel
theorem dX1_tableAt_32 : decode cX1_tableAt 32 = .ok (.istore 4, 2) := by decide +kernel
theorem dX1_tableAt_34 : decode cX1_tableAt 34 = .ok (.iload_n 3, 1) := by decide +kernel
theorem dX1_tableAt_35 : decode cX1_tableAt 35 = .ok (.ifCond .eq 28, 3) := by decide +kernel
theorem dX1_tableAt_38 : decode cX1_tableAt 38 = .ok (.iload 4, 2) := by decide +kernel
theorem dX1_tableAt_40 : decode cX1_tableAt 40 = .ok (.ifCond .lt 23, 3) := by decide +kernel
theorem dX1_tableAt_43 : decode cX1_tableAt 43 = .ok (.iload 4, 2) := by decide +kernel
theorem dX1_tableAt_45 : decode cX1_tableAt 45 = .ok (.aload_n 0, 1) := by decide +kernel
theorem dX1_tableAt_46 : decode cX1_tableAt 46 = .ok (.getfield 21, 3) := by decide +kernel
theorem dX1_tableAt_49 : decode cX1_tableAt 49 = .ok (.arraylength, 1) := by decide +kernel
theorem dX1_tableAt_50 : decode cX1_tableAt 50 = .ok (.if_icmp .ge 13, 3) := by decide +kernel
theorem dX1_tableAt_53 : decode cX1_tableAt 53 = .ok (.aload_n 0, 1) := by decide +kernel
theorem dX1_tableAt_54 : decode cX1_tableAt 54 = .ok (.getfield 21, 3) := by decide +kernel
theorem dX1_tableAt_57 : decode cX1_tableAt 57 = .ok (.iload 4, 2) := by decide +kernel
theorem dX1_tableAt_59 : decode cX1_tableAt 59 = .ok (.iaload, 1) := by decide +kernel
theorem dX1_tableAt_60 : decode cX1_tableAt 60 = .ok (.goto 4, 3) := by decide +kernel
theorem dX1_tableAt_63 : decode cX1_tableAt 63 = .ok (.iconst (-1), 1) := by decide +kernel
theorem dX1_tableAt_64 : decode cX1_tableAt 64 = .ok (.ireturn, 1) := by decide +kernel
theorem dX1_setTableAt_0 : decode cX1_setTableAt 0 = .ok (.iload_n 1, 1) := by decide +kernel
theorem dX1_setTableAt_1 : decode cX1_setTableAt 1 = .ok (.bipush 24, 2) := by decide +kernel
theorem dX1_setTableAt_3 : decode cX1_setTableAt 3 = .ok (.imul, 1) := by decide +kernel
theorem dX1_setTableAt_4 : decode cX1_setTableAt 4 = .ok (.iload_n 2, 1) := by decide +kernel
theorem dX1_setTableAt_5 : decode cX1_setTableAt 5 = .ok (.iadd, 1) := by decide +kernel
theorem dX1_setTableAt_6 : decode cX1_setTableAt 6 = .ok (.istore 4, 2) := by decide +kernel
theorem dX1_setTableAt_8 : decode cX1_setTableAt 8 = .ok (.iload 4, 2) := by decide +kernel
theorem dX1_setTableAt_10 : decode cX1_setTableAt 10 = .ok (.ifCond .lt 21, 3) := by decide +kernel
theorem dX1_setTableAt_13 : decode cX1_setTableAt 13 = .ok (.iload 4, 2) := by decide +kernel
theorem dX1_setTableAt_15 : decode cX1_setTableAt 15 = .ok (.aload_n 0, 1) := by decide +kernel
theorem dX1_setTableAt_16 : decode cX1_setTableAt 16 = .ok (.getfield 21, 3) := by decide +kernel
theorem dX1_setTableAt_19 : decode cX1_setTableAt 19 = .ok (.arraylength, 1) := by decide +kernel
theorem dX1_setTableAt_20 : decode cX1_setTableAt 20 = .ok (.if_icmp .ge 11, 3) := by decide +kernel
theorem dX1_setTableAt_23 : decode cX1_setTableAt 23 = .ok (.aload_n 0, 1) := by decide +kernel
theorem dX1_setTableAt_24 : decode cX1_setTableAt 24 = .ok (.getfield 21, 3) := by decide +kernel
theorem dX1_setTableAt_27 : decode cX1_setTableAt 27 = .ok (.iload 4, 2) := by decide +kernel
theorem dX1_setTableAt_29 : decode cX1_setTableAt 29 = .ok (.iload_n 3, 1) := by decide +kernel
theorem dX1_setTableAt_30 : decode cX1_setTableAt 30 = .ok (.iastore, 1) := by decide +kernel
theorem dX1_setTableAt_31 : decode cX1_setTableAt 31 = .ok (.return_, 1) := by decide +kernel
theorem dX1_cheapestTo_0 : decode cX1_cheapestTo 0 = .ok (.iload_n 2, 1) := by decide +kernel
theorem dX1_cheapestTo_1 : decode cX1_cheapestTo 1 = .ok (.ifCond .ne 13, 3) := by decide +kernel
theorem dX1_cheapestTo_4 : decode cX1_cheapestTo 4 = .ok (.iload_n 3, 1) := by decide +kernel
theorem dX1_cheapestTo_5 : decode cX1_cheapestTo 5 = .ok (.ifCond .ne 7, 3) := by decide +kernel
theorem dX1_cheapestTo_8 : decode cX1_cheapestTo 8 = .ok (.iconst 0, 1) := by decide +kernel
theorem dX1_cheapestTo_9 : decode cX1_cheapestTo 9 = .ok (.goto 4, 3) := by decide +kernel
theorem dX1_cheapestTo_12 : decode cX1_cheapestTo 12 = .ok (.iconst (-1), 1) := by decide +kernel
theorem dX1_cheapestTo_13 : decode cX1_cheapestTo 13 = .ok (.ireturn, 1) := by decide +kernel
theorem dX1_cheapestTo_14 : decode cX1_cheapestTo 14 = .ok (.iconst (-1), 1) := by decide +kernel
theorem dX1_cheapestTo_15 : decode cX1_cheapestTo 15 = .ok (.istore 4, 2) := by decide +kernel
theorem dX1_cheapestTo_17 : decode cX1_cheapestTo 17 = .ok (.iconst 0, 1) := by decide +kernel
theorem dX1_cheapestTo_18 : decode cX1_cheapestTo 18 = .ok (.istore 5, 2) := by decide +kernel
theorem dX1_cheapestTo_20 : decode cX1_cheapestTo 20 = .ok (.iload 5, 2) := by decide +kernel
theorem dX1_cheapestTo_22 : decode cX1_cheapestTo 22 = .ok (.iconst 2, 1) := by decide +kernel
theorem dX1_cheapestTo_23 : decode cX1_cheapestTo 23 = .ok (.if_icmp .gt 32, 3) := by decide +kernel
theorem dX1_cheapestTo_26 : decode cX1_cheapestTo 26 = .ok (.iload 4, 2) := by decide +kernel
theorem dX1_cheapestTo_28 : decode cX1_cheapestTo 28 = .ok (.aload_n 0, 1) := by decide +kernel
theorem dX1_cheapestTo_29 : decode cX1_cheapestTo 29 = .ok (.aload_n 1, 1) := by decide +kernel
theorem dX1_cheapestTo_30 : decode cX1_cheapestTo 30 = .ok (.iload_n 2, 1) := by decide +kernel
theorem dX1_cheapestTo_31 : decode cX1_cheapestTo 31 = .ok (.iconst 1, 1) := by decide +kernel
theorem dX1_cheapestTo_32 : decode cX1_cheapestTo 32 = .ok (.isub, 1) := by decide +kernel
theorem dX1_cheapestTo_33 : decode cX1_cheapestTo 33 = .ok (.iload_n 3, 1) := by decide +kernel
theorem dX1_cheapestTo_34 : decode cX1_cheapestTo 34 = .ok (.iconst 1, 1) := by decide +kernel
theorem dX1_cheapestTo_35 : decode cX1_cheapestTo 35 = .ok (.isub, 1) := by decide +kernel
theorem dX1_cheapestTo_36 : decode cX1_cheapestTo 36 = .ok (.iload 5, 2) := by decide +kernel
theorem dX1_cheapestTo_38 : decode cX1_cheapestTo 38 = .ok (.isub, 1) := by decide +kernel
theorem dX1_cheapestTo_39 : decode cX1_cheapestTo 39 = .ok (.iload_n 2, 1) := by decide +kernel
theorem dX1_cheapestTo_40 : decode cX1_cheapestTo 40 = .ok (.iload_n 3, 1) := by decide +kernel
theorem dX1_cheapestTo_41 : decode cX1_cheapestTo 41 = .ok (.invokevirtual 61, 3) := by decide +kernel
theorem dX1_cheapestTo_44 : decode cX1_cheapestTo 44 = .ok (.invokestatic 50, 3) := by decide +kernel
theorem dX1_cheapestTo_47 : decode cX1_cheapestTo 47 = .ok (.istore 4, 2) := by decide +kernel
theorem dX1_cheapestTo_49 : decode cX1_cheapestTo 49 = .ok (.iinc 5 1, 3) := by decide +kernel
theorem dX1_cheapestTo_52 : decode cX1_cheapestTo 52 = .ok (.goto (-32), 3) := by decide +kernel
theorem dX1_cheapestTo_55 : decode cX1_cheapestTo 55 = .ok (.iconst 1, 1) := by decide +kernel
theorem dX1_cheapestTo_56 : decode cX1_cheapestTo 56 = .ok (.istore 5, 2) := by decide +kernel
theorem dX1_cheapestTo_58 : decode cX1_cheapestTo 58 = .ok (.iload 5, 2) := by decide +kernel
theorem dX1_cheapestTo_60 : decode cX1_cheapestTo 60 = .ok (.iconst 2, 1) := by decide +kernel
theorem dX1_cheapestTo_61 : decode cX1_cheapestTo 61 = .ok (.if_icmp .gt 32, 3) := by decide +kernel
theorem dX1_cheapestTo_64 : decode cX1_cheapestTo 64 = .ok (.iload 4, 2) := by decide +kernel
theorem dX1_cheapestTo_66 : decode cX1_cheapestTo 66 = .ok (.aload_n 0, 1) := by decide +kernel
theorem dX1_cheapestTo_67 : decode cX1_cheapestTo 67 = .ok (.aload_n 1, 1) := by decide +kernel
theorem dX1_cheapestTo_68 : decode cX1_cheapestTo 68 = .ok (.iload_n 2, 1) := by decide +kernel
theorem dX1_cheapestTo_69 : decode cX1_cheapestTo 69 = .ok (.iconst 1, 1) := by decide +kernel
theorem dX1_cheapestTo_70 : decode cX1_cheapestTo 70 = .ok (.isub, 1) := by decide +kernel
theorem dX1_cheapestTo_71 : decode cX1_cheapestTo 71 = .ok (.iload 5, 2) := by decide +kernel
theorem dX1_cheapestTo_73 : decode cX1_cheapestTo 73 = .ok (.isub, 1) := by decide +kernel
theorem dX1_cheapestTo_74 : decode cX1_cheapestTo 74 = .ok (.iload_n 3, 1) := by decide +kernel
theorem dX1_cheapestTo_75 : decode cX1_cheapestTo 75 = .ok (.iconst 1, 1) := by decide +kernel
theorem dX1_cheapestTo_76 : decode cX1_cheapestTo 76 = .ok (.isub, 1) := by decide +kernel
theorem dX1_cheapestTo_77 : decode cX1_cheapestTo 77 = .ok (.iload_n 2, 1) := by decide +kernel
theorem dX1_cheapestTo_78 : decode cX1_cheapestTo 78 = .ok (.iload_n 3, 1) := by decide +kernel
theorem dX1_cheapestTo_79 : decode cX1_cheapestTo 79 = .ok (.invokevirtual 61, 3) := by decide +kernel
theorem dX1_cheapestTo_82 : decode cX1_cheapestTo 82 = .ok (.invokestatic 50, 3) := by decide +kernel
theorem dX1_cheapestTo_85 : decode cX1_cheapestTo 85 = .ok (.istore 4, 2) := by decide +kernel
theorem dX1_cheapestTo_87 : decode cX1_cheapestTo 87 = .ok (.iinc 5 1, 3) := by decide +kernel
theorem dX1_cheapestTo_90 : decode cX1_cheapestTo 90 = .ok (.goto (-32), 3) := by decide +kernel
theorem dX1_cheapestTo_93 : decode cX1_cheapestTo 93 = .ok (.iload 4, 2) := by decide +kernel
theorem dX1_cheapestTo_95 : decode cX1_cheapestTo 95 = .ok (.ireturn, 1) := by decide +kernel
theorem dX1_costBy_0 : decode cX1_costBy 0 = .ok (.aload_n 0, 1) := by decide +kernel
theorem dX1_costBy_1 : decode cX1_costBy 1 = .ok (.iload_n 2, 1) := by decide +kernel
theorem dX1_costBy_2 : decode cX1_costBy 2 = .ok (.iload_n 3, 1) := by decide +kernel
theorem dX1_costBy_3 : decode cX1_costBy 3 = .ok (.invokevirtual 46, 3) := by decide +kernel
theorem dX1_costBy_6 : decode cX1_costBy 6 = .ok (.istore 6, 2) := by decide +kernel
theorem dX1_costBy_8 : decode cX1_costBy 8 = .ok (.iload 6, 2) := by decide +kernel
theorem dX1_costBy_10 : decode cX1_costBy 10 = .ok (.iconst (-1), 1) := by decide +kernel
theorem dX1_costBy_11 : decode cX1_costBy 11 = .ok (.if_icmp .ne 7, 3) := by decide +kernel
theorem dX1_costBy_14 : decode cX1_costBy 14 = .ok (.iconst (-1), 1) := by decide +kernel
theorem dX1_costBy_15 : decode cX1_costBy 15 = .ok (.goto 17, 3) := by decide +kernel
theorem dX1_costBy_18 : decode cX1_costBy 18 = .ok (.iload 6, 2) := by decide +kernel
theorem dX1_costBy_20 : decode cX1_costBy 20 = .ok (.aload_n 0, 1) := by decide +kernel
theorem dX1_costBy_21 : decode cX1_costBy 21 = .ok (.aload_n 1, 1) := by decide +kernel
theorem dX1_costBy_22 : decode cX1_costBy 22 = .ok (.iload_n 2, 1) := by decide +kernel
theorem dX1_costBy_23 : decode cX1_costBy 23 = .ok (.iload_n 3, 1) := by decide +kernel
theorem dX1_costBy_24 : decode cX1_costBy 24 = .ok (.iload 4, 2) := by decide +kernel
theorem dX1_costBy_26 : decode cX1_costBy 26 = .ok (.iload 5, 2) := by decide +kernel
theorem dX1_costBy_28 : decode cX1_costBy 28 = .ok (.invokevirtual 65, 3) := by decide +kernel
theorem dX1_costBy_31 : decode cX1_costBy 31 = .ok (.iadd, 1) := by decide +kernel
theorem dX1_costBy_32 : decode cX1_costBy 32 = .ok (.ireturn, 1) := by decide +kernel
theorem dX1_cheapestOnward_0 : decode cX1_cheapestOnward 0 = .ok (.iload_n 2, 1) := by decide +kernel
theorem dX1_cheapestOnward_1 : decode cX1_cheapestOnward 1 = .ok (.aload_n 0, 1) := by decide +kernel
theorem dX1_cheapestOnward_2 : decode cX1_cheapestOnward 2 = .ok (.getfield 25, 3) := by decide +kernel
theorem dX1_cheapestOnward_5 : decode cX1_cheapestOnward 5 = .ok (.invokevirtual 29, 3) := by decide +kernel
theorem dX1_cheapestOnward_8 : decode cX1_cheapestOnward 8 = .ok (.iconst 1, 1) := by decide +kernel
theorem dX1_cheapestOnward_9 : decode cX1_cheapestOnward 9 = .ok (.isub, 1) := by decide +kernel
theorem dX1_cheapestOnward_10 : decode cX1_cheapestOnward 10 = .ok (.if_icmp .ne 5, 3) := by decide +kernel
theorem dX1_cheapestOnward_13 : decode cX1_cheapestOnward 13 = .ok (.iconst 0, 1) := by decide +kernel
theorem dX1_cheapestOnward_14 : decode cX1_cheapestOnward 14 = .ok (.ireturn, 1) := by decide +kernel
theorem dX1_cheapestOnward_15 : decode cX1_cheapestOnward 15 = .ok (.iconst (-1), 1) := by decide +kernel
theorem dX1_cheapestOnward_16 : decode cX1_cheapestOnward 16 = .ok (.istore 5, 2) := by decide +kernel
theorem dX1_cheapestOnward_18 : decode cX1_cheapestOnward 18 = .ok (.iconst 0, 1) := by decide +kernel
theorem dX1_cheapestOnward_19 : decode cX1_cheapestOnward 19 = .ok (.istore 6, 2) := by decide +kernel
theorem dX1_cheapestOnward_21 : decode cX1_cheapestOnward 21 = .ok (.iload 6, 2) := by decide +kernel
theorem dX1_cheapestOnward_23 : decode cX1_cheapestOnward 23 = .ok (.iconst 2, 1) := by decide +kernel
theorem dX1_cheapestOnward_24 : decode cX1_cheapestOnward 24 = .ok (.if_icmp .gt 34, 3) := by decide +kernel
theorem dX1_cheapestOnward_27 : decode cX1_cheapestOnward 27 = .ok (.iload 5, 2) := by decide +kernel
theorem dX1_cheapestOnward_29 : decode cX1_cheapestOnward 29 = .ok (.aload_n 0, 1) := by decide +kernel
theorem dX1_cheapestOnward_30 : decode cX1_cheapestOnward 30 = .ok (.aload_n 1, 1) := by decide +kernel
theorem dX1_cheapestOnward_31 : decode cX1_cheapestOnward 31 = .ok (.iload_n 2, 1) := by decide +kernel
theorem dX1_cheapestOnward_32 : decode cX1_cheapestOnward 32 = .ok (.iload_n 3, 1) := by decide +kernel
theorem dX1_cheapestOnward_33 : decode cX1_cheapestOnward 33 = .ok (.iload_n 2, 1) := by decide +kernel
theorem dX1_cheapestOnward_34 : decode cX1_cheapestOnward 34 = .ok (.iconst 1, 1) := by decide +kernel
theorem dX1_cheapestOnward_35 : decode cX1_cheapestOnward 35 = .ok (.iadd, 1) := by decide +kernel
theorem dX1_cheapestOnward_36 : decode cX1_cheapestOnward 36 = .ok (.iload_n 3, 1) := by decide +kernel
theorem dX1_cheapestOnward_37 : decode cX1_cheapestOnward 37 = .ok (.iconst 1, 1) := by decide +kernel
theorem dX1_cheapestOnward_38 : decode cX1_cheapestOnward 38 = .ok (.iadd, 1) := by decide +kernel
theorem dX1_cheapestOnward_39 : decode cX1_cheapestOnward 39 = .ok (.iload 6, 2) := by decide +kernel
theorem dX1_cheapestOnward_41 : decode cX1_cheapestOnward 41 = .ok (.iadd, 1) := by decide +kernel
theorem dX1_cheapestOnward_42 : decode cX1_cheapestOnward 42 = .ok (.iload 4, 2) := by decide +kernel
theorem dX1_cheapestOnward_44 : decode cX1_cheapestOnward 44 = .ok (.invokevirtual 68, 3) := by decide +kernel
theorem dX1_cheapestOnward_47 : decode cX1_cheapestOnward 47 = .ok (.invokestatic 50, 3) := by decide +kernel
theorem dX1_cheapestOnward_50 : decode cX1_cheapestOnward 50 = .ok (.istore 5, 2) := by decide +kernel
theorem dX1_cheapestOnward_52 : decode cX1_cheapestOnward 52 = .ok (.iinc 6 1, 3) := by decide +kernel
theorem dX1_cheapestOnward_55 : decode cX1_cheapestOnward 55 = .ok (.goto (-34), 3) := by decide +kernel
theorem dX1_cheapestOnward_58 : decode cX1_cheapestOnward 58 = .ok (.iconst 1, 1) := by decide +kernel
theorem dX1_cheapestOnward_59 : decode cX1_cheapestOnward 59 = .ok (.istore 6, 2) := by decide +kernel
theorem dX1_cheapestOnward_61 : decode cX1_cheapestOnward 61 = .ok (.iload 6, 2) := by decide +kernel
theorem dX1_cheapestOnward_63 : decode cX1_cheapestOnward 63 = .ok (.iconst 2, 1) := by decide +kernel
theorem dX1_cheapestOnward_64 : decode cX1_cheapestOnward 64 = .ok (.if_icmp .gt 34, 3) := by decide +kernel
theorem dX1_cheapestOnward_67 : decode cX1_cheapestOnward 67 = .ok (.iload 5, 2) := by decide +kernel
theorem dX1_cheapestOnward_69 : decode cX1_cheapestOnward 69 = .ok (.aload_n 0, 1) := by decide +kernel
theorem dX1_cheapestOnward_70 : decode cX1_cheapestOnward 70 = .ok (.aload_n 1, 1) := by decide +kernel
theorem dX1_cheapestOnward_71 : decode cX1_cheapestOnward 71 = .ok (.iload_n 2, 1) := by decide +kernel
theorem dX1_cheapestOnward_72 : decode cX1_cheapestOnward 72 = .ok (.iload_n 3, 1) := by decide +kernel
theorem dX1_cheapestOnward_73 : decode cX1_cheapestOnward 73 = .ok (.iload_n 2, 1) := by decide +kernel
theorem dX1_cheapestOnward_74 : decode cX1_cheapestOnward 74 = .ok (.iconst 1, 1) := by decide +kernel
theorem dX1_cheapestOnward_75 : decode cX1_cheapestOnward 75 = .ok (.iadd, 1) := by decide +kernel
theorem dX1_cheapestOnward_76 : decode cX1_cheapestOnward 76 = .ok (.iload 6, 2) := by decide +kernel
theorem dX1_cheapestOnward_78 : decode cX1_cheapestOnward 78 = .ok (.iadd, 1) := by decide +kernel
theorem dX1_cheapestOnward_79 : decode cX1_cheapestOnward 79 = .ok (.iload_n 3, 1) := by decide +kernel
theorem dX1_cheapestOnward_80 : decode cX1_cheapestOnward 80 = .ok (.iconst 1, 1) := by decide +kernel
theorem dX1_cheapestOnward_81 : decode cX1_cheapestOnward 81 = .ok (.iadd, 1) := by decide +kernel
theorem dX1_cheapestOnward_82 : decode cX1_cheapestOnward 82 = .ok (.iload 4, 2) := by decide +kernel
theorem dX1_cheapestOnward_84 : decode cX1_cheapestOnward 84 = .ok (.invokevirtual 68, 3) := by decide +kernel
theorem dX1_cheapestOnward_87 : decode cX1_cheapestOnward 87 = .ok (.invokestatic 50, 3) := by decide +kernel
theorem dX1_cheapestOnward_90 : decode cX1_cheapestOnward 90 = .ok (.istore 5, 2) := by decide +kernel
theorem dX1_cheapestOnward_92 : decode cX1_cheapestOnward 92 = .ok (.iinc 6 1, 3) := by decide +kernel
theorem dX1_cheapestOnward_95 : decode cX1_cheapestOnward 95 = .ok (.goto (-34), 3) := by decide +kernel
theorem dX1_cheapestOnward_98 : decode cX1_cheapestOnward 98 = .ok (.iload 5, 2) := by decide +kernel
theorem dX1_cheapestOnward_100 : decode cX1_cheapestOnward 100 = .ok (.ireturn, 1) := by decide +kernel
theorem dX1_costOnwardBy_0 : decode cX1_costOnwardBy 0 = .ok (.iload 4, 2) := by decide +kernel
theorem dX1_costOnwardBy_2 : decode cX1_costOnwardBy 2 = .ok (.aload_n 0, 1) := by decide +kernel
theorem dX1_costOnwardBy_3 : decode cX1_costOnwardBy 3 = .ok (.getfield 25, 3) := by decide +kernel
theorem dX1_costOnwardBy_6 : decode cX1_costOnwardBy 6 = .ok (.invokevirtual 29, 3) := by decide +kernel
theorem dX1_costOnwardBy_9 : decode cX1_costOnwardBy 9 = .ok (.if_icmp .ge 16, 3) := by decide +kernel
theorem dX1_costOnwardBy_12 : decode cX1_costOnwardBy 12 = .ok (.iload 5, 2) := by decide +kernel
theorem dX1_costOnwardBy_14 : decode cX1_costOnwardBy 14 = .ok (.aload_n 1, 1) := by decide +kernel
theorem dX1_costOnwardBy_15 : decode cX1_costOnwardBy 15 = .ok (.invokevirtual 35, 3) := by decide +kernel
theorem dX1_costOnwardBy_18 : decode cX1_costOnwardBy 18 = .ok (.if_icmp .ge 7, 3) := by decide +kernel
theorem dX1_costOnwardBy_21 : decode cX1_costOnwardBy 21 = .ok (.iconst 1, 1) := by decide +kernel
theorem dX1_costOnwardBy_22 : decode cX1_costOnwardBy 22 = .ok (.goto 4, 3) := by decide +kernel
theorem dX1_costOnwardBy_25 : decode cX1_costOnwardBy 25 = .ok (.iconst 0, 1) := by decide +kernel
theorem dX1_costOnwardBy_26 : decode cX1_costOnwardBy 26 = .ok (.istore 7, 2) := by decide +kernel
theorem dX1_costOnwardBy_28 : decode cX1_costOnwardBy 28 = .ok (.iload 7, 2) := by decide +kernel
theorem dX1_costOnwardBy_30 : decode cX1_costOnwardBy 30 = .ok (.ifCond .eq 10, 3) := by decide +kernel
theorem dX1_costOnwardBy_33 : decode cX1_costOnwardBy 33 = .ok (.iload 6, 2) := by decide +kernel
theorem dX1_costOnwardBy_35 : decode cX1_costOnwardBy 35 = .ok (.bipush 8, 2) := by decide +kernel
theorem dX1_costOnwardBy_37 : decode cX1_costOnwardBy 37 = .ok (.if_icmp .lt 5, 3) := by decide +kernel
theorem dX1_costOnwardBy_40 : decode cX1_costOnwardBy 40 = .ok (.iconst (-1), 1) := by decide +kernel
theorem dX1_costOnwardBy_41 : decode cX1_costOnwardBy 41 = .ok (.ireturn, 1) := by decide +kernel
theorem dX1_costOnwardBy_42 : decode cX1_costOnwardBy 42 = .ok (.aload_n 0, 1) := by decide +kernel
theorem dX1_costOnwardBy_43 : decode cX1_costOnwardBy 43 = .ok (.aload_n 1, 1) := by decide +kernel
theorem dX1_costOnwardBy_44 : decode cX1_costOnwardBy 44 = .ok (.iload 4, 2) := by decide +kernel
theorem dX1_costOnwardBy_46 : decode cX1_costOnwardBy 46 = .ok (.iload 5, 2) := by decide +kernel
theorem dX1_costOnwardBy_48 : decode cX1_costOnwardBy 48 = .ok (.iload 6, 2) := by decide +kernel
theorem dX1_costOnwardBy_50 : decode cX1_costOnwardBy 50 = .ok (.iconst 1, 1) := by decide +kernel
theorem dX1_costOnwardBy_51 : decode cX1_costOnwardBy 51 = .ok (.iadd, 1) := by decide +kernel
theorem dX1_costOnwardBy_52 : decode cX1_costOnwardBy 52 = .ok (.invokevirtual 53, 3) := by decide +kernel
theorem dX1_costOnwardBy_55 : decode cX1_costOnwardBy 55 = .ok (.istore 8, 2) := by decide +kernel
theorem dX1_costOnwardBy_57 : decode cX1_costOnwardBy 57 = .ok (.iload 8, 2) := by decide +kernel
theorem dX1_costOnwardBy_59 : decode cX1_costOnwardBy 59 = .ok (.iconst (-1), 1) := by decide +kernel
theorem dX1_costOnwardBy_60 : decode cX1_costOnwardBy 60 = .ok (.if_icmp .ne 7, 3) := by decide +kernel
theorem dX1_costOnwardBy_63 : decode cX1_costOnwardBy 63 = .ok (.iconst (-1), 1) := by decide +kernel
theorem dX1_costOnwardBy_64 : decode cX1_costOnwardBy 64 = .ok (.goto 17, 3) := by decide +kernel
theorem dX1_costOnwardBy_67 : decode cX1_costOnwardBy 67 = .ok (.iload 8, 2) := by decide +kernel
theorem dX1_costOnwardBy_69 : decode cX1_costOnwardBy 69 = .ok (.aload_n 0, 1) := by decide +kernel
theorem dX1_costOnwardBy_70 : decode cX1_costOnwardBy 70 = .ok (.aload_n 1, 1) := by decide +kernel
theorem dX1_costOnwardBy_71 : decode cX1_costOnwardBy 71 = .ok (.iload_n 2, 1) := by decide +kernel
theorem dX1_costOnwardBy_72 : decode cX1_costOnwardBy 72 = .ok (.iload_n 3, 1) := by decide +kernel
theorem dX1_costOnwardBy_73 : decode cX1_costOnwardBy 73 = .ok (.iload 4, 2) := by decide +kernel
theorem dX1_costOnwardBy_75 : decode cX1_costOnwardBy 75 = .ok (.iload 5, 2) := by decide +kernel
theorem dX1_costOnwardBy_77 : decode cX1_costOnwardBy 77 = .ok (.invokevirtual 65, 3) := by decide +kernel
theorem dX1_costOnwardBy_80 : decode cX1_costOnwardBy 80 = .ok (.iadd, 1) := by decide +kernel
theorem dX1_costOnwardBy_81 : decode cX1_costOnwardBy 81 = .ok (.ireturn, 1) := by decide +kernel
theorem dX1_costOfMove_0 : decode cX1_costOfMove 0 = .ok (.aload_n 1, 1) := by decide +kernel
theorem dX1_costOfMove_1 : decode cX1_costOfMove 1 = .ok (.getfield 72, 3) := by decide +kernel
theorem dX1_costOfMove_4 : decode cX1_costOfMove 4 = .ok (.iload 5, 2) := by decide +kernel
theorem dX1_costOfMove_6 : decode cX1_costOfMove 6 = .ok (.invokevirtual 75, 3) := by decide +kernel
theorem dX1_costOfMove_9 : decode cX1_costOfMove 9 = .ok (.aload_n 1, 1) := by decide +kernel
theorem dX1_costOfMove_10 : decode cX1_costOfMove 10 = .ok (.getfield 72, 3) := by decide +kernel
theorem dX1_costOfMove_13 : decode cX1_costOfMove 13 = .ok (.iload_n 3, 1) := by decide +kernel
theorem dX1_costOfMove_14 : decode cX1_costOfMove 14 = .ok (.invokevirtual 75, 3) := by decide +kernel
theorem dX1_costOfMove_17 : decode cX1_costOfMove 17 = .ok (.isub, 1) := by decide +kernel
theorem dX1_costOfMove_18 : decode cX1_costOfMove 18 = .ok (.istore 6, 2) := by decide +kernel
theorem dX1_costOfMove_20 : decode cX1_costOfMove 20 = .ok (.aload_n 0, 1) := by decide +kernel
theorem dX1_costOfMove_21 : decode cX1_costOfMove 21 = .ok (.getfield 25, 3) := by decide +kernel
theorem dX1_costOfMove_24 : decode cX1_costOfMove 24 = .ok (.iload 4, 2) := by decide +kernel
theorem dX1_costOfMove_26 : decode cX1_costOfMove 26 = .ok (.invokevirtual 75, 3) := by decide +kernel
theorem dX1_costOfMove_29 : decode cX1_costOfMove 29 = .ok (.aload_n 0, 1) := by decide +kernel
theorem dX1_costOfMove_30 : decode cX1_costOfMove 30 = .ok (.getfield 25, 3) := by decide +kernel
theorem dX1_costOfMove_33 : decode cX1_costOfMove 33 = .ok (.iload_n 2, 1) := by decide +kernel
theorem dX1_costOfMove_34 : decode cX1_costOfMove 34 = .ok (.invokevirtual 75, 3) := by decide +kernel
theorem dX1_costOfMove_37 : decode cX1_costOfMove 37 = .ok (.isub, 1) := by decide +kernel
theorem dX1_costOfMove_38 : decode cX1_costOfMove 38 = .ok (.istore 7, 2) := by decide +kernel
theorem dX1_costOfMove_40 : decode cX1_costOfMove 40 = .ok (.aload_n 0, 1) := by decide +kernel
theorem dX1_costOfMove_41 : decode cX1_costOfMove 41 = .ok (.getfield 9, 3) := by decide +kernel
theorem dX1_costOfMove_44 : decode cX1_costOfMove 44 = .ok (.iload 6, 2) := by decide +kernel
theorem dX1_costOfMove_46 : decode cX1_costOfMove 46 = .ok (.iload 7, 2) := by decide +kernel
theorem dX1_costOfMove_48 : decode cX1_costOfMove 48 = .ok (.isub, 1) := by decide +kernel
theorem dX1_costOfMove_49 : decode cX1_costOfMove 49 = .ok (.invokestatic 79, 3) := by decide +kernel
theorem dX1_costOfMove_52 : decode cX1_costOfMove 52 = .ok (.imul, 1) := by decide +kernel
theorem dX1_costOfMove_53 : decode cX1_costOfMove 53 = .ok (.istore 8, 2) := by decide +kernel
theorem dX1_costOfMove_55 : decode cX1_costOfMove 55 = .ok (.iload_n 3, 1) := by decide +kernel
theorem dX1_costOfMove_56 : decode cX1_costOfMove 56 = .ok (.iconst 1, 1) := by decide +kernel
theorem dX1_costOfMove_57 : decode cX1_costOfMove 57 = .ok (.iadd, 1) := by decide +kernel
theorem dX1_costOfMove_58 : decode cX1_costOfMove 58 = .ok (.istore 9, 2) := by decide +kernel
theorem dX1_costOfMove_60 : decode cX1_costOfMove 60 = .ok (.iload 9, 2) := by decide +kernel
theorem dX1_costOfMove_62 : decode cX1_costOfMove 62 = .ok (.iload 5, 2) := by decide +kernel
theorem dX1_costOfMove_64 : decode cX1_costOfMove 64 = .ok (.if_icmp .ge 28, 3) := by decide +kernel
theorem dX1_costOfMove_67 : decode cX1_costOfMove 67 = .ok (.iload 8, 2) := by decide +kernel
theorem dX1_costOfMove_69 : decode cX1_costOfMove 69 = .ok (.aload_n 0, 1) := by decide +kernel
theorem dX1_costOfMove_70 : decode cX1_costOfMove 70 = .ok (.getfield 15, 3) := by decide +kernel
theorem dX1_costOfMove_73 : decode cX1_costOfMove 73 = .ok (.aload_n 1, 1) := by decide +kernel
theorem dX1_costOfMove_74 : decode cX1_costOfMove 74 = .ok (.getfield 84, 3) := by decide +kernel
theorem dX1_costOfMove_77 : decode cX1_costOfMove 77 = .ok (.iload 9, 2) := by decide +kernel
theorem dX1_costOfMove_79 : decode cX1_costOfMove 79 = .ok (.invokevirtual 75, 3) := by decide +kernel
theorem dX1_costOfMove_82 : decode cX1_costOfMove 82 = .ok (.imul, 1) := by decide +kernel
theorem dX1_costOfMove_83 : decode cX1_costOfMove 83 = .ok (.iadd, 1) := by decide +kernel
theorem dX1_costOfMove_84 : decode cX1_costOfMove 84 = .ok (.istore 8, 2) := by decide +kernel
theorem dX1_costOfMove_86 : decode cX1_costOfMove 86 = .ok (.iinc 9 1, 3) := by decide +kernel
theorem dX1_costOfMove_89 : decode cX1_costOfMove 89 = .ok (.goto (-29), 3) := by decide +kernel
theorem dX1_costOfMove_92 : decode cX1_costOfMove 92 = .ok (.iload_n 2, 1) := by decide +kernel
theorem dX1_costOfMove_93 : decode cX1_costOfMove 93 = .ok (.iconst 1, 1) := by decide +kernel
theorem dX1_costOfMove_94 : decode cX1_costOfMove 94 = .ok (.iadd, 1) := by decide +kernel
theorem dX1_costOfMove_95 : decode cX1_costOfMove 95 = .ok (.istore 9, 2) := by decide +kernel
theorem dX1_costOfMove_97 : decode cX1_costOfMove 97 = .ok (.iload 9, 2) := by decide +kernel
theorem dX1_costOfMove_99 : decode cX1_costOfMove 99 = .ok (.iload 4, 2) := by decide +kernel
theorem dX1_costOfMove_101 : decode cX1_costOfMove 101 = .ok (.if_icmp .ge 62, 3) := by decide +kernel
theorem dX1_costOfMove_104 : decode cX1_costOfMove 104 = .ok (.aload_n 0, 1) := by decide +kernel
theorem dX1_costOfMove_105 : decode cX1_costOfMove 105 = .ok (.getfield 25, 3) := by decide +kernel
theorem dX1_costOfMove_108 : decode cX1_costOfMove 108 = .ok (.iload 9, 2) := by decide +kernel
theorem dX1_costOfMove_110 : decode cX1_costOfMove 110 = .ok (.invokevirtual 75, 3) := by decide +kernel
theorem dX1_costOfMove_113 : decode cX1_costOfMove 113 = .ok (.aload_n 0, 1) := by decide +kernel
theorem dX1_costOfMove_114 : decode cX1_costOfMove 114 = .ok (.getfield 25, 3) := by decide +kernel
theorem dX1_costOfMove_117 : decode cX1_costOfMove 117 = .ok (.iload 9, 2) := by decide +kernel
theorem dX1_costOfMove_119 : decode cX1_costOfMove 119 = .ok (.iconst 1, 1) := by decide +kernel
theorem dX1_costOfMove_120 : decode cX1_costOfMove 120 = .ok (.isub, 1) := by decide +kernel
theorem dX1_costOfMove_121 : decode cX1_costOfMove 121 = .ok (.invokevirtual 75, 3) := by decide +kernel
theorem dX1_costOfMove_124 : decode cX1_costOfMove 124 = .ok (.if_icmp .ne 7, 3) := by decide +kernel
theorem dX1_costOfMove_127 : decode cX1_costOfMove 127 = .ok (.iconst 1, 1) := by decide +kernel
theorem dX1_costOfMove_128 : decode cX1_costOfMove 128 = .ok (.goto 4, 3) := by decide +kernel
theorem dX1_costOfMove_131 : decode cX1_costOfMove 131 = .ok (.iconst 0, 1) := by decide +kernel
theorem dX1_costOfMove_132 : decode cX1_costOfMove 132 = .ok (.istore 10, 2) := by decide +kernel
theorem dX1_costOfMove_134 : decode cX1_costOfMove 134 = .ok (.iload 8, 2) := by decide +kernel
theorem dX1_costOfMove_136 : decode cX1_costOfMove 136 = .ok (.iload 10, 2) := by decide +kernel
theorem dX1_costOfMove_138 : decode cX1_costOfMove 138 = .ok (.ifCond .eq 10, 3) := by decide +kernel
theorem dX1_costOfMove_141 : decode cX1_costOfMove 141 = .ok (.aload_n 0, 1) := by decide +kernel
theorem dX1_costOfMove_142 : decode cX1_costOfMove 142 = .ok (.getfield 18, 3) := by decide +kernel
theorem dX1_costOfMove_145 : decode cX1_costOfMove 145 = .ok (.goto 9, 3) := by decide +kernel
theorem dX1_costOfMove_148 : decode cX1_costOfMove 148 = .ok (.iconst 3, 1) := by decide +kernel
theorem dX1_costOfMove_149 : decode cX1_costOfMove 149 = .ok (.aload_n 0, 1) := by decide +kernel
theorem dX1_costOfMove_150 : decode cX1_costOfMove 150 = .ok (.getfield 18, 3) := by decide +kernel
theorem dX1_costOfMove_153 : decode cX1_costOfMove 153 = .ok (.imul, 1) := by decide +kernel
theorem dX1_costOfMove_154 : decode cX1_costOfMove 154 = .ok (.iadd, 1) := by decide +kernel
theorem dX1_costOfMove_155 : decode cX1_costOfMove 155 = .ok (.istore 8, 2) := by decide +kernel
theorem dX1_costOfMove_157 : decode cX1_costOfMove 157 = .ok (.iinc 9 1, 3) := by decide +kernel
theorem dX1_costOfMove_160 : decode cX1_costOfMove 160 = .ok (.goto (-63), 3) := by decide +kernel
theorem dX1_costOfMove_163 : decode cX1_costOfMove 163 = .ok (.iload 8, 2) := by decide +kernel
theorem dX1_costOfMove_165 : decode cX1_costOfMove 165 = .ok (.ireturn, 1) := by decide +kernel
theorem dX1_cheaper_0 : decode cX1_cheaper 0 = .ok (.iload_n 0, 1) := by decide +kernel
theorem dX1_cheaper_1 : decode cX1_cheaper 1 = .ok (.iconst (-1), 1) := by decide +kernel
theorem dX1_cheaper_2 : decode cX1_cheaper 2 = .ok (.if_icmp .eq 8, 3) := by decide +kernel
theorem dX1_cheaper_5 : decode cX1_cheaper 5 = .ok (.iload_n 1, 1) := by decide +kernel
theorem dX1_cheaper_6 : decode cX1_cheaper 6 = .ok (.iconst (-1), 1) := by decide +kernel
theorem dX1_cheaper_7 : decode cX1_cheaper 7 = .ok (.if_icmp .ne 9, 3) := by decide +kernel
theorem dX1_cheaper_10 : decode cX1_cheaper 10 = .ok (.iload_n 0, 1) := by decide +kernel
theorem dX1_cheaper_11 : decode cX1_cheaper 11 = .ok (.iload_n 1, 1) := by decide +kernel
theorem dX1_cheaper_12 : decode cX1_cheaper 12 = .ok (.invokestatic 87, 3) := by decide +kernel
theorem dX1_cheaper_15 : decode cX1_cheaper 15 = .ok (.ireturn, 1) := by decide +kernel
theorem dX1_cheaper_16 : decode cX1_cheaper 16 = .ok (.iload_n 0, 1) := by decide +kernel
theorem dX1_cheaper_17 : decode cX1_cheaper 17 = .ok (.iload_n 1, 1) := by decide +kernel
theorem dX1_cheaper_18 : decode cX1_cheaper 18 = .ok (.invokestatic 90, 3) := by decide +kernel
theorem dX1_cheaper_21 : decode cX1_cheaper 21 = .ok (.ireturn, 1) := by decide +kernel
theorem dX2_init_0 : decode cX2_init 0 = .ok (.aload_n 0, 1) := by decide +kernel
theorem dX2_init_1 : decode cX2_init 1 = .ok (.invokespecial 1, 3) := by decide +kernel
theorem dX2_init_4 : decode cX2_init 4 = .ok (.aload_n 0, 1) := by decide +kernel
theorem dX2_init_5 : decode cX2_init 5 = .ok (.iload_n 1, 1) := by decide +kernel
theorem dX2_init_6 : decode cX2_init 6 = .ok (.iconst 0, 1) := by decide +kernel
theorem dX2_init_7 : decode cX2_init 7 = .ok (.invokestatic 7, 3) := by decide +kernel
theorem dX2_init_10 : decode cX2_init 10 = .ok (.newarray .int, 2) := by decide +kernel
theorem dX2_init_12 : decode cX2_init 12 = .ok (.putfield 13, 3) := by decide +kernel
theorem dX2_init_15 : decode cX2_init 15 = .ok (.return_, 1) := by decide +kernel
theorem dX2_size_0 : decode cX2_size 0 = .ok (.aload_n 0, 1) := by decide +kernel
theorem dX2_size_1 : decode cX2_size 1 = .ok (.getfield 19, 3) := by decide +kernel
theorem dX2_size_4 : decode cX2_size 4 = .ok (.ireturn, 1) := by decide +kernel
theorem dX2_isFull_0 : decode cX2_isFull 0 = .ok (.aload_n 0, 1) := by decide +kernel
theorem dX2_isFull_1 : decode cX2_isFull 1 = .ok (.getfield 19, 3) := by decide +kernel
theorem dX2_isFull_4 : decode cX2_isFull 4 = .ok (.aload_n 0, 1) := by decide +kernel
theorem dX2_isFull_5 : decode cX2_isFull 5 = .ok (.getfield 13, 3) := by decide +kernel
theorem dX2_isFull_8 : decode cX2_isFull 8 = .ok (.arraylength, 1) := by decide +kernel
theorem dX2_isFull_9 : decode cX2_isFull 9 = .ok (.if_icmp .lt 7, 3) := by decide +kernel
theorem dX2_isFull_12 : decode cX2_isFull 12 = .ok (.iconst 1, 1) := by decide +kernel
theorem dX2_isFull_13 : decode cX2_isFull 13 = .ok (.goto 4, 3) := by decide +kernel
theorem dX2_isFull_16 : decode cX2_isFull 16 = .ok (.iconst 0, 1) := by decide +kernel
theorem dX2_isFull_17 : decode cX2_isFull 17 = .ok (.ireturn, 1) := by decide +kernel
theorem dX2_at_0 : decode cX2_at 0 = .ok (.iload_n 1, 1) := by decide +kernel
theorem dX2_at_1 : decode cX2_at 1 = .ok (.ifCond .lt 29, 3) := by decide +kernel
theorem dX2_at_4 : decode cX2_at 4 = .ok (.iload_n 1, 1) := by decide +kernel
theorem dX2_at_5 : decode cX2_at 5 = .ok (.aload_n 0, 1) := by decide +kernel
theorem dX2_at_6 : decode cX2_at 6 = .ok (.getfield 19, 3) := by decide +kernel
theorem dX2_at_9 : decode cX2_at 9 = .ok (.if_icmp .ge 21, 3) := by decide +kernel
theorem dX2_at_12 : decode cX2_at 12 = .ok (.iload_n 1, 1) := by decide +kernel
theorem dX2_at_13 : decode cX2_at 13 = .ok (.aload_n 0, 1) := by decide +kernel
theorem dX2_at_14 : decode cX2_at 14 = .ok (.getfield 13, 3) := by decide +kernel
theorem dX2_at_17 : decode cX2_at 17 = .ok (.arraylength, 1) := by decide +kernel
theorem dX2_at_18 : decode cX2_at 18 = .ok (.if_icmp .ge 12, 3) := by decide +kernel
theorem dX2_at_21 : decode cX2_at 21 = .ok (.aload_n 0, 1) := by decide +kernel
theorem dX2_at_22 : decode cX2_at 22 = .ok (.getfield 13, 3) := by decide +kernel
theorem dX2_at_25 : decode cX2_at 25 = .ok (.iload_n 1, 1) := by decide +kernel
theorem dX2_at_26 : decode cX2_at 26 = .ok (.iaload, 1) := by decide +kernel
theorem dX2_at_27 : decode cX2_at 27 = .ok (.goto 4, 3) := by decide +kernel
theorem dX2_at_30 : decode cX2_at 30 = .ok (.iconst 0, 1) := by decide +kernel
theorem dX2_at_31 : decode cX2_at 31 = .ok (.ireturn, 1) := by decide +kernel
theorem dX2_put_0 : decode cX2_put 0 = .ok (.iload_n 1, 1) := by decide +kernel
theorem dX2_put_1 : decode cX2_put 1 = .ok (.ifCond .lt 27, 3) := by decide +kernel
theorem dX2_put_4 : decode cX2_put 4 = .ok (.iload_n 1, 1) := by decide +kernel
theorem dX2_put_5 : decode cX2_put 5 = .ok (.aload_n 0, 1) := by decide +kernel
theorem dX2_put_6 : decode cX2_put 6 = .ok (.getfield 19, 3) := by decide +kernel
theorem dX2_put_9 : decode cX2_put 9 = .ok (.if_icmp .ge 19, 3) := by decide +kernel
theorem dX2_put_12 : decode cX2_put 12 = .ok (.iload_n 1, 1) := by decide +kernel
theorem dX2_put_13 : decode cX2_put 13 = .ok (.aload_n 0, 1) := by decide +kernel
theorem dX2_put_14 : decode cX2_put 14 = .ok (.getfield 13, 3) := by decide +kernel
theorem dX2_put_17 : decode cX2_put 17 = .ok (.arraylength, 1) := by decide +kernel
theorem dX2_put_18 : decode cX2_put 18 = .ok (.if_icmp .ge 10, 3) := by decide +kernel
theorem dX2_put_21 : decode cX2_put 21 = .ok (.aload_n 0, 1) := by decide +kernel
theorem dX2_put_22 : decode cX2_put 22 = .ok (.getfield 13, 3) := by decide +kernel
theorem dX2_put_25 : decode cX2_put 25 = .ok (.iload_n 1, 1) := by decide +kernel
theorem dX2_put_26 : decode cX2_put 26 = .ok (.iload_n 2, 1) := by decide +kernel
theorem dX2_put_27 : decode cX2_put 27 = .ok (.iastore, 1) := by decide +kernel
theorem dX2_put_28 : decode cX2_put 28 = .ok (.return_, 1) := by decide +kernel
theorem dX2_append_0 : decode cX2_append 0 = .ok (.aload_n 0, 1) := by decide +kernel
theorem dX2_append_1 : decode cX2_append 1 = .ok (.getfield 19, 3) := by decide +kernel
theorem dX2_append_4 : decode cX2_append 4 = .ok (.ifCond .lt 35, 3) := by decide +kernel
theorem dX2_append_7 : decode cX2_append 7 = .ok (.aload_n 0, 1) := by decide +kernel
theorem dX2_append_8 : decode cX2_append 8 = .ok (.getfield 19, 3) := by decide +kernel
theorem dX2_append_11 : decode cX2_append 11 = .ok (.aload_n 0, 1) := by decide +kernel
theorem dX2_append_12 : decode cX2_append 12 = .ok (.getfield 13, 3) := by decide +kernel
theorem dX2_append_15 : decode cX2_append 15 = .ok (.arraylength, 1) := by decide +kernel
theorem dX2_append_16 : decode cX2_append 16 = .ok (.if_icmp .ge 23, 3) := by decide +kernel
theorem dX2_append_19 : decode cX2_append 19 = .ok (.aload_n 0, 1) := by decide +kernel
theorem dX2_append_20 : decode cX2_append 20 = .ok (.getfield 13, 3) := by decide +kernel
theorem dX2_append_23 : decode cX2_append 23 = .ok (.aload_n 0, 1) := by decide +kernel
theorem dX2_append_24 : decode cX2_append 24 = .ok (.getfield 19, 3) := by decide +kernel
theorem dX2_append_27 : decode cX2_append 27 = .ok (.iload_n 1, 1) := by decide +kernel
theorem dX2_append_28 : decode cX2_append 28 = .ok (.iastore, 1) := by decide +kernel
theorem dX2_append_29 : decode cX2_append 29 = .ok (.aload_n 0, 1) := by decide +kernel
theorem dX2_append_30 : decode cX2_append 30 = .ok (.dup, 1) := by decide +kernel
theorem dX2_append_31 : decode cX2_append 31 = .ok (.getfield 19, 3) := by decide +kernel
theorem dX2_append_34 : decode cX2_append 34 = .ok (.iconst 1, 1) := by decide +kernel
theorem dX2_append_35 : decode cX2_append 35 = .ok (.iadd, 1) := by decide +kernel
theorem dX2_append_36 : decode cX2_append 36 = .ok (.putfield 19, 3) := by decide +kernel
theorem dX2_append_39 : decode cX2_append 39 = .ok (.return_, 1) := by decide +kernel
theorem dX2_clear_0 : decode cX2_clear 0 = .ok (.aload_n 0, 1) := by decide +kernel
theorem dX2_clear_1 : decode cX2_clear 1 = .ok (.iconst 0, 1) := by decide +kernel
theorem dX2_clear_2 : decode cX2_clear 2 = .ok (.putfield 19, 3) := by decide +kernel
theorem dX2_clear_5 : decode cX2_clear 5 = .ok (.return_, 1) := by decide +kernel
theorem dX2_stepFrom_0 : decode cX2_stepFrom 0 = .ok (.aload_n 0, 1) := by decide +kernel
theorem dX2_stepFrom_1 : decode cX2_stepFrom 1 = .ok (.iload_n 1, 1) := by decide +kernel
theorem dX2_stepFrom_2 : decode cX2_stepFrom 2 = .ok (.iconst 1, 1) := by decide +kernel
theorem dX2_stepFrom_3 : decode cX2_stepFrom 3 = .ok (.iadd, 1) := by decide +kernel
theorem dX2_stepFrom_4 : decode cX2_stepFrom 4 = .ok (.invokevirtual 23, 3) := by decide +kernel
theorem dX2_stepFrom_7 : decode cX2_stepFrom 7 = .ok (.aload_n 0, 1) := by decide +kernel
theorem dX2_stepFrom_8 : decode cX2_stepFrom 8 = .ok (.iload_n 1, 1) := by decide +kernel
theorem dX2_stepFrom_9 : decode cX2_stepFrom 9 = .ok (.invokevirtual 23, 3) := by decide +kernel
theorem dX2_stepFrom_12 : decode cX2_stepFrom 12 = .ok (.isub, 1) := by decide +kernel
theorem dX2_stepFrom_13 : decode cX2_stepFrom 13 = .ok (.ireturn, 1) := by decide +kernel
theorem dX2_stepsInCommon_0 : decode cX2_stepsInCommon 0 = .ok (.aload_n 0, 1) := by decide +kernel
theorem dX2_stepsInCommon_1 : decode cX2_stepsInCommon 1 = .ok (.getfield 19, 3) := by decide +kernel
theorem dX2_stepsInCommon_4 : decode cX2_stepsInCommon 4 = .ok (.iload_n 1, 1) := by decide +kernel
theorem dX2_stepsInCommon_5 : decode cX2_stepsInCommon 5 = .ok (.isub, 1) := by decide +kernel
theorem dX2_stepsInCommon_6 : decode cX2_stepsInCommon 6 = .ok (.aload_n 2, 1) := by decide +kernel
theorem dX2_stepsInCommon_7 : decode cX2_stepsInCommon 7 = .ok (.getfield 19, 3) := by decide +kernel
theorem dX2_stepsInCommon_10 : decode cX2_stepsInCommon 10 = .ok (.iload_n 3, 1) := by decide +kernel
theorem dX2_stepsInCommon_11 : decode cX2_stepsInCommon 11 = .ok (.isub, 1) := by decide +kernel
theorem dX2_stepsInCommon_12 : decode cX2_stepsInCommon 12 = .ok (.invokestatic 27, 3) := by decide +kernel
theorem dX2_stepsInCommon_15 : decode cX2_stepsInCommon 15 = .ok (.iconst 1, 1) := by decide +kernel
theorem dX2_stepsInCommon_16 : decode cX2_stepsInCommon 16 = .ok (.isub, 1) := by decide +kernel
theorem dX2_stepsInCommon_17 : decode cX2_stepsInCommon 17 = .ok (.istore 4, 2) := by decide +kernel
theorem dX2_stepsInCommon_19 : decode cX2_stepsInCommon 19 = .ok (.iconst 0, 1) := by decide +kernel
theorem dX2_stepsInCommon_20 : decode cX2_stepsInCommon 20 = .ok (.istore 5, 2) := by decide +kernel
theorem dX2_stepsInCommon_22 : decode cX2_stepsInCommon 22 = .ok (.iload 5, 2) := by decide +kernel
theorem dX2_stepsInCommon_24 : decode cX2_stepsInCommon 24 = .ok (.iload 4, 2) := by decide +kernel
theorem dX2_stepsInCommon_26 : decode cX2_stepsInCommon 26 = .ok (.if_icmp .ge 28, 3) := by decide +kernel
theorem dX2_stepsInCommon_29 : decode cX2_stepsInCommon 29 = .ok (.aload_n 0, 1) := by decide +kernel
theorem dX2_stepsInCommon_30 : decode cX2_stepsInCommon 30 = .ok (.iload_n 1, 1) := by decide +kernel
theorem dX2_stepsInCommon_31 : decode cX2_stepsInCommon 31 = .ok (.iload 5, 2) := by decide +kernel
theorem dX2_stepsInCommon_33 : decode cX2_stepsInCommon 33 = .ok (.iadd, 1) := by decide +kernel
theorem dX2_stepsInCommon_34 : decode cX2_stepsInCommon 34 = .ok (.invokevirtual 30, 3) := by decide +kernel
theorem dX2_stepsInCommon_37 : decode cX2_stepsInCommon 37 = .ok (.aload_n 2, 1) := by decide +kernel
theorem dX2_stepsInCommon_38 : decode cX2_stepsInCommon 38 = .ok (.iload_n 3, 1) := by decide +kernel
theorem dX2_stepsInCommon_39 : decode cX2_stepsInCommon 39 = .ok (.iload 5, 2) := by decide +kernel
theorem dX2_stepsInCommon_41 : decode cX2_stepsInCommon 41 = .ok (.iadd, 1) := by decide +kernel
theorem dX2_stepsInCommon_42 : decode cX2_stepsInCommon 42 = .ok (.invokevirtual 30, 3) := by decide +kernel
theorem dX2_stepsInCommon_45 : decode cX2_stepsInCommon 45 = .ok (.if_icmp .ne 9, 3) := by decide +kernel
theorem dX2_stepsInCommon_48 : decode cX2_stepsInCommon 48 = .ok (.iinc 5 1, 3) := by decide +kernel
theorem dX2_stepsInCommon_51 : decode cX2_stepsInCommon 51 = .ok (.goto (-29), 3) := by decide +kernel
theorem dX2_stepsInCommon_54 : decode cX2_stepsInCommon 54 = .ok (.iload 5, 2) := by decide +kernel
theorem dX2_stepsInCommon_56 : decode cX2_stepsInCommon 56 = .ok (.ireturn, 1) := by decide +kernel
theorem dX2_beginsWithContourOf_0 : decode cX2_beginsWithContourOf 0 = .ok (.aload_n 1, 1) := by decide +kernel
theorem dX2_beginsWithContourOf_1 : decode cX2_beginsWithContourOf 1 = .ok (.getfield 19, 3) := by decide +kernel
theorem dX2_beginsWithContourOf_4 : decode cX2_beginsWithContourOf 4 = .ok (.aload_n 0, 1) := by decide +kernel
theorem dX2_beginsWithContourOf_5 : decode cX2_beginsWithContourOf 5 = .ok (.getfield 19, 3) := by decide +kernel
theorem dX2_beginsWithContourOf_8 : decode cX2_beginsWithContourOf 8 = .ok (.if_icmp .le 5, 3) := by decide +kernel
theorem dX2_beginsWithContourOf_11 : decode cX2_beginsWithContourOf 11 = .ok (.iconst 0, 1) := by decide +kernel
theorem dX2_beginsWithContourOf_12 : decode cX2_beginsWithContourOf 12 = .ok (.ireturn, 1) := by decide +kernel
theorem dX2_beginsWithContourOf_13 : decode cX2_beginsWithContourOf 13 = .ok (.iconst 0, 1) := by decide +kernel
theorem dX2_beginsWithContourOf_14 : decode cX2_beginsWithContourOf 14 = .ok (.istore_n 2, 1) := by decide +kernel
theorem dX2_beginsWithContourOf_15 : decode cX2_beginsWithContourOf 15 = .ok (.iload_n 2, 1) := by decide +kernel
theorem dX2_beginsWithContourOf_16 : decode cX2_beginsWithContourOf 16 = .ok (.aload_n 1, 1) := by decide +kernel
theorem dX2_beginsWithContourOf_17 : decode cX2_beginsWithContourOf 17 = .ok (.getfield 19, 3) := by decide +kernel
theorem dX2_beginsWithContourOf_20 : decode cX2_beginsWithContourOf 20 = .ok (.iconst 1, 1) := by decide +kernel
theorem dX2_beginsWithContourOf_21 : decode cX2_beginsWithContourOf 21 = .ok (.isub, 1) := by decide +kernel
theorem dX2_beginsWithContourOf_22 : decode cX2_beginsWithContourOf 22 = .ok (.if_icmp .ge 30, 3) := by decide +kernel
theorem dX2_beginsWithContourOf_25 : decode cX2_beginsWithContourOf 25 = .ok (.aload_n 0, 1) := by decide +kernel
theorem dX2_beginsWithContourOf_26 : decode cX2_beginsWithContourOf 26 = .ok (.iload_n 2, 1) := by decide +kernel
theorem dX2_beginsWithContourOf_27 : decode cX2_beginsWithContourOf 27 = .ok (.invokevirtual 30, 3) := by decide +kernel
theorem dX2_beginsWithContourOf_30 : decode cX2_beginsWithContourOf 30 = .ok (.invokestatic 33, 3) := by decide +kernel
theorem dX2_beginsWithContourOf_33 : decode cX2_beginsWithContourOf 33 = .ok (.aload_n 1, 1) := by decide +kernel
theorem dX2_beginsWithContourOf_34 : decode cX2_beginsWithContourOf 34 = .ok (.iload_n 2, 1) := by decide +kernel
theorem dX2_beginsWithContourOf_35 : decode cX2_beginsWithContourOf 35 = .ok (.invokevirtual 30, 3) := by decide +kernel
theorem dX2_beginsWithContourOf_38 : decode cX2_beginsWithContourOf 38 = .ok (.invokestatic 33, 3) := by decide +kernel
theorem dX2_beginsWithContourOf_41 : decode cX2_beginsWithContourOf 41 = .ok (.if_icmp .eq 5, 3) := by decide +kernel
theorem dX2_beginsWithContourOf_44 : decode cX2_beginsWithContourOf 44 = .ok (.iconst 0, 1) := by decide +kernel
theorem dX2_beginsWithContourOf_45 : decode cX2_beginsWithContourOf 45 = .ok (.ireturn, 1) := by decide +kernel
theorem dX2_beginsWithContourOf_46 : decode cX2_beginsWithContourOf 46 = .ok (.iinc 2 1, 3) := by decide +kernel
theorem dX2_beginsWithContourOf_49 : decode cX2_beginsWithContourOf 49 = .ok (.goto (-34), 3) := by decide +kernel
theorem dX2_beginsWithContourOf_52 : decode cX2_beginsWithContourOf 52 = .ok (.iconst 1, 1) := by decide +kernel
theorem dX2_beginsWithContourOf_53 : decode cX2_beginsWithContourOf 53 = .ok (.ireturn, 1) := by decide +kernel
theorem dX2_direction_0 : decode cX2_direction 0 = .ok (.iload_n 0, 1) := by decide +kernel
theorem dX2_direction_1 : decode cX2_direction 1 = .ok (.ifCond .le 7, 3) := by decide +kernel
theorem dX2_direction_4 : decode cX2_direction 4 = .ok (.iconst 1, 1) := by decide +kernel
theorem dX2_direction_5 : decode cX2_direction 5 = .ok (.goto 12, 3) := by decide +kernel
theorem dX2_direction_8 : decode cX2_direction 8 = .ok (.iload_n 0, 1) := by decide +kernel
theorem dX2_direction_9 : decode cX2_direction 9 = .ok (.ifCond .ge 7, 3) := by decide +kernel
theorem dX2_direction_12 : decode cX2_direction 12 = .ok (.iconst (-1), 1) := by decide +kernel
theorem dX2_direction_13 : decode cX2_direction 13 = .ok (.goto 4, 3) := by decide +kernel
theorem dX2_direction_16 : decode cX2_direction 16 = .ok (.iconst 0, 1) := by decide +kernel
theorem dX2_direction_17 : decode cX2_direction 17 = .ok (.ireturn, 1) := by decide +kernel
theorem dX3_init_0 : decode cX3_init 0 = .ok (.aload_n 0, 1) := by decide +kernel
theorem dX3_init_1 : decode cX3_init 1 = .ok (.invokespecial 3, 3) := by decide +kernel
theorem dX3_init_4 : decode cX3_init 4 = .ok (.aload_n 0, 1) := by decide +kernel
theorem dX3_init_5 : decode cX3_init 5 = .ok (.new 9, 3) := by decide +kernel
theorem dX3_init_8 : decode cX3_init 8 = .ok (.dup, 1) := by decide +kernel
theorem dX3_init_9 : decode cX3_init 9 = .ok (.bipush 24, 2) := by decide +kernel
theorem dX3_init_11 : decode cX3_init 11 = .ok (.invokespecial 11, 3) := by decide +kernel
theorem dX3_init_14 : decode cX3_init 14 = .ok (.putfield 14, 3) := by decide +kernel
theorem dX3_init_17 : decode cX3_init 17 = .ok (.aload_n 0, 1) := by decide +kernel
theorem dX3_init_18 : decode cX3_init 18 = .ok (.new 9, 3) := by decide +kernel
theorem dX3_init_21 : decode cX3_init 21 = .ok (.dup, 1) := by decide +kernel
theorem dX3_init_22 : decode cX3_init 22 = .ok (.bipush 24, 2) := by decide +kernel
theorem dX3_init_24 : decode cX3_init 24 = .ok (.invokespecial 11, 3) := by decide +kernel
theorem dX3_init_27 : decode cX3_init 27 = .ok (.putfield 20, 3) := by decide +kernel
theorem dX3_init_30 : decode cX3_init 30 = .ok (.return_, 1) := by decide +kernel
theorem dX3_size_0 : decode cX3_size 0 = .ok (.aload_n 0, 1) := by decide +kernel
theorem dX3_size_1 : decode cX3_size 1 = .ok (.getfield 14, 3) := by decide +kernel
theorem dX3_size_4 : decode cX3_size 4 = .ok (.invokevirtual 23, 3) := by decide +kernel
theorem dX3_size_7 : decode cX3_size 7 = .ok (.ireturn, 1) := by decide +kernel
theorem dX3_append_0 : decode cX3_append 0 = .ok (.aload_n 0, 1) := by decide +kernel
theorem dX3_append_1 : decode cX3_append 1 = .ok (.getfield 14, 3) := by decide +kernel
theorem dX3_append_4 : decode cX3_append 4 = .ok (.iload_n 1, 1) := by decide +kernel
theorem dX3_append_5 : decode cX3_append 5 = .ok (.invokevirtual 27, 3) := by decide +kernel
theorem dX3_append_8 : decode cX3_append 8 = .ok (.aload_n 0, 1) := by decide +kernel
theorem dX3_append_9 : decode cX3_append 9 = .ok (.getfield 20, 3) := by decide +kernel
theorem dX3_append_12 : decode cX3_append 12 = .ok (.iload_n 2, 1) := by decide +kernel
theorem dX3_append_13 : decode cX3_append 13 = .ok (.invokevirtual 27, 3) := by decide +kernel
theorem dX3_append_16 : decode cX3_append 16 = .ok (.return_, 1) := by decide +kernel
theorem dX4_init_0 : decode cX4_init 0 = .ok (.aload_n 0, 1) := by decide +kernel
theorem dX4_init_1 : decode cX4_init 1 = .ok (.invokespecial 1, 3) := by decide +kernel
theorem dX4_init_4 : decode cX4_init 4 = .ok (.aload_n 0, 1) := by decide +kernel
theorem dX4_init_5 : decode cX4_init 5 = .ok (.bipush 16, 2) := by decide +kernel
theorem dX4_init_7 : decode cX4_init 7 = .ok (.anewarray 9, 3) := by decide +kernel
theorem dX4_init_10 : decode cX4_init 10 = .ok (.putfield 11, 3) := by decide +kernel
theorem dX4_init_13 : decode cX4_init 13 = .ok (.aload_n 0, 1) := by decide +kernel
theorem dX4_init_14 : decode cX4_init 14 = .ok (.new 15, 3) := by decide +kernel
theorem dX4_init_17 : decode cX4_init 17 = .ok (.dup, 1) := by decide +kernel
theorem dX4_init_18 : decode cX4_init 18 = .ok (.bipush 12, 2) := by decide +kernel
theorem dX4_init_20 : decode cX4_init 20 = .ok (.invokespecial 17, 3) := by decide +kernel
theorem dX4_init_23 : decode cX4_init 23 = .ok (.putfield 20, 3) := by decide +kernel
theorem dX4_init_26 : decode cX4_init 26 = .ok (.aload_n 0, 1) := by decide +kernel
theorem dX4_init_27 : decode cX4_init 27 = .ok (.new 24, 3) := by decide +kernel
theorem dX4_init_30 : decode cX4_init 30 = .ok (.dup, 1) := by decide +kernel
theorem dX4_init_31 : decode cX4_init 31 = .ok (.aload_n 0, 1) := by decide +kernel
theorem dX4_init_32 : decode cX4_init 32 = .ok (.getfield 20, 3) := by decide +kernel
theorem dX4_init_35 : decode cX4_init 35 = .ok (.invokespecial 26, 3) := by decide +kernel
theorem dX4_init_38 : decode cX4_init 38 = .ok (.putfield 29, 3) := by decide +kernel
theorem dX4_init_41 : decode cX4_init 41 = .ok (.aload_n 0, 1) := by decide +kernel
theorem dX4_init_42 : decode cX4_init 42 = .ok (.new 33, 3) := by decide +kernel
theorem dX4_init_45 : decode cX4_init 45 = .ok (.dup, 1) := by decide +kernel
theorem dX4_init_46 : decode cX4_init 46 = .ok (.invokespecial 35, 3) := by decide +kernel
theorem dX4_init_49 : decode cX4_init 49 = .ok (.putfield 36, 3) := by decide +kernel
theorem dX4_init_52 : decode cX4_init 52 = .ok (.aload_n 0, 1) := by decide +kernel
theorem dX4_init_53 : decode cX4_init 53 = .ok (.new 15, 3) := by decide +kernel
theorem dX4_init_56 : decode cX4_init 56 = .ok (.dup, 1) := by decide +kernel
theorem dX4_init_57 : decode cX4_init 57 = .ok (.bipush 16, 2) := by decide +kernel
theorem dX4_init_59 : decode cX4_init 59 = .ok (.invokespecial 17, 3) := by decide +kernel
theorem dX4_init_62 : decode cX4_init 62 = .ok (.putfield 40, 3) := by decide +kernel
theorem dX4_init_65 : decode cX4_init 65 = .ok (.aload_n 0, 1) := by decide +kernel
theorem dX4_init_66 : decode cX4_init 66 = .ok (.new 15, 3) := by decide +kernel
theorem dX4_init_69 : decode cX4_init 69 = .ok (.dup, 1) := by decide +kernel
theorem dX4_init_70 : decode cX4_init 70 = .ok (.sipush 384, 3) := by decide +kernel
theorem dX4_init_73 : decode cX4_init 73 = .ok (.invokespecial 17, 3) := by decide +kernel
theorem dX4_init_76 : decode cX4_init 76 = .ok (.putfield 43, 3) := by decide +kernel
theorem dX4_init_79 : decode cX4_init 79 = .ok (.return_, 1) := by decide +kernel
theorem dX4_add_0 : decode cX4_add 0 = .ok (.iload_n 1, 1) := by decide +kernel
theorem dX4_add_1 : decode cX4_add 1 = .ok (.iload_n 2, 1) := by decide +kernel
theorem dX4_add_2 : decode cX4_add 2 = .ok (.invokestatic 46, 3) := by decide +kernel
theorem dX4_add_5 : decode cX4_add 5 = .ok (.aload_n 0, 1) := by decide +kernel
theorem dX4_add_6 : decode cX4_add 6 = .ok (.getfield 50, 3) := by decide +kernel
theorem dX4_add_9 : decode cX4_add 9 = .ok (.iconst 0, 1) := by decide +kernel
theorem dX4_add_10 : decode cX4_add 10 = .ok (.aload_n 0, 1) := by decide +kernel
theorem dX4_add_11 : decode cX4_add 11 = .ok (.getfield 11, 3) := by decide +kernel
theorem dX4_add_14 : decode cX4_add 14 = .ok (.arraylength, 1) := by decide +kernel
theorem dX4_add_15 : decode cX4_add 15 = .ok (.iconst 1, 1) := by decide +kernel
theorem dX4_add_16 : decode cX4_add 16 = .ok (.isub, 1) := by decide +kernel
theorem dX4_add_17 : decode cX4_add 17 = .ok (.invokestatic 54, 3) := by decide +kernel
theorem dX4_add_20 : decode cX4_add 20 = .ok (.ifCond .ne 13, 3) := by decide +kernel
theorem dX4_add_23 : decode cX4_add 23 = .ok (.new 58, 3) := by decide +kernel
theorem dX4_add_26 : decode cX4_add 26 = .ok (.dup, 1) := by decide +kernel
theorem dX4_add_27 : decode cX4_add 27 = .ok (.ldc 60, 2) := by decide +kernel
theorem dX4_add_29 : decode cX4_add 29 = .ok (.invokespecial 62, 3) := by decide +kernel
theorem dX4_add_32 : decode cX4_add 32 = .ok (.athrow, 1) := by decide +kernel
theorem dX4_add_33 : decode cX4_add 33 = .ok (.new 9, 3) := by decide +kernel
theorem dX4_add_36 : decode cX4_add 36 = .ok (.dup, 1) := by decide +kernel
theorem dX4_add_37 : decode cX4_add 37 = .ok (.invokespecial 65, 3) := by decide +kernel
theorem dX4_add_40 : decode cX4_add 40 = .ok (.astore_n 3, 1) := by decide +kernel
theorem dX4_add_41 : decode cX4_add 41 = .ok (.aload_n 3, 1) := by decide +kernel
theorem dX4_add_42 : decode cX4_add 42 = .ok (.iload_n 1, 1) := by decide +kernel
theorem dX4_add_43 : decode cX4_add 43 = .ok (.iload_n 2, 1) := by decide +kernel
theorem dX4_add_44 : decode cX4_add 44 = .ok (.invokevirtual 66, 3) := by decide +kernel
theorem dX4_add_47 : decode cX4_add 47 = .ok (.aload_n 0, 1) := by decide +kernel
theorem dX4_add_48 : decode cX4_add 48 = .ok (.getfield 11, 3) := by decide +kernel
theorem dX4_add_51 : decode cX4_add 51 = .ok (.aload_n 0, 1) := by decide +kernel
theorem dX4_add_52 : decode cX4_add 52 = .ok (.getfield 50, 3) := by decide +kernel
theorem dX4_add_55 : decode cX4_add 55 = .ok (.aload_n 3, 1) := by decide +kernel
theorem dX4_add_56 : decode cX4_add 56 = .ok (.aastore, 1) := by decide +kernel
theorem dX4_add_57 : decode cX4_add 57 = .ok (.aload_n 0, 1) := by decide +kernel
theorem dX4_add_58 : decode cX4_add 58 = .ok (.dup, 1) := by decide +kernel
theorem dX4_add_59 : decode cX4_add 59 = .ok (.getfield 50, 3) := by decide +kernel
theorem dX4_add_62 : decode cX4_add 62 = .ok (.iconst 1, 1) := by decide +kernel
theorem dX4_add_63 : decode cX4_add 63 = .ok (.iadd, 1) := by decide +kernel
theorem dX4_add_64 : decode cX4_add 64 = .ok (.putfield 50, 3) := by decide +kernel
theorem dX4_add_67 : decode cX4_add 67 = .ok (.aload_n 0, 1) := by decide +kernel
theorem dX4_add_68 : decode cX4_add 68 = .ok (.getfield 36, 3) := by decide +kernel
theorem dX4_add_71 : decode cX4_add 71 = .ok (.invokevirtual 69, 3) := by decide +kernel
theorem dX4_add_74 : decode cX4_add 74 = .ok (.aload_n 0, 1) := by decide +kernel
theorem dX4_add_75 : decode cX4_add 75 = .ok (.getfield 50, 3) := by decide +kernel
theorem dX4_add_78 : decode cX4_add 78 = .ok (.iconst 1, 1) := by decide +kernel
theorem dX4_add_79 : decode cX4_add 79 = .ok (.isub, 1) := by decide +kernel
theorem dX4_add_80 : decode cX4_add 80 = .ok (.ireturn, 1) := by decide +kernel
theorem dX4_note_0 : decode cX4_note 0 = .ok (.aload_n 0, 1) := by decide +kernel
theorem dX4_note_1 : decode cX4_note 1 = .ok (.iload_n 1, 1) := by decide +kernel
theorem dX4_note_2 : decode cX4_note 2 = .ok (.invokevirtual 72, 3) := by decide +kernel
theorem dX4_note_5 : decode cX4_note 5 = .ok (.astore 4, 2) := by decide +kernel
theorem dX4_note_7 : decode cX4_note 7 = .ok (.iload_n 2, 1) := by decide +kernel
theorem dX4_note_8 : decode cX4_note 8 = .ok (.iload_n 3, 1) := by decide +kernel
theorem dX4_note_9 : decode cX4_note 9 = .ok (.invokestatic 46, 3) := by decide +kernel
theorem dX4_note_12 : decode cX4_note 12 = .ok (.aload 4, 2) := by decide +kernel
theorem dX4_note_14 : decode cX4_note 14 = .ok (.getfield 76, 3) := by decide +kernel
theorem dX4_note_17 : decode cX4_note 17 = .ok (.invokevirtual 79, 3) := by decide +kernel
theorem dX4_note_20 : decode cX4_note 20 = .ok (.ifCond .eq 13, 3) := by decide +kernel
theorem dX4_note_23 : decode cX4_note 23 = .ok (.new 58, 3) := by decide +kernel
theorem dX4_note_26 : decode cX4_note 26 = .ok (.dup, 1) := by decide +kernel
theorem dX4_note_27 : decode cX4_note 27 = .ok (.ldc 83, 2) := by decide +kernel
theorem dX4_note_29 : decode cX4_note 29 = .ok (.invokespecial 62, 3) := by decide +kernel
theorem dX4_note_32 : decode cX4_note 32 = .ok (.athrow, 1) := by decide +kernel
theorem dX4_note_33 : decode cX4_note 33 = .ok (.aload 4, 2) := by decide +kernel
theorem dX4_note_35 : decode cX4_note 35 = .ok (.iload_n 2, 1) := by decide +kernel
theorem dX4_note_36 : decode cX4_note 36 = .ok (.iload_n 3, 1) := by decide +kernel
theorem dX4_note_37 : decode cX4_note 37 = .ok (.invokevirtual 66, 3) := by decide +kernel
theorem dX4_note_40 : decode cX4_note 40 = .ok (.aload 4, 2) := by decide +kernel
theorem dX4_note_42 : decode cX4_note 42 = .ok (.invokevirtual 85, 3) := by decide +kernel
theorem dX4_note_45 : decode cX4_note 45 = .ok (.ireturn, 1) := by decide +kernel
theorem dX4_correct_0 : decode cX4_correct 0 = .ok (.aload_n 0, 1) := by decide +kernel
theorem dX4_correct_1 : decode cX4_correct 1 = .ok (.iload_n 1, 1) := by decide +kernel
theorem dX4_correct_2 : decode cX4_correct 2 = .ok (.invokevirtual 72, 3) := by decide +kernel
theorem dX4_correct_5 : decode cX4_correct 5 = .ok (.astore 5, 2) := by decide +kernel
theorem dX4_correct_7 : decode cX4_correct 7 = .ok (.iload_n 2, 1) := by decide +kernel
theorem dX4_correct_8 : decode cX4_correct 8 = .ok (.ifCond .lt 12, 3) := by decide +kernel
theorem dX4_correct_11 : decode cX4_correct 11 = .ok (.iload_n 2, 1) := by decide +kernel
theorem dX4_correct_12 : decode cX4_correct 12 = .ok (.aload 5, 2) := by decide +kernel
theorem dX4_correct_14 : decode cX4_correct 14 = .ok (.invokevirtual 85, 3) := by decide +kernel
theorem dX4_correct_17 : decode cX4_correct 17 = .ok (.if_icmp .lt 13, 3) := by decide +kernel
theorem dX4_correct_20 : decode cX4_correct 20 = .ok (.new 89, 3) := by decide +kernel
theorem dX4_correct_23 : decode cX4_correct 23 = .ok (.dup, 1) := by decide +kernel
theorem dX4_correct_24 : decode cX4_correct 24 = .ok (.ldc 91, 2) := by decide +kernel
theorem dX4_correct_26 : decode cX4_correct 26 = .ok (.invokespecial 93, 3) := by decide +kernel
theorem dX4_correct_29 : decode cX4_correct 29 = .ok (.athrow, 1) := by decide +kernel
theorem dX4_correct_30 : decode cX4_correct 30 = .ok (.iload_n 3, 1) := by decide +kernel
theorem dX4_correct_31 : decode cX4_correct 31 = .ok (.iload 4, 2) := by decide +kernel
theorem dX4_correct_33 : decode cX4_correct 33 = .ok (.invokestatic 46, 3) := by decide +kernel
theorem dX4_correct_36 : decode cX4_correct 36 = .ok (.aload 5, 2) := by decide +kernel
theorem dX4_correct_38 : decode cX4_correct 38 = .ok (.getfield 76, 3) := by decide +kernel
theorem dX4_correct_41 : decode cX4_correct 41 = .ok (.iload_n 2, 1) := by decide +kernel
theorem dX4_correct_42 : decode cX4_correct 42 = .ok (.invokevirtual 94, 3) := by decide +kernel
theorem dX4_correct_45 : decode cX4_correct 45 = .ok (.istore 6, 2) := by decide +kernel
theorem dX4_correct_47 : decode cX4_correct 47 = .ok (.aload 5, 2) := by decide +kernel
theorem dX4_correct_49 : decode cX4_correct 49 = .ok (.getfield 76, 3) := by decide +kernel
theorem dX4_correct_52 : decode cX4_correct 52 = .ok (.iload_n 2, 1) := by decide +kernel
theorem dX4_correct_53 : decode cX4_correct 53 = .ok (.iload_n 3, 1) := by decide +kernel
theorem dX4_correct_54 : decode cX4_correct 54 = .ok (.invokevirtual 98, 3) := by decide +kernel
theorem dX4_correct_57 : decode cX4_correct 57 = .ok (.aload 5, 2) := by decide +kernel
theorem dX4_correct_59 : decode cX4_correct 59 = .ok (.getfield 101, 3) := by decide +kernel
theorem dX4_correct_62 : decode cX4_correct 62 = .ok (.iload_n 2, 1) := by decide +kernel
theorem dX4_correct_63 : decode cX4_correct 63 = .ok (.iload 4, 2) := by decide +kernel
theorem dX4_correct_65 : decode cX4_correct 65 = .ok (.invokevirtual 98, 3) := by decide +kernel
theorem dX4_correct_68 : decode cX4_correct 68 = .ok (.iload 6, 2) := by decide +kernel
theorem dX4_correct_70 : decode cX4_correct 70 = .ok (.ireturn, 1) := by decide +kernel
theorem dX4_shift_0 : decode cX4_shift 0 = .ok (.aload_n 0, 1) := by decide +kernel
theorem dX4_shift_1 : decode cX4_shift 1 = .ok (.iload_n 1, 1) := by decide +kernel
theorem dX4_shift_2 : decode cX4_shift 2 = .ok (.invokevirtual 72, 3) := by decide +kernel
theorem dX4_shift_5 : decode cX4_shift 5 = .ok (.astore_n 3, 1) := by decide +kernel
theorem dX4_shift_6 : decode cX4_shift 6 = .ok (.iload_n 2, 1) := by decide +kernel
theorem dX4_shift_7 : decode cX4_shift 7 = .ok (.bipush (-60), 2) := by decide +kernel
theorem dX4_shift_9 : decode cX4_shift 9 = .ok (.bipush 60, 2) := by decide +kernel
theorem dX4_shift_11 : decode cX4_shift 11 = .ok (.invokestatic 104, 3) := by decide +kernel
theorem dX4_shift_14 : decode cX4_shift 14 = .ok (.iconst 0, 1) := by decide +kernel
theorem dX4_shift_15 : decode cX4_shift 15 = .ok (.istore 4, 2) := by decide +kernel
theorem dX4_shift_17 : decode cX4_shift 17 = .ok (.iload 4, 2) := by decide +kernel
theorem dX4_shift_19 : decode cX4_shift 19 = .ok (.aload_n 3, 1) := by decide +kernel
theorem dX4_shift_20 : decode cX4_shift 20 = .ok (.invokevirtual 85, 3) := by decide +kernel
theorem dX4_shift_23 : decode cX4_shift 23 = .ok (.if_icmp .ge 39, 3) := by decide +kernel
theorem dX4_shift_26 : decode cX4_shift 26 = .ok (.aload_n 3, 1) := by decide +kernel
theorem dX4_shift_27 : decode cX4_shift 27 = .ok (.getfield 76, 3) := by decide +kernel
theorem dX4_shift_30 : decode cX4_shift 30 = .ok (.iload 4, 2) := by decide +kernel
theorem dX4_shift_32 : decode cX4_shift 32 = .ok (.invokevirtual 94, 3) := by decide +kernel
theorem dX4_shift_35 : decode cX4_shift 35 = .ok (.iload_n 2, 1) := by decide +kernel
theorem dX4_shift_36 : decode cX4_shift 36 = .ok (.iadd, 1) := by decide +kernel
theorem dX4_shift_37 : decode cX4_shift 37 = .ok (.iconst 0, 1) := by decide +kernel
theorem dX4_shift_38 : decode cX4_shift 38 = .ok (.bipush 60, 2) := by decide +kernel
theorem dX4_shift_40 : decode cX4_shift 40 = .ok (.invokestatic 54, 3) := by decide +kernel
theorem dX4_shift_43 : decode cX4_shift 43 = .ok (.ifCond .ne 13, 3) := by decide +kernel
theorem dX4_shift_46 : decode cX4_shift 46 = .ok (.new 58, 3) := by decide +kernel
theorem dX4_shift_49 : decode cX4_shift 49 = .ok (.dup, 1) := by decide +kernel
theorem dX4_shift_50 : decode cX4_shift 50 = .ok (.ldc 108, 2) := by decide +kernel
theorem dX4_shift_52 : decode cX4_shift 52 = .ok (.invokespecial 62, 3) := by decide +kernel
theorem dX4_shift_55 : decode cX4_shift 55 = .ok (.athrow, 1) := by decide +kernel
theorem dX4_shift_56 : decode cX4_shift 56 = .ok (.iinc 4 1, 3) := by decide +kernel
theorem dX4_shift_59 : decode cX4_shift 59 = .ok (.goto (-42), 3) := by decide +kernel
theorem dX4_shift_62 : decode cX4_shift 62 = .ok (.iconst 0, 1) := by decide +kernel
theorem dX4_shift_63 : decode cX4_shift 63 = .ok (.istore 4, 2) := by decide +kernel
theorem dX4_shift_65 : decode cX4_shift 65 = .ok (.iload 4, 2) := by decide +kernel
theorem dX4_shift_67 : decode cX4_shift 67 = .ok (.aload_n 3, 1) := by decide +kernel
theorem dX4_shift_68 : decode cX4_shift 68 = .ok (.invokevirtual 85, 3) := by decide +kernel
theorem dX4_shift_71 : decode cX4_shift 71 = .ok (.if_icmp .ge 29, 3) := by decide +kernel
theorem dX4_shift_74 : decode cX4_shift 74 = .ok (.aload_n 3, 1) := by decide +kernel
theorem dX4_shift_75 : decode cX4_shift 75 = .ok (.getfield 76, 3) := by decide +kernel
theorem dX4_shift_78 : decode cX4_shift 78 = .ok (.iload 4, 2) := by decide +kernel
theorem dX4_shift_80 : decode cX4_shift 80 = .ok (.aload_n 3, 1) := by decide +kernel
theorem dX4_shift_81 : decode cX4_shift 81 = .ok (.getfield 76, 3) := by decide +kernel
theorem dX4_shift_84 : decode cX4_shift 84 = .ok (.iload 4, 2) := by decide +kernel
theorem dX4_shift_86 : decode cX4_shift 86 = .ok (.invokevirtual 94, 3) := by decide +kernel
theorem dX4_shift_89 : decode cX4_shift 89 = .ok (.iload_n 2, 1) := by decide +kernel
theorem dX4_shift_90 : decode cX4_shift 90 = .ok (.iadd, 1) := by decide +kernel
theorem dX4_shift_91 : decode cX4_shift 91 = .ok (.invokevirtual 98, 3) := by decide +kernel
theorem dX4_shift_94 : decode cX4_shift 94 = .ok (.iinc 4 1, 3) := by decide +kernel
theorem dX4_shift_97 : decode cX4_shift 97 = .ok (.goto (-32), 3) := by decide +kernel
theorem dX4_shift_100 : decode cX4_shift 100 = .ok (.return_, 1) := by decide +kernel
theorem dX4_retire_0 : decode cX4_retire 0 = .ok (.aload_n 0, 1) := by decide +kernel
theorem dX4_retire_1 : decode cX4_retire 1 = .ok (.iload_n 1, 1) := by decide +kernel
theorem dX4_retire_2 : decode cX4_retire 2 = .ok (.invokevirtual 72, 3) := by decide +kernel
theorem dX4_retire_5 : decode cX4_retire 5 = .ok (.iconst 1, 1) := by decide +kernel
theorem dX4_retire_6 : decode cX4_retire 6 = .ok (.putfield 110, 3) := by decide +kernel
theorem dX4_retire_9 : decode cX4_retire 9 = .ok (.iconst 0, 1) := by decide +kernel
theorem dX4_retire_10 : decode cX4_retire 10 = .ok (.istore_n 2, 1) := by decide +kernel
theorem dX4_retire_11 : decode cX4_retire 11 = .ok (.iconst 0, 1) := by decide +kernel
theorem dX4_retire_12 : decode cX4_retire 12 = .ok (.istore_n 3, 1) := by decide +kernel
theorem dX4_retire_13 : decode cX4_retire 13 = .ok (.iload_n 3, 1) := by decide +kernel
theorem dX4_retire_14 : decode cX4_retire 14 = .ok (.aload_n 0, 1) := by decide +kernel
theorem dX4_retire_15 : decode cX4_retire 15 = .ok (.getfield 50, 3) := by decide +kernel
theorem dX4_retire_18 : decode cX4_retire 18 = .ok (.if_icmp .ge 20, 3) := by decide +kernel
theorem dX4_retire_21 : decode cX4_retire 21 = .ok (.aload_n 0, 1) := by decide +kernel
theorem dX4_retire_22 : decode cX4_retire 22 = .ok (.iload_n 3, 1) := by decide +kernel
theorem dX4_retire_23 : decode cX4_retire 23 = .ok (.invokevirtual 114, 3) := by decide +kernel
theorem dX4_retire_26 : decode cX4_retire 26 = .ok (.ifnull 6, 3) := by decide +kernel
theorem dX4_retire_29 : decode cX4_retire 29 = .ok (.iinc 2 1, 3) := by decide +kernel
theorem dX4_retire_32 : decode cX4_retire 32 = .ok (.iinc 3 1, 3) := by decide +kernel
theorem dX4_retire_35 : decode cX4_retire 35 = .ok (.goto (-22), 3) := by decide +kernel
theorem dX4_retire_38 : decode cX4_retire 38 = .ok (.iload_n 2, 1) := by decide +kernel
theorem dX4_retire_39 : decode cX4_retire 39 = .ok (.ireturn, 1) := by decide +kernel
theorem dX4_tunes_0 : decode cX4_tunes 0 = .ok (.aload_n 0, 1) := by decide +kernel
theorem dX4_tunes_1 : decode cX4_tunes 1 = .ok (.getfield 50, 3) := by decide +kernel
theorem dX4_tunes_4 : decode cX4_tunes 4 = .ok (.ireturn, 1) := by decide +kernel
theorem dX4_notes_0 : decode cX4_notes 0 = .ok (.aload_n 0, 1) := by decide +kernel
theorem dX4_notes_1 : decode cX4_notes 1 = .ok (.iload_n 1, 1) := by decide +kernel
theorem dX4_notes_2 : decode cX4_notes 2 = .ok (.invokevirtual 117, 3) := by decide +kernel
theorem dX4_notes_5 : decode cX4_notes 5 = .ok (.invokevirtual 85, 3) := by decide +kernel
theorem dX4_notes_8 : decode cX4_notes 8 = .ok (.ireturn, 1) := by decide +kernel
theorem dX4_step_0 : decode cX4_step 0 = .ok (.aload_n 0, 1) := by decide +kernel
theorem dX4_step_1 : decode cX4_step 1 = .ok (.iload_n 1, 1) := by decide +kernel
theorem dX4_step_2 : decode cX4_step 2 = .ok (.invokevirtual 117, 3) := by decide +kernel
theorem dX4_step_5 : decode cX4_step 5 = .ok (.astore_n 3, 1) := by decide +kernel
theorem dX4_step_6 : decode cX4_step 6 = .ok (.iload_n 2, 1) := by decide +kernel
theorem dX4_step_7 : decode cX4_step 7 = .ok (.ifCond .lt 13, 3) := by decide +kernel
theorem dX4_step_10 : decode cX4_step 10 = .ok (.iload_n 2, 1) := by decide +kernel
theorem dX4_step_11 : decode cX4_step 11 = .ok (.aload_n 3, 1) := by decide +kernel
theorem dX4_step_12 : decode cX4_step 12 = .ok (.invokevirtual 85, 3) := by decide +kernel
theorem dX4_step_15 : decode cX4_step 15 = .ok (.iconst 1, 1) := by decide +kernel
theorem dX4_step_16 : decode cX4_step 16 = .ok (.isub, 1) := by decide +kernel
theorem dX4_step_17 : decode cX4_step 17 = .ok (.if_icmp .lt 13, 3) := by decide +kernel
theorem dX4_step_20 : decode cX4_step 20 = .ok (.new 89, 3) := by decide +kernel
theorem dX4_step_23 : decode cX4_step 23 = .ok (.dup, 1) := by decide +kernel
theorem dX4_step_24 : decode cX4_step 24 = .ok (.ldc 120, 2) := by decide +kernel
theorem dX4_step_26 : decode cX4_step 26 = .ok (.invokespecial 93, 3) := by decide +kernel
theorem dX4_step_29 : decode cX4_step 29 = .ok (.athrow, 1) := by decide +kernel
theorem dX4_step_30 : decode cX4_step 30 = .ok (.aload_n 3, 1) := by decide +kernel
theorem dX4_step_31 : decode cX4_step 31 = .ok (.getfield 76, 3) := by decide +kernel
theorem dX4_step_34 : decode cX4_step 34 = .ok (.iload_n 2, 1) := by decide +kernel
theorem dX4_step_35 : decode cX4_step 35 = .ok (.invokevirtual 122, 3) := by decide +kernel
theorem dX4_step_38 : decode cX4_step 38 = .ok (.ireturn, 1) := by decide +kernel
theorem dX4_shared_0 : decode cX4_shared 0 = .ok (.aload_n 0, 1) := by decide +kernel
theorem dX4_shared_1 : decode cX4_shared 1 = .ok (.iload_n 1, 1) := by decide +kernel
theorem dX4_shared_2 : decode cX4_shared 2 = .ok (.invokevirtual 117, 3) := by decide +kernel
theorem dX4_shared_5 : decode cX4_shared 5 = .ok (.getfield 76, 3) := by decide +kernel
theorem dX4_shared_8 : decode cX4_shared 8 = .ok (.astore_n 3, 1) := by decide +kernel
theorem dX4_shared_9 : decode cX4_shared 9 = .ok (.aload_n 0, 1) := by decide +kernel
theorem dX4_shared_10 : decode cX4_shared 10 = .ok (.iload_n 2, 1) := by decide +kernel
theorem dX4_shared_11 : decode cX4_shared 11 = .ok (.invokevirtual 117, 3) := by decide +kernel
theorem dX4_shared_14 : decode cX4_shared 14 = .ok (.getfield 76, 3) := by decide +kernel
theorem dX4_shared_17 : decode cX4_shared 17 = .ok (.astore 4, 2) := by decide +kernel
theorem dX4_shared_19 : decode cX4_shared 19 = .ok (.iconst 0, 1) := by decide +kernel
theorem dX4_shared_20 : decode cX4_shared 20 = .ok (.istore 5, 2) := by decide +kernel
theorem dX4_shared_22 : decode cX4_shared 22 = .ok (.iconst 0, 1) := by decide +kernel
theorem dX4_shared_23 : decode cX4_shared 23 = .ok (.istore 6, 2) := by decide +kernel
theorem dX4_shared_25 : decode cX4_shared 25 = .ok (.iload 6, 2) := by decide +kernel
theorem dX4_shared_27 : decode cX4_shared 27 = .ok (.aload_n 3, 1) := by decide +kernel
theorem dX4_shared_28 : decode cX4_shared 28 = .ok (.invokevirtual 125, 3) := by decide +kernel
theorem dX4_shared_31 : decode cX4_shared 31 = .ok (.if_icmp .ge 45, 3) := by decide +kernel
theorem dX4_shared_34 : decode cX4_shared 34 = .ok (.iconst 0, 1) := by decide +kernel
theorem dX4_shared_35 : decode cX4_shared 35 = .ok (.istore 7, 2) := by decide +kernel
theorem dX4_shared_37 : decode cX4_shared 37 = .ok (.iload 7, 2) := by decide +kernel
theorem dX4_shared_39 : decode cX4_shared 39 = .ok (.aload 4, 2) := by decide +kernel
theorem dX4_shared_41 : decode cX4_shared 41 = .ok (.invokevirtual 125, 3) := by decide +kernel
theorem dX4_shared_44 : decode cX4_shared 44 = .ok (.if_icmp .ge 26, 3) := by decide +kernel
theorem dX4_shared_47 : decode cX4_shared 47 = .ok (.iload 5, 2) := by decide +kernel
theorem dX4_shared_49 : decode cX4_shared 49 = .ok (.aload_n 3, 1) := by decide +kernel
theorem dX4_shared_50 : decode cX4_shared 50 = .ok (.iload 6, 2) := by decide +kernel
theorem dX4_shared_52 : decode cX4_shared 52 = .ok (.aload 4, 2) := by decide +kernel
theorem dX4_shared_54 : decode cX4_shared 54 = .ok (.iload 7, 2) := by decide +kernel
theorem dX4_shared_56 : decode cX4_shared 56 = .ok (.invokevirtual 126, 3) := by decide +kernel
theorem dX4_shared_59 : decode cX4_shared 59 = .ok (.invokestatic 130, 3) := by decide +kernel
theorem dX4_shared_62 : decode cX4_shared 62 = .ok (.istore 5, 2) := by decide +kernel
theorem dX4_shared_64 : decode cX4_shared 64 = .ok (.iinc 7 1, 3) := by decide +kernel
theorem dX4_shared_67 : decode cX4_shared 67 = .ok (.goto (-30), 3) := by decide +kernel
theorem dX4_shared_70 : decode cX4_shared 70 = .ok (.iinc 6 1, 3) := by decide +kernel
theorem dX4_shared_73 : decode cX4_shared 73 = .ok (.goto (-48), 3) := by decide +kernel
theorem dX4_shared_76 : decode cX4_shared 76 = .ok (.iload 5, 2) := by decide +kernel
theorem dX4_shared_78 : decode cX4_shared 78 = .ok (.ireturn, 1) := by decide +kernel
theorem dX4_hum_0 : decode cX4_hum 0 = .ok (.iload_n 1, 1) := by decide +kernel
theorem dX4_hum_1 : decode cX4_hum 1 = .ok (.iconst 0, 1) := by decide +kernel
theorem dX4_hum_2 : decode cX4_hum 2 = .ok (.bipush 60, 2) := by decide +kernel
theorem dX4_hum_4 : decode cX4_hum 4 = .ok (.invokestatic 104, 3) := by decide +kernel
theorem dX4_hum_7 : decode cX4_hum 7 = .ok (.aload_n 0, 1) := by decide +kernel
theorem dX4_hum_8 : decode cX4_hum 8 = .ok (.getfield 20, 3) := by decide +kernel
theorem dX4_hum_11 : decode cX4_hum 11 = .ok (.invokevirtual 79, 3) := by decide +kernel
theorem dX4_hum_14 : decode cX4_hum 14 = .ok (.ifCond .eq 13, 3) := by decide +kernel
theorem dX4_hum_17 : decode cX4_hum 17 = .ok (.new 58, 3) := by decide +kernel
theorem dX4_hum_20 : decode cX4_hum 20 = .ok (.dup, 1) := by decide +kernel
theorem dX4_hum_21 : decode cX4_hum 21 = .ok (.ldc 136, 2) := by decide +kernel
theorem dX4_hum_23 : decode cX4_hum 23 = .ok (.invokespecial 62, 3) := by decide +kernel
theorem dX4_hum_26 : decode cX4_hum 26 = .ok (.athrow, 1) := by decide +kernel
theorem dX4_hum_27 : decode cX4_hum 27 = .ok (.aload_n 0, 1) := by decide +kernel
theorem dX4_hum_28 : decode cX4_hum 28 = .ok (.getfield 20, 3) := by decide +kernel
theorem dX4_hum_31 : decode cX4_hum 31 = .ok (.iload_n 1, 1) := by decide +kernel
theorem dX4_hum_32 : decode cX4_hum 32 = .ok (.invokevirtual 138, 3) := by decide +kernel
theorem dX4_hum_35 : decode cX4_hum 35 = .ok (.aload_n 0, 1) := by decide +kernel
theorem dX4_hum_36 : decode cX4_hum 36 = .ok (.getfield 20, 3) := by decide +kernel
theorem dX4_hum_39 : decode cX4_hum 39 = .ok (.invokevirtual 125, 3) := by decide +kernel
theorem dX4_hum_42 : decode cX4_hum 42 = .ok (.ireturn, 1) := by decide +kernel
theorem dX4_hush_0 : decode cX4_hush 0 = .ok (.aload_n 0, 1) := by decide +kernel
theorem dX4_hush_1 : decode cX4_hush 1 = .ok (.getfield 20, 3) := by decide +kernel
theorem dX4_hush_4 : decode cX4_hush 4 = .ok (.invokevirtual 125, 3) := by decide +kernel
theorem dX4_hush_7 : decode cX4_hush 7 = .ok (.istore_n 1, 1) := by decide +kernel
theorem dX4_hush_8 : decode cX4_hush 8 = .ok (.aload_n 0, 1) := by decide +kernel
theorem dX4_hush_9 : decode cX4_hush 9 = .ok (.getfield 20, 3) := by decide +kernel
theorem dX4_hush_12 : decode cX4_hush 12 = .ok (.invokevirtual 140, 3) := by decide +kernel
theorem dX4_hush_15 : decode cX4_hush 15 = .ok (.iload_n 1, 1) := by decide +kernel
theorem dX4_hush_16 : decode cX4_hush 16 = .ok (.ireturn, 1) := by decide +kernel
theorem dX4_hummed_0 : decode cX4_hummed 0 = .ok (.aload_n 0, 1) := by decide +kernel
theorem dX4_hummed_1 : decode cX4_hummed 1 = .ok (.getfield 20, 3) := by decide +kernel
theorem dX4_hummed_4 : decode cX4_hummed 4 = .ok (.invokevirtual 125, 3) := by decide +kernel
theorem dX4_hummed_7 : decode cX4_hummed 7 = .ok (.ireturn, 1) := by decide +kernel
theorem dX4_setCosts_0 : decode cX4_setCosts 0 = .ok (.iload_n 1, 1) := by decide +kernel
theorem dX4_setCosts_1 : decode cX4_setCosts 1 = .ok (.iconst 0, 1) := by decide +kernel
theorem dX4_setCosts_2 : decode cX4_setCosts 2 = .ok (.bipush 20, 2) := by decide +kernel
theorem dX4_setCosts_4 : decode cX4_setCosts 4 = .ok (.invokestatic 104, 3) := by decide +kernel
theorem dX4_setCosts_7 : decode cX4_setCosts 7 = .ok (.iload_n 2, 1) := by decide +kernel
theorem dX4_setCosts_8 : decode cX4_setCosts 8 = .ok (.iconst 0, 1) := by decide +kernel
theorem dX4_setCosts_9 : decode cX4_setCosts 9 = .ok (.bipush 20, 2) := by decide +kernel
theorem dX4_setCosts_11 : decode cX4_setCosts 11 = .ok (.invokestatic 104, 3) := by decide +kernel
theorem dX4_setCosts_14 : decode cX4_setCosts 14 = .ok (.iload_n 3, 1) := by decide +kernel
theorem dX4_setCosts_15 : decode cX4_setCosts 15 = .ok (.iconst 0, 1) := by decide +kernel
theorem dX4_setCosts_16 : decode cX4_setCosts 16 = .ok (.bipush 20, 2) := by decide +kernel
theorem dX4_setCosts_18 : decode cX4_setCosts 18 = .ok (.invokestatic 104, 3) := by decide +kernel
theorem dX4_setCosts_21 : decode cX4_setCosts 21 = .ok (.aload_n 0, 1) := by decide +kernel
theorem dX4_setCosts_22 : decode cX4_setCosts 22 = .ok (.getfield 29, 3) := by decide +kernel
theorem dX4_setCosts_25 : decode cX4_setCosts 25 = .ok (.iload_n 1, 1) := by decide +kernel
theorem dX4_setCosts_26 : decode cX4_setCosts 26 = .ok (.putfield 143, 3) := by decide +kernel
theorem dX4_setCosts_29 : decode cX4_setCosts 29 = .ok (.aload_n 0, 1) := by decide +kernel
theorem dX4_setCosts_30 : decode cX4_setCosts 30 = .ok (.getfield 29, 3) := by decide +kernel
theorem dX4_setCosts_33 : decode cX4_setCosts 33 = .ok (.iload_n 2, 1) := by decide +kernel
theorem dX4_setCosts_34 : decode cX4_setCosts 34 = .ok (.putfield 146, 3) := by decide +kernel
theorem dX4_setCosts_37 : decode cX4_setCosts 37 = .ok (.aload_n 0, 1) := by decide +kernel
theorem dX4_setCosts_38 : decode cX4_setCosts 38 = .ok (.getfield 29, 3) := by decide +kernel
theorem dX4_setCosts_41 : decode cX4_setCosts 41 = .ok (.iload_n 3, 1) := by decide +kernel
theorem dX4_setCosts_42 : decode cX4_setCosts 42 = .ok (.putfield 149, 3) := by decide +kernel
theorem dX4_setCosts_45 : decode cX4_setCosts 45 = .ok (.return_, 1) := by decide +kernel
theorem dX4_cost_0 : decode cX4_cost 0 = .ok (.aload_n 0, 1) := by decide +kernel
theorem dX4_cost_1 : decode cX4_cost 1 = .ok (.getfield 29, 3) := by decide +kernel
theorem dX4_cost_4 : decode cX4_cost 4 = .ok (.aload_n 0, 1) := by decide +kernel
theorem dX4_cost_5 : decode cX4_cost 5 = .ok (.iload_n 1, 1) := by decide +kernel
theorem dX4_cost_6 : decode cX4_cost 6 = .ok (.invokevirtual 72, 3) := by decide +kernel
theorem dX4_cost_9 : decode cX4_cost 9 = .ok (.invokevirtual 152, 3) := by decide +kernel
theorem dX4_cost_12 : decode cX4_cost 12 = .ok (.ireturn, 1) := by decide +kernel
theorem dX4_costByAll_0 : decode cX4_costByAll 0 = .ok (.aload_n 0, 1) := by decide +kernel
theorem dX4_costByAll_1 : decode cX4_costByAll 1 = .ok (.iload_n 1, 1) := by decide +kernel
theorem dX4_costByAll_2 : decode cX4_costByAll 2 = .ok (.invokevirtual 72, 3) := by decide +kernel
theorem dX4_costByAll_5 : decode cX4_costByAll 5 = .ok (.astore_n 2, 1) := by decide +kernel
theorem dX4_costByAll_6 : decode cX4_costByAll 6 = .ok (.aload_n 0, 1) := by decide +kernel
theorem dX4_costByAll_7 : decode cX4_costByAll 7 = .ok (.getfield 20, 3) := by decide +kernel
theorem dX4_costByAll_10 : decode cX4_costByAll 10 = .ok (.invokevirtual 125, 3) := by decide +kernel
theorem dX4_costByAll_13 : decode cX4_costByAll 13 = .ok (.bipush 8, 2) := by decide +kernel
theorem dX4_costByAll_15 : decode cX4_costByAll 15 = .ok (.if_icmp .le 13, 3) := by decide +kernel
theorem dX4_costByAll_18 : decode cX4_costByAll 18 = .ok (.new 58, 3) := by decide +kernel
theorem dX4_costByAll_21 : decode cX4_costByAll 21 = .ok (.dup, 1) := by decide +kernel
theorem dX4_costByAll_22 : decode cX4_costByAll 22 = .ok (.ldc 156, 2) := by decide +kernel
theorem dX4_costByAll_24 : decode cX4_costByAll 24 = .ok (.invokespecial 62, 3) := by decide +kernel
theorem dX4_costByAll_27 : decode cX4_costByAll 27 = .ok (.athrow, 1) := by decide +kernel
theorem dX4_costByAll_28 : decode cX4_costByAll 28 = .ok (.aload_n 0, 1) := by decide +kernel
theorem dX4_costByAll_29 : decode cX4_costByAll 29 = .ok (.getfield 29, 3) := by decide +kernel
theorem dX4_costByAll_32 : decode cX4_costByAll 32 = .ok (.aload_n 2, 1) := by decide +kernel
theorem dX4_costByAll_33 : decode cX4_costByAll 33 = .ok (.invokevirtual 158, 3) := by decide +kernel
theorem dX4_costByAll_36 : decode cX4_costByAll 36 = .ok (.ireturn, 1) := by decide +kernel
theorem dX4_matches_0 : decode cX4_matches 0 = .ok (.aload_n 0, 1) := by decide +kernel
theorem dX4_matches_1 : decode cX4_matches 1 = .ok (.invokevirtual 161, 3) := by decide +kernel
theorem dX4_matches_4 : decode cX4_matches 4 = .ok (.iconst 0, 1) := by decide +kernel
theorem dX4_matches_5 : decode cX4_matches 5 = .ok (.istore_n 1, 1) := by decide +kernel
theorem dX4_matches_6 : decode cX4_matches 6 = .ok (.iconst 0, 1) := by decide +kernel
theorem dX4_matches_7 : decode cX4_matches 7 = .ok (.istore_n 2, 1) := by decide +kernel
theorem dX4_matches_8 : decode cX4_matches 8 = .ok (.iload_n 2, 1) := by decide +kernel
theorem dX4_matches_9 : decode cX4_matches 9 = .ok (.aload_n 0, 1) := by decide +kernel
theorem dX4_matches_10 : decode cX4_matches 10 = .ok (.getfield 40, 3) := by decide +kernel
theorem dX4_matches_13 : decode cX4_matches 13 = .ok (.invokevirtual 125, 3) := by decide +kernel
theorem dX4_matches_16 : decode cX4_matches 16 = .ok (.if_icmp .ge 24, 3) := by decide +kernel
theorem dX4_matches_19 : decode cX4_matches 19 = .ok (.aload_n 0, 1) := by decide +kernel
theorem dX4_matches_20 : decode cX4_matches 20 = .ok (.getfield 40, 3) := by decide +kernel
theorem dX4_matches_23 : decode cX4_matches 23 = .ok (.iload_n 2, 1) := by decide +kernel
theorem dX4_matches_24 : decode cX4_matches 24 = .ok (.invokevirtual 94, 3) := by decide +kernel
theorem dX4_matches_27 : decode cX4_matches 27 = .ok (.iconst (-1), 1) := by decide +kernel
theorem dX4_matches_28 : decode cX4_matches 28 = .ok (.if_icmp .eq 6, 3) := by decide +kernel
theorem dX4_matches_31 : decode cX4_matches 31 = .ok (.iinc 1 1, 3) := by decide +kernel
theorem dX4_matches_34 : decode cX4_matches 34 = .ok (.iinc 2 1, 3) := by decide +kernel
theorem dX4_matches_37 : decode cX4_matches 37 = .ok (.goto (-29), 3) := by decide +kernel
theorem dX4_matches_40 : decode cX4_matches 40 = .ok (.iload_n 1, 1) := by decide +kernel
theorem dX4_matches_41 : decode cX4_matches 41 = .ok (.ireturn, 1) := by decide +kernel
theorem dX4_found_0 : decode cX4_found 0 = .ok (.aload_n 0, 1) := by decide +kernel
theorem dX4_found_1 : decode cX4_found 1 = .ok (.invokevirtual 161, 3) := by decide +kernel
theorem dX4_found_4 : decode cX4_found 4 = .ok (.iconst 0, 1) := by decide +kernel
theorem dX4_found_5 : decode cX4_found 5 = .ok (.istore_n 2, 1) := by decide +kernel
theorem dX4_found_6 : decode cX4_found 6 = .ok (.iload_n 2, 1) := by decide +kernel
theorem dX4_found_7 : decode cX4_found 7 = .ok (.aload_n 0, 1) := by decide +kernel
theorem dX4_found_8 : decode cX4_found 8 = .ok (.getfield 40, 3) := by decide +kernel
theorem dX4_found_11 : decode cX4_found 11 = .ok (.invokevirtual 125, 3) := by decide +kernel
theorem dX4_found_14 : decode cX4_found 14 = .ok (.if_icmp .ge 32, 3) := by decide +kernel
theorem dX4_found_17 : decode cX4_found 17 = .ok (.aload_n 0, 1) := by decide +kernel
theorem dX4_found_18 : decode cX4_found 18 = .ok (.getfield 40, 3) := by decide +kernel
theorem dX4_found_21 : decode cX4_found 21 = .ok (.iload_n 2, 1) := by decide +kernel
theorem dX4_found_22 : decode cX4_found 22 = .ok (.invokevirtual 94, 3) := by decide +kernel
theorem dX4_found_25 : decode cX4_found 25 = .ok (.iconst (-1), 1) := by decide +kernel
theorem dX4_found_26 : decode cX4_found 26 = .ok (.if_icmp .eq 14, 3) := by decide +kernel
theorem dX4_found_29 : decode cX4_found 29 = .ok (.aload_n 0, 1) := by decide +kernel
theorem dX4_found_30 : decode cX4_found 30 = .ok (.iload_n 2, 1) := by decide +kernel
theorem dX4_found_31 : decode cX4_found 31 = .ok (.invokevirtual 164, 3) := by decide +kernel
theorem dX4_found_34 : decode cX4_found 34 = .ok (.iload_n 1, 1) := by decide +kernel
theorem dX4_found_35 : decode cX4_found 35 = .ok (.if_icmp .ne 5, 3) := by decide +kernel
theorem dX4_found_38 : decode cX4_found 38 = .ok (.iload_n 2, 1) := by decide +kernel
theorem dX4_found_39 : decode cX4_found 39 = .ok (.ireturn, 1) := by decide +kernel
theorem dX4_found_40 : decode cX4_found 40 = .ok (.iinc 2 1, 3) := by decide +kernel
theorem dX4_found_43 : decode cX4_found 43 = .ok (.goto (-37), 3) := by decide +kernel
theorem dX4_found_46 : decode cX4_found 46 = .ok (.new 89, 3) := by decide +kernel
theorem dX4_found_49 : decode cX4_found 49 = .ok (.dup, 1) := by decide +kernel
theorem dX4_found_50 : decode cX4_found 50 = .ok (.ldc 167, 2) := by decide +kernel
theorem dX4_found_52 : decode cX4_found 52 = .ok (.invokespecial 93, 3) := by decide +kernel
theorem dX4_found_55 : decode cX4_found 55 = .ok (.athrow, 1) := by decide +kernel
theorem dX4_likeContour_0 : decode cX4_likeContour 0 = .ok (.iconst 0, 1) := by decide +kernel
theorem dX4_likeContour_1 : decode cX4_likeContour 1 = .ok (.istore_n 1, 1) := by decide +kernel
theorem dX4_likeContour_2 : decode cX4_likeContour 2 = .ok (.iconst 0, 1) := by decide +kernel
theorem dX4_likeContour_3 : decode cX4_likeContour 3 = .ok (.istore_n 2, 1) := by decide +kernel
theorem dX4_likeContour_4 : decode cX4_likeContour 4 = .ok (.iload_n 2, 1) := by decide +kernel
theorem dX4_likeContour_5 : decode cX4_likeContour 5 = .ok (.aload_n 0, 1) := by decide +kernel
theorem dX4_likeContour_6 : decode cX4_likeContour 6 = .ok (.getfield 50, 3) := by decide +kernel
theorem dX4_likeContour_9 : decode cX4_likeContour 9 = .ok (.if_icmp .ge 39, 3) := by decide +kernel
theorem dX4_likeContour_12 : decode cX4_likeContour 12 = .ok (.aload_n 0, 1) := by decide +kernel
theorem dX4_likeContour_13 : decode cX4_likeContour 13 = .ok (.iload_n 2, 1) := by decide +kernel
theorem dX4_likeContour_14 : decode cX4_likeContour 14 = .ok (.invokevirtual 114, 3) := by decide +kernel
theorem dX4_likeContour_17 : decode cX4_likeContour 17 = .ok (.astore_n 3, 1) := by decide +kernel
theorem dX4_likeContour_18 : decode cX4_likeContour 18 = .ok (.aload_n 3, 1) := by decide +kernel
theorem dX4_likeContour_19 : decode cX4_likeContour 19 = .ok (.ifnull 23, 3) := by decide +kernel
theorem dX4_likeContour_22 : decode cX4_likeContour 22 = .ok (.aload_n 3, 1) := by decide +kernel
theorem dX4_likeContour_23 : decode cX4_likeContour 23 = .ok (.getfield 76, 3) := by decide +kernel
theorem dX4_likeContour_26 : decode cX4_likeContour 26 = .ok (.aload_n 0, 1) := by decide +kernel
theorem dX4_likeContour_27 : decode cX4_likeContour 27 = .ok (.getfield 20, 3) := by decide +kernel
theorem dX4_likeContour_30 : decode cX4_likeContour 30 = .ok (.invokevirtual 169, 3) := by decide +kernel
theorem dX4_likeContour_33 : decode cX4_likeContour 33 = .ok (.ifCond .eq 9, 3) := by decide +kernel
theorem dX4_likeContour_36 : decode cX4_likeContour 36 = .ok (.iload_n 1, 1) := by decide +kernel
theorem dX4_likeContour_37 : decode cX4_likeContour 37 = .ok (.iconst 1, 1) := by decide +kernel
theorem dX4_likeContour_38 : decode cX4_likeContour 38 = .ok (.iload_n 2, 1) := by decide +kernel
theorem dX4_likeContour_39 : decode cX4_likeContour 39 = .ok (.ishl, 1) := by decide +kernel
theorem dX4_likeContour_40 : decode cX4_likeContour 40 = .ok (.ior, 1) := by decide +kernel
theorem dX4_likeContour_41 : decode cX4_likeContour 41 = .ok (.istore_n 1, 1) := by decide +kernel
theorem dX4_likeContour_42 : decode cX4_likeContour 42 = .ok (.iinc 2 1, 3) := by decide +kernel
theorem dX4_likeContour_45 : decode cX4_likeContour 45 = .ok (.goto (-41), 3) := by decide +kernel
theorem dX4_likeContour_48 : decode cX4_likeContour 48 = .ok (.iload_n 1, 1) := by decide +kernel
theorem dX4_likeContour_49 : decode cX4_likeContour 49 = .ok (.ireturn, 1) := by decide +kernel
theorem dX4_places_0 : decode cX4_places 0 = .ok (.aload_n 0, 1) := by decide +kernel
theorem dX4_places_1 : decode cX4_places 1 = .ok (.iload_n 1, 1) := by decide +kernel
theorem dX4_places_2 : decode cX4_places 2 = .ok (.invokevirtual 173, 3) := by decide +kernel
theorem dX4_places_5 : decode cX4_places 5 = .ok (.aload_n 0, 1) := by decide +kernel
theorem dX4_places_6 : decode cX4_places 6 = .ok (.iload_n 1, 1) := by decide +kernel
theorem dX4_places_7 : decode cX4_places 7 = .ok (.invokevirtual 176, 3) := by decide +kernel
theorem dX4_places_10 : decode cX4_places 10 = .ok (.aload_n 0, 1) := by decide +kernel
theorem dX4_places_11 : decode cX4_places 11 = .ok (.getfield 43, 3) := by decide +kernel
theorem dX4_places_14 : decode cX4_places 14 = .ok (.invokevirtual 125, 3) := by decide +kernel
theorem dX4_places_17 : decode cX4_places 17 = .ok (.ireturn, 1) := by decide +kernel
theorem dX4_place_0 : decode cX4_place 0 = .ok (.aload_n 0, 1) := by decide +kernel
theorem dX4_place_1 : decode cX4_place 1 = .ok (.iload_n 1, 1) := by decide +kernel
theorem dX4_place_2 : decode cX4_place 2 = .ok (.invokevirtual 173, 3) := by decide +kernel
theorem dX4_place_5 : decode cX4_place 5 = .ok (.aload_n 0, 1) := by decide +kernel
theorem dX4_place_6 : decode cX4_place 6 = .ok (.iload_n 1, 1) := by decide +kernel
theorem dX4_place_7 : decode cX4_place 7 = .ok (.invokevirtual 176, 3) := by decide +kernel
theorem dX4_place_10 : decode cX4_place 10 = .ok (.iload_n 2, 1) := by decide +kernel
theorem dX4_place_11 : decode cX4_place 11 = .ok (.ifCond .lt 14, 3) := by decide +kernel
theorem dX4_place_14 : decode cX4_place 14 = .ok (.iload_n 2, 1) := by decide +kernel
theorem dX4_place_15 : decode cX4_place 15 = .ok (.aload_n 0, 1) := by decide +kernel
theorem dX4_place_16 : decode cX4_place 16 = .ok (.getfield 43, 3) := by decide +kernel
theorem dX4_place_19 : decode cX4_place 19 = .ok (.invokevirtual 125, 3) := by decide +kernel
theorem dX4_place_22 : decode cX4_place 22 = .ok (.if_icmp .lt 13, 3) := by decide +kernel
theorem dX4_place_25 : decode cX4_place 25 = .ok (.new 89, 3) := by decide +kernel
theorem dX4_place_28 : decode cX4_place 28 = .ok (.dup, 1) := by decide +kernel
theorem dX4_place_29 : decode cX4_place 29 = .ok (.ldc 179, 2) := by decide +kernel
theorem dX4_place_31 : decode cX4_place 31 = .ok (.invokespecial 93, 3) := by decide +kernel
theorem dX4_place_34 : decode cX4_place 34 = .ok (.athrow, 1) := by decide +kernel
theorem dX4_place_35 : decode cX4_place 35 = .ok (.aload_n 0, 1) := by decide +kernel
theorem dX4_place_36 : decode cX4_place 36 = .ok (.getfield 43, 3) := by decide +kernel
theorem dX4_place_39 : decode cX4_place 39 = .ok (.iload_n 2, 1) := by decide +kernel
theorem dX4_place_40 : decode cX4_place 40 = .ok (.invokevirtual 94, 3) := by decide +kernel
theorem dX4_place_43 : decode cX4_place 43 = .ok (.ireturn, 1) := by decide +kernel
theorem dX4_link_0 : decode cX4_link 0 = .ok (.aload_n 0, 1) := by decide +kernel
theorem dX4_link_1 : decode cX4_link 1 = .ok (.iload_n 1, 1) := by decide +kernel
theorem dX4_link_2 : decode cX4_link 2 = .ok (.iload_n 2, 1) := by decide +kernel
theorem dX4_link_3 : decode cX4_link 3 = .ok (.invokevirtual 181, 3) := by decide +kernel
theorem dX4_link_6 : decode cX4_link 6 = .ok (.iload_n 1, 1) := by decide +kernel
theorem dX4_link_7 : decode cX4_link 7 = .ok (.iload_n 2, 1) := by decide +kernel
theorem dX4_link_8 : decode cX4_link 8 = .ok (.if_icmp .ne 13, 3) := by decide +kernel
theorem dX4_link_11 : decode cX4_link 11 = .ok (.new 184, 3) := by decide +kernel
theorem dX4_link_14 : decode cX4_link 14 = .ok (.dup, 1) := by decide +kernel
theorem dX4_link_15 : decode cX4_link 15 = .ok (.ldc 186, 2) := by decide +kernel
theorem dX4_link_17 : decode cX4_link 17 = .ok (.invokespecial 188, 3) := by decide +kernel
theorem dX4_link_20 : decode cX4_link 20 = .ok (.athrow, 1) := by decide +kernel
theorem dX4_link_21 : decode cX4_link 21 = .ok (.aload_n 0, 1) := by decide +kernel
theorem dX4_link_22 : decode cX4_link 22 = .ok (.getfield 36, 3) := by decide +kernel
theorem dX4_link_25 : decode cX4_link 25 = .ok (.iload_n 1, 1) := by decide +kernel
theorem dX4_link_26 : decode cX4_link 26 = .ok (.iload_n 2, 1) := by decide +kernel
theorem dX4_link_27 : decode cX4_link 27 = .ok (.invokevirtual 189, 3) := by decide +kernel
theorem dX4_link_30 : decode cX4_link 30 = .ok (.ifCond .eq 13, 3) := by decide +kernel
theorem dX4_link_33 : decode cX4_link 33 = .ok (.new 58, 3) := by decide +kernel
theorem dX4_link_36 : decode cX4_link 36 = .ok (.dup, 1) := by decide +kernel
theorem dX4_link_37 : decode cX4_link 37 = .ok (.ldc 193, 2) := by decide +kernel
theorem dX4_link_39 : decode cX4_link 39 = .ok (.invokespecial 62, 3) := by decide +kernel
theorem dX4_link_42 : decode cX4_link 42 = .ok (.athrow, 1) := by decide +kernel
theorem dX4_link_43 : decode cX4_link 43 = .ok (.aload_n 0, 1) := by decide +kernel
theorem dX4_link_44 : decode cX4_link 44 = .ok (.getfield 36, 3) := by decide +kernel
theorem dX4_link_47 : decode cX4_link 47 = .ok (.iload_n 1, 1) := by decide +kernel
theorem dX4_link_48 : decode cX4_link 48 = .ok (.iload_n 2, 1) := by decide +kernel
theorem dX4_link_49 : decode cX4_link 49 = .ok (.invokevirtual 195, 3) := by decide +kernel
theorem dX4_link_52 : decode cX4_link 52 = .ok (.aload_n 0, 1) := by decide +kernel
theorem dX4_link_53 : decode cX4_link 53 = .ok (.getfield 36, 3) := by decide +kernel
theorem dX4_link_56 : decode cX4_link 56 = .ok (.invokevirtual 198, 3) := by decide +kernel
theorem dX4_link_59 : decode cX4_link 59 = .ok (.ireturn, 1) := by decide +kernel
theorem dX4_cut_0 : decode cX4_cut 0 = .ok (.aload_n 0, 1) := by decide +kernel
theorem dX4_cut_1 : decode cX4_cut 1 = .ok (.iload_n 1, 1) := by decide +kernel
theorem dX4_cut_2 : decode cX4_cut 2 = .ok (.iload_n 2, 1) := by decide +kernel
theorem dX4_cut_3 : decode cX4_cut 3 = .ok (.invokevirtual 181, 3) := by decide +kernel
theorem dX4_cut_6 : decode cX4_cut 6 = .ok (.aload_n 0, 1) := by decide +kernel
theorem dX4_cut_7 : decode cX4_cut 7 = .ok (.getfield 36, 3) := by decide +kernel
theorem dX4_cut_10 : decode cX4_cut 10 = .ok (.iload_n 1, 1) := by decide +kernel
theorem dX4_cut_11 : decode cX4_cut 11 = .ok (.iload_n 2, 1) := by decide +kernel
theorem dX4_cut_12 : decode cX4_cut 12 = .ok (.invokevirtual 189, 3) := by decide +kernel
theorem dX4_cut_15 : decode cX4_cut 15 = .ok (.ifCond .ne 13, 3) := by decide +kernel
theorem dX4_cut_18 : decode cX4_cut 18 = .ok (.new 58, 3) := by decide +kernel
theorem dX4_cut_21 : decode cX4_cut 21 = .ok (.dup, 1) := by decide +kernel
theorem dX4_cut_22 : decode cX4_cut 22 = .ok (.ldc 201, 2) := by decide +kernel
theorem dX4_cut_24 : decode cX4_cut 24 = .ok (.invokespecial 62, 3) := by decide +kernel
theorem dX4_cut_27 : decode cX4_cut 27 = .ok (.athrow, 1) := by decide +kernel
theorem dX4_cut_28 : decode cX4_cut 28 = .ok (.aload_n 0, 1) := by decide +kernel
theorem dX4_cut_29 : decode cX4_cut 29 = .ok (.getfield 36, 3) := by decide +kernel
theorem dX4_cut_32 : decode cX4_cut 32 = .ok (.iload_n 1, 1) := by decide +kernel
theorem dX4_cut_33 : decode cX4_cut 33 = .ok (.iload_n 2, 1) := by decide +kernel
theorem dX4_cut_34 : decode cX4_cut 34 = .ok (.invokevirtual 195, 3) := by decide +kernel
theorem dX4_cut_37 : decode cX4_cut 37 = .ok (.aload_n 0, 1) := by decide +kernel
theorem dX4_cut_38 : decode cX4_cut 38 = .ok (.getfield 36, 3) := by decide +kernel
theorem dX4_cut_41 : decode cX4_cut 41 = .ok (.invokevirtual 198, 3) := by decide +kernel
theorem dX4_cut_44 : decode cX4_cut 44 = .ok (.ireturn, 1) := by decide +kernel
theorem dX4_family_0 : decode cX4_family 0 = .ok (.aload_n 0, 1) := by decide +kernel
theorem dX4_family_1 : decode cX4_family 1 = .ok (.iload_n 1, 1) := by decide +kernel
theorem dX4_family_2 : decode cX4_family 2 = .ok (.invokevirtual 117, 3) := by decide +kernel
theorem dX4_family_5 : decode cX4_family 5 = .ok (.pop, 1) := by decide +kernel
theorem dX4_family_6 : decode cX4_family 6 = .ok (.aload_n 0, 1) := by decide +kernel
theorem dX4_family_7 : decode cX4_family 7 = .ok (.getfield 36, 3) := by decide +kernel
theorem dX4_family_10 : decode cX4_family 10 = .ok (.iload_n 1, 1) := by decide +kernel
theorem dX4_family_11 : decode cX4_family 11 = .ok (.invokevirtual 203, 3) := by decide +kernel
theorem dX4_family_14 : decode cX4_family 14 = .ok (.ireturn, 1) := by decide +kernel
theorem dX4_families_0 : decode cX4_families 0 = .ok (.aload_n 0, 1) := by decide +kernel
theorem dX4_families_1 : decode cX4_families 1 = .ok (.getfield 36, 3) := by decide +kernel
theorem dX4_families_4 : decode cX4_families 4 = .ok (.invokevirtual 198, 3) := by decide +kernel
theorem dX4_families_7 : decode cX4_families 7 = .ok (.ireturn, 1) := by decide +kernel
theorem dX4_isWithin_0 : decode cX4_isWithin 0 = .ok (.iload_n 0, 1) := by decide +kernel
theorem dX4_isWithin_1 : decode cX4_isWithin 1 = .ok (.iload_n 1, 1) := by decide +kernel
theorem dX4_isWithin_2 : decode cX4_isWithin 2 = .ok (.if_icmp .lt 12, 3) := by decide +kernel
theorem dX4_isWithin_5 : decode cX4_isWithin 5 = .ok (.iload_n 0, 1) := by decide +kernel
theorem dX4_isWithin_6 : decode cX4_isWithin 6 = .ok (.iload_n 2, 1) := by decide +kernel
theorem dX4_isWithin_7 : decode cX4_isWithin 7 = .ok (.if_icmp .gt 7, 3) := by decide +kernel
theorem dX4_isWithin_10 : decode cX4_isWithin 10 = .ok (.iconst 1, 1) := by decide +kernel
theorem dX4_isWithin_11 : decode cX4_isWithin 11 = .ok (.goto 4, 3) := by decide +kernel
theorem dX4_isWithin_14 : decode cX4_isWithin 14 = .ok (.iconst 0, 1) := by decide +kernel
theorem dX4_isWithin_15 : decode cX4_isWithin 15 = .ok (.ireturn, 1) := by decide +kernel
theorem dX4_refuseUnlessWithin_0 : decode cX4_refuseUnlessWithin 0 = .ok (.iload_n 0, 1) := by decide +kernel
theorem dX4_refuseUnlessWithin_1 : decode cX4_refuseUnlessWithin 1 = .ok (.iload_n 1, 1) := by decide +kernel
theorem dX4_refuseUnlessWithin_2 : decode cX4_refuseUnlessWithin 2 = .ok (.iload_n 2, 1) := by decide +kernel
theorem dX4_refuseUnlessWithin_3 : decode cX4_refuseUnlessWithin 3 = .ok (.invokestatic 54, 3) := by decide +kernel
theorem dX4_refuseUnlessWithin_6 : decode cX4_refuseUnlessWithin 6 = .ok (.ifCond .ne 13, 3) := by decide +kernel
theorem dX4_refuseUnlessWithin_9 : decode cX4_refuseUnlessWithin 9 = .ok (.new 184, 3) := by decide +kernel
theorem dX4_refuseUnlessWithin_12 : decode cX4_refuseUnlessWithin 12 = .ok (.dup, 1) := by decide +kernel
theorem dX4_refuseUnlessWithin_13 : decode cX4_refuseUnlessWithin 13 = .ok (.ldc 206, 2) := by decide +kernel
theorem dX4_refuseUnlessWithin_15 : decode cX4_refuseUnlessWithin 15 = .ok (.invokespecial 188, 3) := by decide +kernel
theorem dX4_refuseUnlessWithin_18 : decode cX4_refuseUnlessWithin 18 = .ok (.athrow, 1) := by decide +kernel
theorem dX4_refuseUnlessWithin_19 : decode cX4_refuseUnlessWithin 19 = .ok (.return_, 1) := by decide +kernel
theorem dX4_refuseUnlessNote_0 : decode cX4_refuseUnlessNote 0 = .ok (.iload_n 0, 1) := by decide +kernel
theorem dX4_refuseUnlessNote_1 : decode cX4_refuseUnlessNote 1 = .ok (.iconst 0, 1) := by decide +kernel
theorem dX4_refuseUnlessNote_2 : decode cX4_refuseUnlessNote 2 = .ok (.bipush 60, 2) := by decide +kernel
theorem dX4_refuseUnlessNote_4 : decode cX4_refuseUnlessNote 4 = .ok (.invokestatic 104, 3) := by decide +kernel
theorem dX4_refuseUnlessNote_7 : decode cX4_refuseUnlessNote 7 = .ok (.iload_n 1, 1) := by decide +kernel
theorem dX4_refuseUnlessNote_8 : decode cX4_refuseUnlessNote 8 = .ok (.iconst 1, 1) := by decide +kernel
theorem dX4_refuseUnlessNote_9 : decode cX4_refuseUnlessNote 9 = .ok (.bipush 8, 2) := by decide +kernel
theorem dX4_refuseUnlessNote_11 : decode cX4_refuseUnlessNote 11 = .ok (.invokestatic 104, 3) := by decide +kernel
theorem dX4_refuseUnlessNote_14 : decode cX4_refuseUnlessNote 14 = .ok (.return_, 1) := by decide +kernel
theorem dX4_refuseUnlessRunOfHum_0 : decode cX4_refuseUnlessRunOfHum 0 = .ok (.iload_n 1, 1) := by decide +kernel
theorem dX4_refuseUnlessRunOfHum_1 : decode cX4_refuseUnlessRunOfHum 1 = .ok (.iconst 1, 1) := by decide +kernel
theorem dX4_refuseUnlessRunOfHum_2 : decode cX4_refuseUnlessRunOfHum 2 = .ok (.iconst 4, 1) := by decide +kernel
theorem dX4_refuseUnlessRunOfHum_3 : decode cX4_refuseUnlessRunOfHum 3 = .ok (.invokestatic 104, 3) := by decide +kernel
theorem dX4_refuseUnlessRunOfHum_6 : decode cX4_refuseUnlessRunOfHum 6 = .ok (.iload_n 1, 1) := by decide +kernel
theorem dX4_refuseUnlessRunOfHum_7 : decode cX4_refuseUnlessRunOfHum 7 = .ok (.aload_n 0, 1) := by decide +kernel
theorem dX4_refuseUnlessRunOfHum_8 : decode cX4_refuseUnlessRunOfHum 8 = .ok (.getfield 20, 3) := by decide +kernel
theorem dX4_refuseUnlessRunOfHum_11 : decode cX4_refuseUnlessRunOfHum 11 = .ok (.invokevirtual 125, 3) := by decide +kernel
theorem dX4_refuseUnlessRunOfHum_14 : decode cX4_refuseUnlessRunOfHum 14 = .ok (.iconst 1, 1) := by decide +kernel
theorem dX4_refuseUnlessRunOfHum_15 : decode cX4_refuseUnlessRunOfHum 15 = .ok (.isub, 1) := by decide +kernel
theorem dX4_refuseUnlessRunOfHum_16 : decode cX4_refuseUnlessRunOfHum 16 = .ok (.if_icmp .le 13, 3) := by decide +kernel
theorem dX4_refuseUnlessRunOfHum_19 : decode cX4_refuseUnlessRunOfHum 19 = .ok (.new 58, 3) := by decide +kernel
theorem dX4_refuseUnlessRunOfHum_22 : decode cX4_refuseUnlessRunOfHum 22 = .ok (.dup, 1) := by decide +kernel
theorem dX4_refuseUnlessRunOfHum_23 : decode cX4_refuseUnlessRunOfHum 23 = .ok (.ldc 208, 2) := by decide +kernel
theorem dX4_refuseUnlessRunOfHum_25 : decode cX4_refuseUnlessRunOfHum 25 = .ok (.invokespecial 62, 3) := by decide +kernel
theorem dX4_refuseUnlessRunOfHum_28 : decode cX4_refuseUnlessRunOfHum 28 = .ok (.athrow, 1) := by decide +kernel
theorem dX4_refuseUnlessRunOfHum_29 : decode cX4_refuseUnlessRunOfHum 29 = .ok (.return_, 1) := by decide +kernel
theorem dX4_refuseUnlessEntered_0 : decode cX4_refuseUnlessEntered 0 = .ok (.aload_n 0, 1) := by decide +kernel
theorem dX4_refuseUnlessEntered_1 : decode cX4_refuseUnlessEntered 1 = .ok (.iload_n 1, 1) := by decide +kernel
theorem dX4_refuseUnlessEntered_2 : decode cX4_refuseUnlessEntered 2 = .ok (.invokevirtual 117, 3) := by decide +kernel
theorem dX4_refuseUnlessEntered_5 : decode cX4_refuseUnlessEntered 5 = .ok (.pop, 1) := by decide +kernel
theorem dX4_refuseUnlessEntered_6 : decode cX4_refuseUnlessEntered 6 = .ok (.aload_n 0, 1) := by decide +kernel
theorem dX4_refuseUnlessEntered_7 : decode cX4_refuseUnlessEntered 7 = .ok (.iload_n 2, 1) := by decide +kernel
theorem dX4_refuseUnlessEntered_8 : decode cX4_refuseUnlessEntered 8 = .ok (.invokevirtual 117, 3) := by decide +kernel
theorem dX4_refuseUnlessEntered_11 : decode cX4_refuseUnlessEntered 11 = .ok (.pop, 1) := by decide +kernel
theorem dX4_refuseUnlessEntered_12 : decode cX4_refuseUnlessEntered 12 = .ok (.return_, 1) := by decide +kernel
theorem dX4_enteredOrNull_0 : decode cX4_enteredOrNull 0 = .ok (.iload_n 1, 1) := by decide +kernel
theorem dX4_enteredOrNull_1 : decode cX4_enteredOrNull 1 = .ok (.ifCond .lt 29, 3) := by decide +kernel
theorem dX4_enteredOrNull_4 : decode cX4_enteredOrNull 4 = .ok (.iload_n 1, 1) := by decide +kernel
theorem dX4_enteredOrNull_5 : decode cX4_enteredOrNull 5 = .ok (.aload_n 0, 1) := by decide +kernel
theorem dX4_enteredOrNull_6 : decode cX4_enteredOrNull 6 = .ok (.getfield 50, 3) := by decide +kernel
theorem dX4_enteredOrNull_9 : decode cX4_enteredOrNull 9 = .ok (.if_icmp .ge 21, 3) := by decide +kernel
theorem dX4_enteredOrNull_12 : decode cX4_enteredOrNull 12 = .ok (.iload_n 1, 1) := by decide +kernel
theorem dX4_enteredOrNull_13 : decode cX4_enteredOrNull 13 = .ok (.aload_n 0, 1) := by decide +kernel
theorem dX4_enteredOrNull_14 : decode cX4_enteredOrNull 14 = .ok (.getfield 11, 3) := by decide +kernel
theorem dX4_enteredOrNull_17 : decode cX4_enteredOrNull 17 = .ok (.arraylength, 1) := by decide +kernel
theorem dX4_enteredOrNull_18 : decode cX4_enteredOrNull 18 = .ok (.if_icmp .ge 12, 3) := by decide +kernel
theorem dX4_enteredOrNull_21 : decode cX4_enteredOrNull 21 = .ok (.aload_n 0, 1) := by decide +kernel
theorem dX4_enteredOrNull_22 : decode cX4_enteredOrNull 22 = .ok (.getfield 11, 3) := by decide +kernel
theorem dX4_enteredOrNull_25 : decode cX4_enteredOrNull 25 = .ok (.iload_n 1, 1) := by decide +kernel
theorem dX4_enteredOrNull_26 : decode cX4_enteredOrNull 26 = .ok (.aaload, 1) := by decide +kernel
theorem dX4_enteredOrNull_27 : decode cX4_enteredOrNull 27 = .ok (.goto 4, 3) := by decide +kernel
theorem dX4_enteredOrNull_30 : decode cX4_enteredOrNull 30 = .ok (.aconst_null, 1) := by decide +kernel
theorem dX4_enteredOrNull_31 : decode cX4_enteredOrNull 31 = .ok (.areturn, 1) := by decide +kernel
theorem dX4_knownOrNull_0 : decode cX4_knownOrNull 0 = .ok (.aload_n 0, 1) := by decide +kernel
theorem dX4_knownOrNull_1 : decode cX4_knownOrNull 1 = .ok (.iload_n 1, 1) := by decide +kernel
theorem dX4_knownOrNull_2 : decode cX4_knownOrNull 2 = .ok (.invokevirtual 210, 3) := by decide +kernel
theorem dX4_knownOrNull_5 : decode cX4_knownOrNull 5 = .ok (.astore_n 2, 1) := by decide +kernel
theorem dX4_knownOrNull_6 : decode cX4_knownOrNull 6 = .ok (.aload_n 2, 1) := by decide +kernel
theorem dX4_knownOrNull_7 : decode cX4_knownOrNull 7 = .ok (.ifnull 10, 3) := by decide +kernel
theorem dX4_knownOrNull_10 : decode cX4_knownOrNull 10 = .ok (.aload_n 2, 1) := by decide +kernel
theorem dX4_knownOrNull_11 : decode cX4_knownOrNull 11 = .ok (.getfield 110, 3) := by decide +kernel
theorem dX4_knownOrNull_14 : decode cX4_knownOrNull 14 = .ok (.ifCond .eq 7, 3) := by decide +kernel
theorem dX4_knownOrNull_17 : decode cX4_knownOrNull 17 = .ok (.aconst_null, 1) := by decide +kernel
theorem dX4_knownOrNull_18 : decode cX4_knownOrNull 18 = .ok (.goto 4, 3) := by decide +kernel
theorem dX4_knownOrNull_21 : decode cX4_knownOrNull 21 = .ok (.aload_n 2, 1) := by decide +kernel
theorem dX4_knownOrNull_22 : decode cX4_knownOrNull 22 = .ok (.areturn, 1) := by decide +kernel
theorem dX4_enteredOrThrow_0 : decode cX4_enteredOrThrow 0 = .ok (.aload_n 0, 1) := by decide +kernel
theorem dX4_enteredOrThrow_1 : decode cX4_enteredOrThrow 1 = .ok (.iload_n 1, 1) := by decide +kernel
theorem dX4_enteredOrThrow_2 : decode cX4_enteredOrThrow 2 = .ok (.invokevirtual 210, 3) := by decide +kernel
theorem dX4_enteredOrThrow_5 : decode cX4_enteredOrThrow 5 = .ok (.astore_n 2, 1) := by decide +kernel
theorem dX4_enteredOrThrow_6 : decode cX4_enteredOrThrow 6 = .ok (.aload_n 2, 1) := by decide +kernel
theorem dX4_enteredOrThrow_7 : decode cX4_enteredOrThrow 7 = .ok (.ifnonnull 13, 3) := by decide +kernel
theorem dX4_enteredOrThrow_10 : decode cX4_enteredOrThrow 10 = .ok (.new 89, 3) := by decide +kernel
theorem dX4_enteredOrThrow_13 : decode cX4_enteredOrThrow 13 = .ok (.dup, 1) := by decide +kernel
theorem dX4_enteredOrThrow_14 : decode cX4_enteredOrThrow 14 = .ok (.ldc 213, 2) := by decide +kernel
theorem dX4_enteredOrThrow_16 : decode cX4_enteredOrThrow 16 = .ok (.invokespecial 93, 3) := by decide +kernel
theorem dX4_enteredOrThrow_19 : decode cX4_enteredOrThrow 19 = .ok (.athrow, 1) := by decide +kernel
theorem dX4_enteredOrThrow_20 : decode cX4_enteredOrThrow 20 = .ok (.aload_n 2, 1) := by decide +kernel
theorem dX4_enteredOrThrow_21 : decode cX4_enteredOrThrow 21 = .ok (.areturn, 1) := by decide +kernel
theorem dX4_knownOrThrow_0 : decode cX4_knownOrThrow 0 = .ok (.aload_n 0, 1) := by decide +kernel
theorem dX4_knownOrThrow_1 : decode cX4_knownOrThrow 1 = .ok (.iload_n 1, 1) := by decide +kernel
theorem dX4_knownOrThrow_2 : decode cX4_knownOrThrow 2 = .ok (.invokevirtual 114, 3) := by decide +kernel
theorem dX4_knownOrThrow_5 : decode cX4_knownOrThrow 5 = .ok (.astore_n 2, 1) := by decide +kernel
theorem dX4_knownOrThrow_6 : decode cX4_knownOrThrow 6 = .ok (.aload_n 2, 1) := by decide +kernel
theorem dX4_knownOrThrow_7 : decode cX4_knownOrThrow 7 = .ok (.ifnonnull 13, 3) := by decide +kernel
theorem dX4_knownOrThrow_10 : decode cX4_knownOrThrow 10 = .ok (.new 89, 3) := by decide +kernel
theorem dX4_knownOrThrow_13 : decode cX4_knownOrThrow 13 = .ok (.dup, 1) := by decide +kernel
theorem dX4_knownOrThrow_14 : decode cX4_knownOrThrow 14 = .ok (.ldc 215, 2) := by decide +kernel
theorem dX4_knownOrThrow_16 : decode cX4_knownOrThrow 16 = .ok (.invokespecial 93, 3) := by decide +kernel
theorem dX4_knownOrThrow_19 : decode cX4_knownOrThrow 19 = .ok (.athrow, 1) := by decide +kernel
theorem dX4_knownOrThrow_20 : decode cX4_knownOrThrow 20 = .ok (.aload_n 2, 1) := by decide +kernel
theorem dX4_knownOrThrow_21 : decode cX4_knownOrThrow 21 = .ok (.areturn, 1) := by decide +kernel
theorem dX4_priceTunes_0 : decode cX4_priceTunes 0 = .ok (.aload_n 0, 1) := by decide +kernel
theorem dX4_priceTunes_1 : decode cX4_priceTunes 1 = .ok (.getfield 40, 3) := by decide +kernel
theorem dX4_priceTunes_4 : decode cX4_priceTunes 4 = .ok (.invokevirtual 140, 3) := by decide +kernel
theorem dX4_priceTunes_7 : decode cX4_priceTunes 7 = .ok (.iconst 0, 1) := by decide +kernel
theorem dX4_priceTunes_8 : decode cX4_priceTunes 8 = .ok (.istore_n 1, 1) := by decide +kernel
theorem dX4_priceTunes_9 : decode cX4_priceTunes 9 = .ok (.iload_n 1, 1) := by decide +kernel
theorem dX4_priceTunes_10 : decode cX4_priceTunes 10 = .ok (.aload_n 0, 1) := by decide +kernel
theorem dX4_priceTunes_11 : decode cX4_priceTunes 11 = .ok (.getfield 50, 3) := by decide +kernel
theorem dX4_priceTunes_14 : decode cX4_priceTunes 14 = .ok (.if_icmp .ge 38, 3) := by decide +kernel
theorem dX4_priceTunes_17 : decode cX4_priceTunes 17 = .ok (.aload_n 0, 1) := by decide +kernel
theorem dX4_priceTunes_18 : decode cX4_priceTunes 18 = .ok (.iload_n 1, 1) := by decide +kernel
theorem dX4_priceTunes_19 : decode cX4_priceTunes 19 = .ok (.invokevirtual 114, 3) := by decide +kernel
theorem dX4_priceTunes_22 : decode cX4_priceTunes 22 = .ok (.astore_n 2, 1) := by decide +kernel
theorem dX4_priceTunes_23 : decode cX4_priceTunes 23 = .ok (.aload_n 0, 1) := by decide +kernel
theorem dX4_priceTunes_24 : decode cX4_priceTunes 24 = .ok (.getfield 40, 3) := by decide +kernel
theorem dX4_priceTunes_27 : decode cX4_priceTunes 27 = .ok (.aload_n 2, 1) := by decide +kernel
theorem dX4_priceTunes_28 : decode cX4_priceTunes 28 = .ok (.ifnonnull 7, 3) := by decide +kernel
theorem dX4_priceTunes_31 : decode cX4_priceTunes 31 = .ok (.iconst (-1), 1) := by decide +kernel
theorem dX4_priceTunes_32 : decode cX4_priceTunes 32 = .ok (.goto 11, 3) := by decide +kernel
theorem dX4_priceTunes_35 : decode cX4_priceTunes 35 = .ok (.aload_n 0, 1) := by decide +kernel
theorem dX4_priceTunes_36 : decode cX4_priceTunes 36 = .ok (.getfield 29, 3) := by decide +kernel
theorem dX4_priceTunes_39 : decode cX4_priceTunes 39 = .ok (.aload_n 2, 1) := by decide +kernel
theorem dX4_priceTunes_40 : decode cX4_priceTunes 40 = .ok (.invokevirtual 152, 3) := by decide +kernel
theorem dX4_priceTunes_43 : decode cX4_priceTunes 43 = .ok (.invokevirtual 138, 3) := by decide +kernel
theorem dX4_priceTunes_46 : decode cX4_priceTunes 46 = .ok (.iinc 1 1, 3) := by decide +kernel
theorem dX4_priceTunes_49 : decode cX4_priceTunes 49 = .ok (.goto (-40), 3) := by decide +kernel
theorem dX4_priceTunes_52 : decode cX4_priceTunes 52 = .ok (.return_, 1) := by decide +kernel
theorem dX4_rankByPrice_0 : decode cX4_rankByPrice 0 = .ok (.aload_n 0, 1) := by decide +kernel
theorem dX4_rankByPrice_1 : decode cX4_rankByPrice 1 = .ok (.getfield 40, 3) := by decide +kernel
theorem dX4_rankByPrice_4 : decode cX4_rankByPrice 4 = .ok (.iload_n 1, 1) := by decide +kernel
theorem dX4_rankByPrice_5 : decode cX4_rankByPrice 5 = .ok (.invokevirtual 94, 3) := by decide +kernel
theorem dX4_rankByPrice_8 : decode cX4_rankByPrice 8 = .ok (.istore_n 2, 1) := by decide +kernel
theorem dX4_rankByPrice_9 : decode cX4_rankByPrice 9 = .ok (.iconst 0, 1) := by decide +kernel
theorem dX4_rankByPrice_10 : decode cX4_rankByPrice 10 = .ok (.istore_n 3, 1) := by decide +kernel
theorem dX4_rankByPrice_11 : decode cX4_rankByPrice 11 = .ok (.iconst 0, 1) := by decide +kernel
theorem dX4_rankByPrice_12 : decode cX4_rankByPrice 12 = .ok (.istore 4, 2) := by decide +kernel
theorem dX4_rankByPrice_14 : decode cX4_rankByPrice 14 = .ok (.iload 4, 2) := by decide +kernel
theorem dX4_rankByPrice_16 : decode cX4_rankByPrice 16 = .ok (.aload_n 0, 1) := by decide +kernel
theorem dX4_rankByPrice_17 : decode cX4_rankByPrice 17 = .ok (.getfield 40, 3) := by decide +kernel
theorem dX4_rankByPrice_20 : decode cX4_rankByPrice 20 = .ok (.invokevirtual 125, 3) := by decide +kernel
theorem dX4_rankByPrice_23 : decode cX4_rankByPrice 23 = .ok (.if_icmp .ge 59, 3) := by decide +kernel
theorem dX4_rankByPrice_26 : decode cX4_rankByPrice 26 = .ok (.aload_n 0, 1) := by decide +kernel
theorem dX4_rankByPrice_27 : decode cX4_rankByPrice 27 = .ok (.getfield 40, 3) := by decide +kernel
theorem dX4_rankByPrice_30 : decode cX4_rankByPrice 30 = .ok (.iload 4, 2) := by decide +kernel
theorem dX4_rankByPrice_32 : decode cX4_rankByPrice 32 = .ok (.invokevirtual 94, 3) := by decide +kernel
theorem dX4_rankByPrice_35 : decode cX4_rankByPrice 35 = .ok (.istore 5, 2) := by decide +kernel
theorem dX4_rankByPrice_37 : decode cX4_rankByPrice 37 = .ok (.iload 5, 2) := by decide +kernel
theorem dX4_rankByPrice_39 : decode cX4_rankByPrice 39 = .ok (.iload_n 2, 1) := by decide +kernel
theorem dX4_rankByPrice_40 : decode cX4_rankByPrice 40 = .ok (.if_icmp .lt 15, 3) := by decide +kernel
theorem dX4_rankByPrice_43 : decode cX4_rankByPrice 43 = .ok (.iload 5, 2) := by decide +kernel
theorem dX4_rankByPrice_45 : decode cX4_rankByPrice 45 = .ok (.iload_n 2, 1) := by decide +kernel
theorem dX4_rankByPrice_46 : decode cX4_rankByPrice 46 = .ok (.if_icmp .ne 13, 3) := by decide +kernel
theorem dX4_rankByPrice_49 : decode cX4_rankByPrice 49 = .ok (.iload 4, 2) := by decide +kernel
theorem dX4_rankByPrice_51 : decode cX4_rankByPrice 51 = .ok (.iload_n 1, 1) := by decide +kernel
theorem dX4_rankByPrice_52 : decode cX4_rankByPrice 52 = .ok (.if_icmp .ge 7, 3) := by decide +kernel
theorem dX4_rankByPrice_55 : decode cX4_rankByPrice 55 = .ok (.iconst 1, 1) := by decide +kernel
theorem dX4_rankByPrice_56 : decode cX4_rankByPrice 56 = .ok (.goto 4, 3) := by decide +kernel
theorem dX4_rankByPrice_59 : decode cX4_rankByPrice 59 = .ok (.iconst 0, 1) := by decide +kernel
theorem dX4_rankByPrice_60 : decode cX4_rankByPrice 60 = .ok (.istore 6, 2) := by decide +kernel
theorem dX4_rankByPrice_62 : decode cX4_rankByPrice 62 = .ok (.iload 5, 2) := by decide +kernel
theorem dX4_rankByPrice_64 : decode cX4_rankByPrice 64 = .ok (.iconst (-1), 1) := by decide +kernel
theorem dX4_rankByPrice_65 : decode cX4_rankByPrice 65 = .ok (.if_icmp .eq 11, 3) := by decide +kernel
theorem dX4_rankByPrice_68 : decode cX4_rankByPrice 68 = .ok (.iload 6, 2) := by decide +kernel
theorem dX4_rankByPrice_70 : decode cX4_rankByPrice 70 = .ok (.ifCond .eq 6, 3) := by decide +kernel
theorem dX4_rankByPrice_73 : decode cX4_rankByPrice 73 = .ok (.iinc 3 1, 3) := by decide +kernel
theorem dX4_rankByPrice_76 : decode cX4_rankByPrice 76 = .ok (.iinc 4 1, 3) := by decide +kernel
theorem dX4_rankByPrice_79 : decode cX4_rankByPrice 79 = .ok (.goto (-65), 3) := by decide +kernel
theorem dX4_rankByPrice_82 : decode cX4_rankByPrice 82 = .ok (.iload_n 3, 1) := by decide +kernel
theorem dX4_rankByPrice_83 : decode cX4_rankByPrice 83 = .ok (.ireturn, 1) := by decide +kernel
theorem dX4_collectPlaces_0 : decode cX4_collectPlaces 0 = .ok (.aload_n 0, 1) := by decide +kernel
theorem dX4_collectPlaces_1 : decode cX4_collectPlaces 1 = .ok (.getfield 43, 3) := by decide +kernel
theorem dX4_collectPlaces_4 : decode cX4_collectPlaces 4 = .ok (.invokevirtual 140, 3) := by decide +kernel
theorem dX4_collectPlaces_7 : decode cX4_collectPlaces 7 = .ok (.iconst 0, 1) := by decide +kernel
theorem dX4_collectPlaces_8 : decode cX4_collectPlaces 8 = .ok (.istore_n 2, 1) := by decide +kernel
theorem dX4_collectPlaces_9 : decode cX4_collectPlaces 9 = .ok (.iload_n 2, 1) := by decide +kernel
theorem dX4_collectPlaces_10 : decode cX4_collectPlaces 10 = .ok (.aload_n 0, 1) := by decide +kernel
theorem dX4_collectPlaces_11 : decode cX4_collectPlaces 11 = .ok (.getfield 50, 3) := by decide +kernel
theorem dX4_collectPlaces_14 : decode cX4_collectPlaces 14 = .ok (.if_icmp .ge 29, 3) := by decide +kernel
theorem dX4_collectPlaces_17 : decode cX4_collectPlaces 17 = .ok (.aload_n 0, 1) := by decide +kernel
theorem dX4_collectPlaces_18 : decode cX4_collectPlaces 18 = .ok (.iload_n 2, 1) := by decide +kernel
theorem dX4_collectPlaces_19 : decode cX4_collectPlaces 19 = .ok (.invokevirtual 114, 3) := by decide +kernel
theorem dX4_collectPlaces_22 : decode cX4_collectPlaces 22 = .ok (.astore_n 3, 1) := by decide +kernel
theorem dX4_collectPlaces_23 : decode cX4_collectPlaces 23 = .ok (.aload_n 3, 1) := by decide +kernel
theorem dX4_collectPlaces_24 : decode cX4_collectPlaces 24 = .ok (.ifnull 13, 3) := by decide +kernel
theorem dX4_collectPlaces_27 : decode cX4_collectPlaces 27 = .ok (.aload_n 0, 1) := by decide +kernel
theorem dX4_collectPlaces_28 : decode cX4_collectPlaces 28 = .ok (.iload_n 2, 1) := by decide +kernel
theorem dX4_collectPlaces_29 : decode cX4_collectPlaces 29 = .ok (.aload_n 3, 1) := by decide +kernel
theorem dX4_collectPlaces_30 : decode cX4_collectPlaces 30 = .ok (.getfield 76, 3) := by decide +kernel
theorem dX4_collectPlaces_33 : decode cX4_collectPlaces 33 = .ok (.iload_n 1, 1) := by decide +kernel
theorem dX4_collectPlaces_34 : decode cX4_collectPlaces 34 = .ok (.invokevirtual 217, 3) := by decide +kernel
theorem dX4_collectPlaces_37 : decode cX4_collectPlaces 37 = .ok (.iinc 2 1, 3) := by decide +kernel
theorem dX4_collectPlaces_40 : decode cX4_collectPlaces 40 = .ok (.goto (-31), 3) := by decide +kernel
theorem dX4_collectPlaces_43 : decode cX4_collectPlaces 43 = .ok (.return_, 1) := by decide +kernel
theorem dX4_collectPlacesOf_0 : decode cX4_collectPlacesOf 0 = .ok (.aload_n 0, 1) := by decide +kernel
theorem dX4_collectPlacesOf_1 : decode cX4_collectPlacesOf 1 = .ok (.getfield 20, 3) := by decide +kernel
theorem dX4_collectPlacesOf_4 : decode cX4_collectPlacesOf 4 = .ok (.invokevirtual 125, 3) := by decide +kernel
theorem dX4_collectPlacesOf_7 : decode cX4_collectPlacesOf 7 = .ok (.iconst 1, 1) := by decide +kernel
theorem dX4_collectPlacesOf_8 : decode cX4_collectPlacesOf 8 = .ok (.isub, 1) := by decide +kernel
theorem dX4_collectPlacesOf_9 : decode cX4_collectPlacesOf 9 = .ok (.iload_n 3, 1) := by decide +kernel
theorem dX4_collectPlacesOf_10 : decode cX4_collectPlacesOf 10 = .ok (.isub, 1) := by decide +kernel
theorem dX4_collectPlacesOf_11 : decode cX4_collectPlacesOf 11 = .ok (.istore 4, 2) := by decide +kernel
theorem dX4_collectPlacesOf_13 : decode cX4_collectPlacesOf 13 = .ok (.iconst 0, 1) := by decide +kernel
theorem dX4_collectPlacesOf_14 : decode cX4_collectPlacesOf 14 = .ok (.istore 5, 2) := by decide +kernel
theorem dX4_collectPlacesOf_16 : decode cX4_collectPlacesOf 16 = .ok (.iload 5, 2) := by decide +kernel
theorem dX4_collectPlacesOf_18 : decode cX4_collectPlacesOf 18 = .ok (.aload_n 2, 1) := by decide +kernel
theorem dX4_collectPlacesOf_19 : decode cX4_collectPlacesOf 19 = .ok (.invokevirtual 125, 3) := by decide +kernel
theorem dX4_collectPlacesOf_22 : decode cX4_collectPlacesOf 22 = .ok (.if_icmp .ge 39, 3) := by decide +kernel
theorem dX4_collectPlacesOf_25 : decode cX4_collectPlacesOf 25 = .ok (.aload_n 2, 1) := by decide +kernel
theorem dX4_collectPlacesOf_26 : decode cX4_collectPlacesOf 26 = .ok (.iload 5, 2) := by decide +kernel
theorem dX4_collectPlacesOf_28 : decode cX4_collectPlacesOf 28 = .ok (.aload_n 0, 1) := by decide +kernel
theorem dX4_collectPlacesOf_29 : decode cX4_collectPlacesOf 29 = .ok (.getfield 20, 3) := by decide +kernel
theorem dX4_collectPlacesOf_32 : decode cX4_collectPlacesOf 32 = .ok (.iload 4, 2) := by decide +kernel
theorem dX4_collectPlacesOf_34 : decode cX4_collectPlacesOf 34 = .ok (.invokevirtual 126, 3) := by decide +kernel
theorem dX4_collectPlacesOf_37 : decode cX4_collectPlacesOf 37 = .ok (.iload_n 3, 1) := by decide +kernel
theorem dX4_collectPlacesOf_38 : decode cX4_collectPlacesOf 38 = .ok (.if_icmp .ne 17, 3) := by decide +kernel
theorem dX4_collectPlacesOf_41 : decode cX4_collectPlacesOf 41 = .ok (.aload_n 0, 1) := by decide +kernel
theorem dX4_collectPlacesOf_42 : decode cX4_collectPlacesOf 42 = .ok (.getfield 43, 3) := by decide +kernel
theorem dX4_collectPlacesOf_45 : decode cX4_collectPlacesOf 45 = .ok (.bipush 100, 2) := by decide +kernel
theorem dX4_collectPlacesOf_47 : decode cX4_collectPlacesOf 47 = .ok (.iload_n 1, 1) := by decide +kernel
theorem dX4_collectPlacesOf_48 : decode cX4_collectPlacesOf 48 = .ok (.imul, 1) := by decide +kernel
theorem dX4_collectPlacesOf_49 : decode cX4_collectPlacesOf 49 = .ok (.iload 5, 2) := by decide +kernel
theorem dX4_collectPlacesOf_51 : decode cX4_collectPlacesOf 51 = .ok (.iadd, 1) := by decide +kernel
theorem dX4_collectPlacesOf_52 : decode cX4_collectPlacesOf 52 = .ok (.invokevirtual 138, 3) := by decide +kernel
theorem dX4_collectPlacesOf_55 : decode cX4_collectPlacesOf 55 = .ok (.iinc 5 1, 3) := by decide +kernel
theorem dX4_collectPlacesOf_58 : decode cX4_collectPlacesOf 58 = .ok (.goto (-42), 3) := by decide +kernel
theorem dX4_collectPlacesOf_61 : decode cX4_collectPlacesOf 61 = .ok (.return_, 1) := by decide +kernel
theorem dX5_init_0 : decode cX5_init 0 = .ok (.aload_n 0, 1) := by decide +kernel
theorem dX5_init_1 : decode cX5_init 1 = .ok (.invokespecial 1, 3) := by decide +kernel
theorem dX5_init_4 : decode cX5_init 4 = .ok (.aload_n 0, 1) := by decide +kernel
theorem dX5_init_5 : decode cX5_init 5 = .ok (.sipush 384, 3) := by decide +kernel
theorem dX5_init_8 : decode cX5_init 8 = .ok (.newarray .int, 2) := by decide +kernel
theorem dX5_init_10 : decode cX5_init 10 = .ok (.putfield 7, 3) := by decide +kernel
theorem dX5_init_13 : decode cX5_init 13 = .ok (.aload_n 0, 1) := by decide +kernel
theorem dX5_init_14 : decode cX5_init 14 = .ok (.sipush 384, 3) := by decide +kernel
theorem dX5_init_17 : decode cX5_init 17 = .ok (.newarray .int, 2) := by decide +kernel
theorem dX5_init_19 : decode cX5_init 19 = .ok (.putfield 13, 3) := by decide +kernel
theorem dX5_init_22 : decode cX5_init 22 = .ok (.aload_n 0, 1) := by decide +kernel
theorem dX5_init_23 : decode cX5_init 23 = .ok (.bipush 16, 2) := by decide +kernel
theorem dX5_init_25 : decode cX5_init 25 = .ok (.newarray .int, 2) := by decide +kernel
theorem dX5_init_27 : decode cX5_init 27 = .ok (.putfield 16, 3) := by decide +kernel
theorem dX5_init_30 : decode cX5_init 30 = .ok (.aload_n 0, 1) := by decide +kernel
theorem dX5_init_31 : decode cX5_init 31 = .ok (.bipush 16, 2) := by decide +kernel
theorem dX5_init_33 : decode cX5_init 33 = .ok (.newarray .boolean, 2) := by decide +kernel
theorem dX5_init_35 : decode cX5_init 35 = .ok (.putfield 19, 3) := by decide +kernel
theorem dX5_init_38 : decode cX5_init 38 = .ok (.aload_n 0, 1) := by decide +kernel
theorem dX5_init_39 : decode cX5_init 39 = .ok (.bipush 12, 2) := by decide +kernel
theorem dX5_init_41 : decode cX5_init 41 = .ok (.newarray .int, 2) := by decide +kernel
theorem dX5_init_43 : decode cX5_init 43 = .ok (.putfield 23, 3) := by decide +kernel
theorem dX5_init_46 : decode cX5_init 46 = .ok (.aload_n 0, 1) := by decide +kernel
theorem dX5_init_47 : decode cX5_init 47 = .ok (.iconst 2, 1) := by decide +kernel
theorem dX5_init_48 : decode cX5_init 48 = .ok (.putfield 26, 3) := by decide +kernel
theorem dX5_init_51 : decode cX5_init 51 = .ok (.aload_n 0, 1) := by decide +kernel
theorem dX5_init_52 : decode cX5_init 52 = .ok (.iconst 3, 1) := by decide +kernel
theorem dX5_init_53 : decode cX5_init 53 = .ok (.putfield 30, 3) := by decide +kernel
theorem dX5_init_56 : decode cX5_init 56 = .ok (.aload_n 0, 1) := by decide +kernel
theorem dX5_init_57 : decode cX5_init 57 = .ok (.iconst 1, 1) := by decide +kernel
theorem dX5_init_58 : decode cX5_init 58 = .ok (.putfield 33, 3) := by decide +kernel
theorem dX5_init_61 : decode cX5_init 61 = .ok (.aload_n 0, 1) := by decide +kernel
theorem dX5_init_62 : decode cX5_init 62 = .ok (.sipush 288, 3) := by decide +kernel
theorem dX5_init_65 : decode cX5_init 65 = .ok (.newarray .int, 2) := by decide +kernel
theorem dX5_init_67 : decode cX5_init 67 = .ok (.putfield 36, 3) := by decide +kernel
theorem dX5_init_70 : decode cX5_init 70 = .ok (.aload_n 0, 1) := by decide +kernel
theorem dX5_init_71 : decode cX5_init 71 = .ok (.bipush 16, 2) := by decide +kernel
theorem dX5_init_73 : decode cX5_init 73 = .ok (.newarray .int, 2) := by decide +kernel
theorem dX5_init_75 : decode cX5_init 75 = .ok (.putfield 39, 3) := by decide +kernel
theorem dX5_init_78 : decode cX5_init 78 = .ok (.return_, 1) := by decide +kernel
theorem dX5_thrown_0 : decode cX5_thrown 0 = .ok (.aload_n 0, 1) := by decide +kernel
theorem dX5_thrown_1 : decode cX5_thrown 1 = .ok (.getfield 42, 3) := by decide +kernel
theorem dX5_thrown_4 : decode cX5_thrown 4 = .ok (.ireturn, 1) := by decide +kernel
theorem dX5_holds_0 : decode cX5_holds 0 = .ok (.aload_n 0, 1) := by decide +kernel
theorem dX5_holds_1 : decode cX5_holds 1 = .ok (.iload_n 1, 1) := by decide +kernel
theorem dX5_holds_2 : decode cX5_holds 2 = .ok (.putfield 42, 3) := by decide +kernel
theorem dX5_holds_5 : decode cX5_holds 5 = .ok (.iload_n 1, 1) := by decide +kernel
theorem dX5_holds_6 : decode cX5_holds 6 = .ok (.ifCond .ne 7, 3) := by decide +kernel
theorem dX5_holds_9 : decode cX5_holds 9 = .ok (.iconst 1, 1) := by decide +kernel
theorem dX5_holds_10 : decode cX5_holds 10 = .ok (.goto 4, 3) := by decide +kernel
theorem dX5_holds_13 : decode cX5_holds 13 = .ok (.iconst 0, 1) := by decide +kernel
theorem dX5_holds_14 : decode cX5_holds 14 = .ok (.ireturn, 1) := by decide +kernel
theorem dX5_in_0 : decode cX5_in 0 = .ok (.iload_n 0, 1) := by decide +kernel
theorem dX5_in_1 : decode cX5_in 1 = .ok (.iload_n 1, 1) := by decide +kernel
theorem dX5_in_2 : decode cX5_in 2 = .ok (.if_icmp .lt 12, 3) := by decide +kernel
theorem dX5_in_5 : decode cX5_in 5 = .ok (.iload_n 0, 1) := by decide +kernel
theorem dX5_in_6 : decode cX5_in 6 = .ok (.iload_n 2, 1) := by decide +kernel
theorem dX5_in_7 : decode cX5_in 7 = .ok (.if_icmp .gt 7, 3) := by decide +kernel
theorem dX5_in_10 : decode cX5_in 10 = .ok (.iconst 1, 1) := by decide +kernel
theorem dX5_in_11 : decode cX5_in 11 = .ok (.goto 4, 3) := by decide +kernel
theorem dX5_in_14 : decode cX5_in 14 = .ok (.iconst 0, 1) := by decide +kernel
theorem dX5_in_15 : decode cX5_in 15 = .ok (.ireturn, 1) := by decide +kernel
theorem dX5_isTune_0 : decode cX5_isTune 0 = .ok (.iload_n 1, 1) := by decide +kernel
theorem dX5_isTune_1 : decode cX5_isTune 1 = .ok (.iconst 0, 1) := by decide +kernel
theorem dX5_isTune_2 : decode cX5_isTune 2 = .ok (.aload_n 0, 1) := by decide +kernel
theorem dX5_isTune_3 : decode cX5_isTune 3 = .ok (.getfield 45, 3) := by decide +kernel
theorem dX5_isTune_6 : decode cX5_isTune 6 = .ok (.iconst 1, 1) := by decide +kernel
theorem dX5_isTune_7 : decode cX5_isTune 7 = .ok (.isub, 1) := by decide +kernel
theorem dX5_isTune_8 : decode cX5_isTune 8 = .ok (.invokestatic 48, 3) := by decide +kernel
theorem dX5_isTune_11 : decode cX5_isTune 11 = .ok (.ireturn, 1) := by decide +kernel
theorem dX5_isKnown_0 : decode cX5_isKnown 0 = .ok (.aload_n 0, 1) := by decide +kernel
theorem dX5_isKnown_1 : decode cX5_isKnown 1 = .ok (.iload_n 1, 1) := by decide +kernel
theorem dX5_isKnown_2 : decode cX5_isKnown 2 = .ok (.invokevirtual 52, 3) := by decide +kernel
theorem dX5_isKnown_5 : decode cX5_isKnown 5 = .ok (.ifCond .eq 16, 3) := by decide +kernel
theorem dX5_isKnown_8 : decode cX5_isKnown 8 = .ok (.aload_n 0, 1) := by decide +kernel
theorem dX5_isKnown_9 : decode cX5_isKnown 9 = .ok (.getfield 19, 3) := by decide +kernel
theorem dX5_isKnown_12 : decode cX5_isKnown 12 = .ok (.iload_n 1, 1) := by decide +kernel
theorem dX5_isKnown_13 : decode cX5_isKnown 13 = .ok (.baload, 1) := by decide +kernel
theorem dX5_isKnown_14 : decode cX5_isKnown 14 = .ok (.ifCond .ne 7, 3) := by decide +kernel
theorem dX5_isKnown_17 : decode cX5_isKnown 17 = .ok (.iconst 1, 1) := by decide +kernel
theorem dX5_isKnown_18 : decode cX5_isKnown 18 = .ok (.goto 4, 3) := by decide +kernel
theorem dX5_isKnown_21 : decode cX5_isKnown 21 = .ok (.iconst 0, 1) := by decide +kernel
theorem dX5_isKnown_22 : decode cX5_isKnown 22 = .ok (.ireturn, 1) := by decide +kernel
theorem dX5_isNote_0 : decode cX5_isNote 0 = .ok (.iload_n 0, 1) := by decide +kernel
theorem dX5_isNote_1 : decode cX5_isNote 1 = .ok (.iconst 0, 1) := by decide +kernel
theorem dX5_isNote_2 : decode cX5_isNote 2 = .ok (.bipush 60, 2) := by decide +kernel
theorem dX5_isNote_4 : decode cX5_isNote 4 = .ok (.invokestatic 48, 3) := by decide +kernel
theorem dX5_isNote_7 : decode cX5_isNote 7 = .ok (.ifCond .eq 17, 3) := by decide +kernel
theorem dX5_isNote_10 : decode cX5_isNote 10 = .ok (.iload_n 1, 1) := by decide +kernel
theorem dX5_isNote_11 : decode cX5_isNote 11 = .ok (.iconst 1, 1) := by decide +kernel
theorem dX5_isNote_12 : decode cX5_isNote 12 = .ok (.bipush 8, 2) := by decide +kernel
theorem dX5_isNote_14 : decode cX5_isNote 14 = .ok (.invokestatic 48, 3) := by decide +kernel
theorem dX5_isNote_17 : decode cX5_isNote 17 = .ok (.ifCond .eq 7, 3) := by decide +kernel
theorem dX5_isNote_20 : decode cX5_isNote 20 = .ok (.iconst 1, 1) := by decide +kernel
theorem dX5_isNote_21 : decode cX5_isNote 21 = .ok (.goto 4, 3) := by decide +kernel
theorem dX5_isNote_24 : decode cX5_isNote 24 = .ok (.iconst 0, 1) := by decide +kernel
theorem dX5_isNote_25 : decode cX5_isNote 25 = .ok (.ireturn, 1) := by decide +kernel
theorem dX5_sets_0 : decode cX5_sets 0 = .ok (.aload_n 0, 1) := by decide +kernel
theorem dX5_sets_1 : decode cX5_sets 1 = .ok (.getfield 7, 3) := by decide +kernel
theorem dX5_sets_4 : decode cX5_sets 4 = .ok (.bipush 24, 2) := by decide +kernel
theorem dX5_sets_6 : decode cX5_sets 6 = .ok (.iload_n 1, 1) := by decide +kernel
theorem dX5_sets_7 : decode cX5_sets 7 = .ok (.imul, 1) := by decide +kernel
theorem dX5_sets_8 : decode cX5_sets 8 = .ok (.iload_n 2, 1) := by decide +kernel
theorem dX5_sets_9 : decode cX5_sets 9 = .ok (.iadd, 1) := by decide +kernel
theorem dX5_sets_10 : decode cX5_sets 10 = .ok (.iload_n 3, 1) := by decide +kernel
theorem dX5_sets_11 : decode cX5_sets 11 = .ok (.iastore, 1) := by decide +kernel
theorem dX5_sets_12 : decode cX5_sets 12 = .ok (.aload_n 0, 1) := by decide +kernel
theorem dX5_sets_13 : decode cX5_sets 13 = .ok (.getfield 13, 3) := by decide +kernel
theorem dX5_sets_16 : decode cX5_sets 16 = .ok (.bipush 24, 2) := by decide +kernel
theorem dX5_sets_18 : decode cX5_sets 18 = .ok (.iload_n 1, 1) := by decide +kernel
theorem dX5_sets_19 : decode cX5_sets 19 = .ok (.imul, 1) := by decide +kernel
theorem dX5_sets_20 : decode cX5_sets 20 = .ok (.iload_n 2, 1) := by decide +kernel
theorem dX5_sets_21 : decode cX5_sets 21 = .ok (.iadd, 1) := by decide +kernel
theorem dX5_sets_22 : decode cX5_sets 22 = .ok (.iload 4, 2) := by decide +kernel
theorem dX5_sets_24 : decode cX5_sets 24 = .ok (.iastore, 1) := by decide +kernel
theorem dX5_sets_25 : decode cX5_sets 25 = .ok (.return_, 1) := by decide +kernel
theorem dX5_add_0 : decode cX5_add 0 = .ok (.aload_n 0, 1) := by decide +kernel
theorem dX5_add_1 : decode cX5_add 1 = .ok (.iload_n 1, 1) := by decide +kernel
theorem dX5_add_2 : decode cX5_add 2 = .ok (.iload_n 2, 1) := by decide +kernel
theorem dX5_add_3 : decode cX5_add 3 = .ok (.invokestatic 56, 3) := by decide +kernel
theorem dX5_add_6 : decode cX5_add 6 = .ok (.ifCond .ne 7, 3) := by decide +kernel
theorem dX5_add_9 : decode cX5_add 9 = .ok (.iconst 1, 1) := by decide +kernel
theorem dX5_add_10 : decode cX5_add 10 = .ok (.goto 17, 3) := by decide +kernel
theorem dX5_add_13 : decode cX5_add 13 = .ok (.aload_n 0, 1) := by decide +kernel
theorem dX5_add_14 : decode cX5_add 14 = .ok (.getfield 45, 3) := by decide +kernel
theorem dX5_add_17 : decode cX5_add 17 = .ok (.bipush 16, 2) := by decide +kernel
theorem dX5_add_19 : decode cX5_add 19 = .ok (.if_icmp .ne 7, 3) := by decide +kernel
theorem dX5_add_22 : decode cX5_add 22 = .ok (.iconst 2, 1) := by decide +kernel
theorem dX5_add_23 : decode cX5_add 23 = .ok (.goto 4, 3) := by decide +kernel
theorem dX5_add_26 : decode cX5_add 26 = .ok (.iconst 0, 1) := by decide +kernel
theorem dX5_add_27 : decode cX5_add 27 = .ok (.invokevirtual 60, 3) := by decide +kernel
theorem dX5_add_30 : decode cX5_add 30 = .ok (.ifCond .ne 5, 3) := by decide +kernel
theorem dX5_add_33 : decode cX5_add 33 = .ok (.iconst 0, 1) := by decide +kernel
theorem dX5_add_34 : decode cX5_add 34 = .ok (.ireturn, 1) := by decide +kernel
theorem dX5_add_35 : decode cX5_add 35 = .ok (.aload_n 0, 1) := by decide +kernel
theorem dX5_add_36 : decode cX5_add 36 = .ok (.aload_n 0, 1) := by decide +kernel
theorem dX5_add_37 : decode cX5_add 37 = .ok (.getfield 45, 3) := by decide +kernel
theorem dX5_add_40 : decode cX5_add 40 = .ok (.iconst 0, 1) := by decide +kernel
theorem dX5_add_41 : decode cX5_add 41 = .ok (.iload_n 1, 1) := by decide +kernel
theorem dX5_add_42 : decode cX5_add 42 = .ok (.iload_n 2, 1) := by decide +kernel
theorem dX5_add_43 : decode cX5_add 43 = .ok (.invokevirtual 63, 3) := by decide +kernel
theorem dX5_add_46 : decode cX5_add 46 = .ok (.aload_n 0, 1) := by decide +kernel
theorem dX5_add_47 : decode cX5_add 47 = .ok (.getfield 16, 3) := by decide +kernel
theorem dX5_add_50 : decode cX5_add 50 = .ok (.aload_n 0, 1) := by decide +kernel
theorem dX5_add_51 : decode cX5_add 51 = .ok (.getfield 45, 3) := by decide +kernel
theorem dX5_add_54 : decode cX5_add 54 = .ok (.iconst 1, 1) := by decide +kernel
theorem dX5_add_55 : decode cX5_add 55 = .ok (.iastore, 1) := by decide +kernel
theorem dX5_add_56 : decode cX5_add 56 = .ok (.aload_n 0, 1) := by decide +kernel
theorem dX5_add_57 : decode cX5_add 57 = .ok (.dup, 1) := by decide +kernel
theorem dX5_add_58 : decode cX5_add 58 = .ok (.getfield 45, 3) := by decide +kernel
theorem dX5_add_61 : decode cX5_add 61 = .ok (.iconst 1, 1) := by decide +kernel
theorem dX5_add_62 : decode cX5_add 62 = .ok (.iadd, 1) := by decide +kernel
theorem dX5_add_63 : decode cX5_add 63 = .ok (.putfield 45, 3) := by decide +kernel
theorem dX5_add_66 : decode cX5_add 66 = .ok (.aload_n 0, 1) := by decide +kernel
theorem dX5_add_67 : decode cX5_add 67 = .ok (.getfield 45, 3) := by decide +kernel
theorem dX5_add_70 : decode cX5_add 70 = .ok (.iconst 1, 1) := by decide +kernel
theorem dX5_add_71 : decode cX5_add 71 = .ok (.isub, 1) := by decide +kernel
theorem dX5_add_72 : decode cX5_add 72 = .ok (.ireturn, 1) := by decide +kernel
theorem dX5_note_0 : decode cX5_note 0 = .ok (.aload_n 0, 1) := by decide +kernel
theorem dX5_note_1 : decode cX5_note 1 = .ok (.aload_n 0, 1) := by decide +kernel
theorem dX5_note_2 : decode cX5_note 2 = .ok (.iload_n 1, 1) := by decide +kernel
theorem dX5_note_3 : decode cX5_note 3 = .ok (.invokevirtual 67, 3) := by decide +kernel
theorem dX5_note_6 : decode cX5_note 6 = .ok (.ifCond .ne 7, 3) := by decide +kernel
theorem dX5_note_9 : decode cX5_note 9 = .ok (.iconst 1, 1) := by decide +kernel
theorem dX5_note_10 : decode cX5_note 10 = .ok (.goto 31, 3) := by decide +kernel
theorem dX5_note_13 : decode cX5_note 13 = .ok (.iload_n 2, 1) := by decide +kernel
theorem dX5_note_14 : decode cX5_note 14 = .ok (.iload_n 3, 1) := by decide +kernel
theorem dX5_note_15 : decode cX5_note 15 = .ok (.invokestatic 56, 3) := by decide +kernel
theorem dX5_note_18 : decode cX5_note 18 = .ok (.ifCond .ne 7, 3) := by decide +kernel
theorem dX5_note_21 : decode cX5_note 21 = .ok (.iconst 2, 1) := by decide +kernel
theorem dX5_note_22 : decode cX5_note 22 = .ok (.goto 19, 3) := by decide +kernel
theorem dX5_note_25 : decode cX5_note 25 = .ok (.aload_n 0, 1) := by decide +kernel
theorem dX5_note_26 : decode cX5_note 26 = .ok (.getfield 16, 3) := by decide +kernel
theorem dX5_note_29 : decode cX5_note 29 = .ok (.iload_n 1, 1) := by decide +kernel
theorem dX5_note_30 : decode cX5_note 30 = .ok (.iaload, 1) := by decide +kernel
theorem dX5_note_31 : decode cX5_note 31 = .ok (.bipush 24, 2) := by decide +kernel
theorem dX5_note_33 : decode cX5_note 33 = .ok (.if_icmp .ne 7, 3) := by decide +kernel
theorem dX5_note_36 : decode cX5_note 36 = .ok (.iconst 3, 1) := by decide +kernel
theorem dX5_note_37 : decode cX5_note 37 = .ok (.goto 4, 3) := by decide +kernel
theorem dX5_note_40 : decode cX5_note 40 = .ok (.iconst 0, 1) := by decide +kernel
theorem dX5_note_41 : decode cX5_note 41 = .ok (.invokevirtual 60, 3) := by decide +kernel
theorem dX5_note_44 : decode cX5_note 44 = .ok (.ifCond .ne 5, 3) := by decide +kernel
theorem dX5_note_47 : decode cX5_note 47 = .ok (.iconst 0, 1) := by decide +kernel
theorem dX5_note_48 : decode cX5_note 48 = .ok (.ireturn, 1) := by decide +kernel
theorem dX5_note_49 : decode cX5_note 49 = .ok (.aload_n 0, 1) := by decide +kernel
theorem dX5_note_50 : decode cX5_note 50 = .ok (.iload_n 1, 1) := by decide +kernel
theorem dX5_note_51 : decode cX5_note 51 = .ok (.aload_n 0, 1) := by decide +kernel
theorem dX5_note_52 : decode cX5_note 52 = .ok (.getfield 16, 3) := by decide +kernel
theorem dX5_note_55 : decode cX5_note 55 = .ok (.iload_n 1, 1) := by decide +kernel
theorem dX5_note_56 : decode cX5_note 56 = .ok (.iaload, 1) := by decide +kernel
theorem dX5_note_57 : decode cX5_note 57 = .ok (.iload_n 2, 1) := by decide +kernel
theorem dX5_note_58 : decode cX5_note 58 = .ok (.iload_n 3, 1) := by decide +kernel
theorem dX5_note_59 : decode cX5_note 59 = .ok (.invokevirtual 63, 3) := by decide +kernel
theorem dX5_note_62 : decode cX5_note 62 = .ok (.aload_n 0, 1) := by decide +kernel
theorem dX5_note_63 : decode cX5_note 63 = .ok (.getfield 16, 3) := by decide +kernel
theorem dX5_note_66 : decode cX5_note 66 = .ok (.iload_n 1, 1) := by decide +kernel
theorem dX5_note_67 : decode cX5_note 67 = .ok (.dup2, 1) := by decide +kernel
theorem dX5_note_68 : decode cX5_note 68 = .ok (.iaload, 1) := by decide +kernel
theorem dX5_note_69 : decode cX5_note 69 = .ok (.iconst 1, 1) := by decide +kernel
theorem dX5_note_70 : decode cX5_note 70 = .ok (.iadd, 1) := by decide +kernel
theorem dX5_note_71 : decode cX5_note 71 = .ok (.iastore, 1) := by decide +kernel
theorem dX5_note_72 : decode cX5_note 72 = .ok (.aload_n 0, 1) := by decide +kernel
theorem dX5_note_73 : decode cX5_note 73 = .ok (.getfield 16, 3) := by decide +kernel
theorem dX5_note_76 : decode cX5_note 76 = .ok (.iload_n 1, 1) := by decide +kernel
theorem dX5_note_77 : decode cX5_note 77 = .ok (.iaload, 1) := by decide +kernel
theorem dX5_note_78 : decode cX5_note 78 = .ok (.ireturn, 1) := by decide +kernel
theorem dX5_correct_0 : decode cX5_correct 0 = .ok (.aload_n 0, 1) := by decide +kernel
theorem dX5_correct_1 : decode cX5_correct 1 = .ok (.iload_n 1, 1) := by decide +kernel
theorem dX5_correct_2 : decode cX5_correct 2 = .ok (.invokevirtual 67, 3) := by decide +kernel
theorem dX5_correct_5 : decode cX5_correct 5 = .ok (.ifCond .eq 23, 3) := by decide +kernel
theorem dX5_correct_8 : decode cX5_correct 8 = .ok (.iload_n 2, 1) := by decide +kernel
theorem dX5_correct_9 : decode cX5_correct 9 = .ok (.iconst 0, 1) := by decide +kernel
theorem dX5_correct_10 : decode cX5_correct 10 = .ok (.aload_n 0, 1) := by decide +kernel
theorem dX5_correct_11 : decode cX5_correct 11 = .ok (.getfield 16, 3) := by decide +kernel
theorem dX5_correct_14 : decode cX5_correct 14 = .ok (.iload_n 1, 1) := by decide +kernel
theorem dX5_correct_15 : decode cX5_correct 15 = .ok (.iaload, 1) := by decide +kernel
theorem dX5_correct_16 : decode cX5_correct 16 = .ok (.iconst 1, 1) := by decide +kernel
theorem dX5_correct_17 : decode cX5_correct 17 = .ok (.isub, 1) := by decide +kernel
theorem dX5_correct_18 : decode cX5_correct 18 = .ok (.invokestatic 48, 3) := by decide +kernel
theorem dX5_correct_21 : decode cX5_correct 21 = .ok (.ifCond .eq 7, 3) := by decide +kernel
theorem dX5_correct_24 : decode cX5_correct 24 = .ok (.iconst 1, 1) := by decide +kernel
theorem dX5_correct_25 : decode cX5_correct 25 = .ok (.goto 4, 3) := by decide +kernel
theorem dX5_correct_28 : decode cX5_correct 28 = .ok (.iconst 0, 1) := by decide +kernel
theorem dX5_correct_29 : decode cX5_correct 29 = .ok (.istore 5, 2) := by decide +kernel
theorem dX5_correct_31 : decode cX5_correct 31 = .ok (.aload_n 0, 1) := by decide +kernel
theorem dX5_correct_32 : decode cX5_correct 32 = .ok (.iload 5, 2) := by decide +kernel
theorem dX5_correct_34 : decode cX5_correct 34 = .ok (.ifCond .ne 7, 3) := by decide +kernel
theorem dX5_correct_37 : decode cX5_correct 37 = .ok (.iconst 1, 1) := by decide +kernel
theorem dX5_correct_38 : decode cX5_correct 38 = .ok (.goto 17, 3) := by decide +kernel
theorem dX5_correct_41 : decode cX5_correct 41 = .ok (.iload_n 3, 1) := by decide +kernel
theorem dX5_correct_42 : decode cX5_correct 42 = .ok (.iload 4, 2) := by decide +kernel
theorem dX5_correct_44 : decode cX5_correct 44 = .ok (.invokestatic 56, 3) := by decide +kernel
theorem dX5_correct_47 : decode cX5_correct 47 = .ok (.ifCond .eq 7, 3) := by decide +kernel
theorem dX5_correct_50 : decode cX5_correct 50 = .ok (.iconst 0, 1) := by decide +kernel
theorem dX5_correct_51 : decode cX5_correct 51 = .ok (.goto 4, 3) := by decide +kernel
theorem dX5_correct_54 : decode cX5_correct 54 = .ok (.iconst 2, 1) := by decide +kernel
theorem dX5_correct_55 : decode cX5_correct 55 = .ok (.invokevirtual 60, 3) := by decide +kernel
theorem dX5_correct_58 : decode cX5_correct 58 = .ok (.ifCond .ne 5, 3) := by decide +kernel
theorem dX5_correct_61 : decode cX5_correct 61 = .ok (.iconst 0, 1) := by decide +kernel
theorem dX5_correct_62 : decode cX5_correct 62 = .ok (.ireturn, 1) := by decide +kernel
theorem dX5_correct_63 : decode cX5_correct 63 = .ok (.aload_n 0, 1) := by decide +kernel
theorem dX5_correct_64 : decode cX5_correct 64 = .ok (.getfield 7, 3) := by decide +kernel
theorem dX5_correct_67 : decode cX5_correct 67 = .ok (.bipush 24, 2) := by decide +kernel
theorem dX5_correct_69 : decode cX5_correct 69 = .ok (.iload_n 1, 1) := by decide +kernel
theorem dX5_correct_70 : decode cX5_correct 70 = .ok (.imul, 1) := by decide +kernel
theorem dX5_correct_71 : decode cX5_correct 71 = .ok (.iload_n 2, 1) := by decide +kernel
theorem dX5_correct_72 : decode cX5_correct 72 = .ok (.iadd, 1) := by decide +kernel
theorem dX5_correct_73 : decode cX5_correct 73 = .ok (.iaload, 1) := by decide +kernel
theorem dX5_correct_74 : decode cX5_correct 74 = .ok (.istore 6, 2) := by decide +kernel
theorem dX5_correct_76 : decode cX5_correct 76 = .ok (.aload_n 0, 1) := by decide +kernel
theorem dX5_correct_77 : decode cX5_correct 77 = .ok (.iload_n 1, 1) := by decide +kernel
theorem dX5_correct_78 : decode cX5_correct 78 = .ok (.iload_n 2, 1) := by decide +kernel
theorem dX5_correct_79 : decode cX5_correct 79 = .ok (.iload_n 3, 1) := by decide +kernel
theorem dX5_correct_80 : decode cX5_correct 80 = .ok (.iload 4, 2) := by decide +kernel
theorem dX5_correct_82 : decode cX5_correct 82 = .ok (.invokevirtual 63, 3) := by decide +kernel
theorem dX5_correct_85 : decode cX5_correct 85 = .ok (.iload 6, 2) := by decide +kernel
theorem dX5_correct_87 : decode cX5_correct 87 = .ok (.ireturn, 1) := by decide +kernel
theorem dX5_mayShift_0 : decode cX5_mayShift 0 = .ok (.iconst 0, 1) := by decide +kernel
theorem dX5_mayShift_1 : decode cX5_mayShift 1 = .ok (.istore_n 3, 1) := by decide +kernel
theorem dX5_mayShift_2 : decode cX5_mayShift 2 = .ok (.iload_n 3, 1) := by decide +kernel
theorem dX5_mayShift_3 : decode cX5_mayShift 3 = .ok (.aload_n 0, 1) := by decide +kernel
theorem dX5_mayShift_4 : decode cX5_mayShift 4 = .ok (.getfield 16, 3) := by decide +kernel
theorem dX5_mayShift_7 : decode cX5_mayShift 7 = .ok (.iload_n 1, 1) := by decide +kernel
theorem dX5_mayShift_8 : decode cX5_mayShift 8 = .ok (.iaload, 1) := by decide +kernel
theorem dX5_mayShift_9 : decode cX5_mayShift 9 = .ok (.if_icmp .ge 33, 3) := by decide +kernel
theorem dX5_mayShift_12 : decode cX5_mayShift 12 = .ok (.aload_n 0, 1) := by decide +kernel
theorem dX5_mayShift_13 : decode cX5_mayShift 13 = .ok (.getfield 7, 3) := by decide +kernel
theorem dX5_mayShift_16 : decode cX5_mayShift 16 = .ok (.bipush 24, 2) := by decide +kernel
theorem dX5_mayShift_18 : decode cX5_mayShift 18 = .ok (.iload_n 1, 1) := by decide +kernel
theorem dX5_mayShift_19 : decode cX5_mayShift 19 = .ok (.imul, 1) := by decide +kernel
theorem dX5_mayShift_20 : decode cX5_mayShift 20 = .ok (.iload_n 3, 1) := by decide +kernel
theorem dX5_mayShift_21 : decode cX5_mayShift 21 = .ok (.iadd, 1) := by decide +kernel
theorem dX5_mayShift_22 : decode cX5_mayShift 22 = .ok (.iaload, 1) := by decide +kernel
theorem dX5_mayShift_23 : decode cX5_mayShift 23 = .ok (.iload_n 2, 1) := by decide +kernel
theorem dX5_mayShift_24 : decode cX5_mayShift 24 = .ok (.iadd, 1) := by decide +kernel
theorem dX5_mayShift_25 : decode cX5_mayShift 25 = .ok (.iconst 0, 1) := by decide +kernel
theorem dX5_mayShift_26 : decode cX5_mayShift 26 = .ok (.bipush 60, 2) := by decide +kernel
theorem dX5_mayShift_28 : decode cX5_mayShift 28 = .ok (.invokestatic 48, 3) := by decide +kernel
theorem dX5_mayShift_31 : decode cX5_mayShift 31 = .ok (.ifCond .ne 5, 3) := by decide +kernel
theorem dX5_mayShift_34 : decode cX5_mayShift 34 = .ok (.iconst 0, 1) := by decide +kernel
theorem dX5_mayShift_35 : decode cX5_mayShift 35 = .ok (.ireturn, 1) := by decide +kernel
theorem dX5_mayShift_36 : decode cX5_mayShift 36 = .ok (.iinc 3 1, 3) := by decide +kernel
theorem dX5_mayShift_39 : decode cX5_mayShift 39 = .ok (.goto (-37), 3) := by decide +kernel
theorem dX5_mayShift_42 : decode cX5_mayShift 42 = .ok (.iconst 1, 1) := by decide +kernel
theorem dX5_mayShift_43 : decode cX5_mayShift 43 = .ok (.ireturn, 1) := by decide +kernel
theorem dX5_shift_0 : decode cX5_shift 0 = .ok (.aload_n 0, 1) := by decide +kernel
theorem dX5_shift_1 : decode cX5_shift 1 = .ok (.aload_n 0, 1) := by decide +kernel
theorem dX5_shift_2 : decode cX5_shift 2 = .ok (.iload_n 1, 1) := by decide +kernel
theorem dX5_shift_3 : decode cX5_shift 3 = .ok (.invokevirtual 67, 3) := by decide +kernel
theorem dX5_shift_6 : decode cX5_shift 6 = .ok (.ifCond .ne 7, 3) := by decide +kernel
theorem dX5_shift_9 : decode cX5_shift 9 = .ok (.iconst 1, 1) := by decide +kernel
theorem dX5_shift_10 : decode cX5_shift 10 = .ok (.goto 32, 3) := by decide +kernel
theorem dX5_shift_13 : decode cX5_shift 13 = .ok (.iload_n 2, 1) := by decide +kernel
theorem dX5_shift_14 : decode cX5_shift 14 = .ok (.bipush (-60), 2) := by decide +kernel
theorem dX5_shift_16 : decode cX5_shift 16 = .ok (.bipush 60, 2) := by decide +kernel
theorem dX5_shift_18 : decode cX5_shift 18 = .ok (.invokestatic 48, 3) := by decide +kernel
theorem dX5_shift_21 : decode cX5_shift 21 = .ok (.ifCond .ne 7, 3) := by decide +kernel
theorem dX5_shift_24 : decode cX5_shift 24 = .ok (.iconst 2, 1) := by decide +kernel
theorem dX5_shift_25 : decode cX5_shift 25 = .ok (.goto 17, 3) := by decide +kernel
theorem dX5_shift_28 : decode cX5_shift 28 = .ok (.aload_n 0, 1) := by decide +kernel
theorem dX5_shift_29 : decode cX5_shift 29 = .ok (.iload_n 1, 1) := by decide +kernel
theorem dX5_shift_30 : decode cX5_shift 30 = .ok (.iload_n 2, 1) := by decide +kernel
theorem dX5_shift_31 : decode cX5_shift 31 = .ok (.invokevirtual 70, 3) := by decide +kernel
theorem dX5_shift_34 : decode cX5_shift 34 = .ok (.ifCond .eq 7, 3) := by decide +kernel
theorem dX5_shift_37 : decode cX5_shift 37 = .ok (.iconst 0, 1) := by decide +kernel
theorem dX5_shift_38 : decode cX5_shift 38 = .ok (.goto 4, 3) := by decide +kernel
theorem dX5_shift_41 : decode cX5_shift 41 = .ok (.iconst 3, 1) := by decide +kernel
theorem dX5_shift_42 : decode cX5_shift 42 = .ok (.invokevirtual 60, 3) := by decide +kernel
theorem dX5_shift_45 : decode cX5_shift 45 = .ok (.ifCond .eq 36, 3) := by decide +kernel
theorem dX5_shift_48 : decode cX5_shift 48 = .ok (.iconst 0, 1) := by decide +kernel
theorem dX5_shift_49 : decode cX5_shift 49 = .ok (.istore_n 3, 1) := by decide +kernel
theorem dX5_shift_50 : decode cX5_shift 50 = .ok (.iload_n 3, 1) := by decide +kernel
theorem dX5_shift_51 : decode cX5_shift 51 = .ok (.aload_n 0, 1) := by decide +kernel
theorem dX5_shift_52 : decode cX5_shift 52 = .ok (.getfield 16, 3) := by decide +kernel
theorem dX5_shift_55 : decode cX5_shift 55 = .ok (.iload_n 1, 1) := by decide +kernel
theorem dX5_shift_56 : decode cX5_shift 56 = .ok (.iaload, 1) := by decide +kernel
theorem dX5_shift_57 : decode cX5_shift 57 = .ok (.if_icmp .ge 24, 3) := by decide +kernel
theorem dX5_shift_60 : decode cX5_shift 60 = .ok (.aload_n 0, 1) := by decide +kernel
theorem dX5_shift_61 : decode cX5_shift 61 = .ok (.getfield 7, 3) := by decide +kernel
theorem dX5_shift_64 : decode cX5_shift 64 = .ok (.bipush 24, 2) := by decide +kernel
theorem dX5_shift_66 : decode cX5_shift 66 = .ok (.iload_n 1, 1) := by decide +kernel
theorem dX5_shift_67 : decode cX5_shift 67 = .ok (.imul, 1) := by decide +kernel
theorem dX5_shift_68 : decode cX5_shift 68 = .ok (.iload_n 3, 1) := by decide +kernel
theorem dX5_shift_69 : decode cX5_shift 69 = .ok (.iadd, 1) := by decide +kernel
theorem dX5_shift_70 : decode cX5_shift 70 = .ok (.dup2, 1) := by decide +kernel
theorem dX5_shift_71 : decode cX5_shift 71 = .ok (.iaload, 1) := by decide +kernel
theorem dX5_shift_72 : decode cX5_shift 72 = .ok (.iload_n 2, 1) := by decide +kernel
theorem dX5_shift_73 : decode cX5_shift 73 = .ok (.iadd, 1) := by decide +kernel
theorem dX5_shift_74 : decode cX5_shift 74 = .ok (.iastore, 1) := by decide +kernel
theorem dX5_shift_75 : decode cX5_shift 75 = .ok (.iinc 3 1, 3) := by decide +kernel
theorem dX5_shift_78 : decode cX5_shift 78 = .ok (.goto (-28), 3) := by decide +kernel
theorem dX5_shift_81 : decode cX5_shift 81 = .ok (.return_, 1) := by decide +kernel
theorem dX5_retire_0 : decode cX5_retire 0 = .ok (.aload_n 0, 1) := by decide +kernel
theorem dX5_retire_1 : decode cX5_retire 1 = .ok (.aload_n 0, 1) := by decide +kernel
theorem dX5_retire_2 : decode cX5_retire 2 = .ok (.iload_n 1, 1) := by decide +kernel
theorem dX5_retire_3 : decode cX5_retire 3 = .ok (.invokevirtual 67, 3) := by decide +kernel
theorem dX5_retire_6 : decode cX5_retire 6 = .ok (.ifCond .eq 7, 3) := by decide +kernel
theorem dX5_retire_9 : decode cX5_retire 9 = .ok (.iconst 0, 1) := by decide +kernel
theorem dX5_retire_10 : decode cX5_retire 10 = .ok (.goto 4, 3) := by decide +kernel
theorem dX5_retire_13 : decode cX5_retire 13 = .ok (.iconst 1, 1) := by decide +kernel
theorem dX5_retire_14 : decode cX5_retire 14 = .ok (.invokevirtual 60, 3) := by decide +kernel
theorem dX5_retire_17 : decode cX5_retire 17 = .ok (.ifCond .ne 5, 3) := by decide +kernel
theorem dX5_retire_20 : decode cX5_retire 20 = .ok (.iconst 0, 1) := by decide +kernel
theorem dX5_retire_21 : decode cX5_retire 21 = .ok (.ireturn, 1) := by decide +kernel
theorem dX5_retire_22 : decode cX5_retire 22 = .ok (.aload_n 0, 1) := by decide +kernel
theorem dX5_retire_23 : decode cX5_retire 23 = .ok (.getfield 19, 3) := by decide +kernel
theorem dX5_retire_26 : decode cX5_retire 26 = .ok (.iload_n 1, 1) := by decide +kernel
theorem dX5_retire_27 : decode cX5_retire 27 = .ok (.iconst 1, 1) := by decide +kernel
theorem dX5_retire_28 : decode cX5_retire 28 = .ok (.bastore, 1) := by decide +kernel
theorem dX5_retire_29 : decode cX5_retire 29 = .ok (.iconst 0, 1) := by decide +kernel
theorem dX5_retire_30 : decode cX5_retire 30 = .ok (.istore_n 2, 1) := by decide +kernel
theorem dX5_retire_31 : decode cX5_retire 31 = .ok (.iconst 0, 1) := by decide +kernel
theorem dX5_retire_32 : decode cX5_retire 32 = .ok (.istore_n 3, 1) := by decide +kernel
theorem dX5_retire_33 : decode cX5_retire 33 = .ok (.iload_n 3, 1) := by decide +kernel
theorem dX5_retire_34 : decode cX5_retire 34 = .ok (.aload_n 0, 1) := by decide +kernel
theorem dX5_retire_35 : decode cX5_retire 35 = .ok (.getfield 45, 3) := by decide +kernel
theorem dX5_retire_38 : decode cX5_retire 38 = .ok (.if_icmp .ge 26, 3) := by decide +kernel
theorem dX5_retire_41 : decode cX5_retire 41 = .ok (.iload_n 2, 1) := by decide +kernel
theorem dX5_retire_42 : decode cX5_retire 42 = .ok (.aload_n 0, 1) := by decide +kernel
theorem dX5_retire_43 : decode cX5_retire 43 = .ok (.getfield 19, 3) := by decide +kernel
theorem dX5_retire_46 : decode cX5_retire 46 = .ok (.iload_n 3, 1) := by decide +kernel
theorem dX5_retire_47 : decode cX5_retire 47 = .ok (.baload, 1) := by decide +kernel
theorem dX5_retire_48 : decode cX5_retire 48 = .ok (.ifCond .eq 7, 3) := by decide +kernel
theorem dX5_retire_51 : decode cX5_retire 51 = .ok (.iconst 0, 1) := by decide +kernel
theorem dX5_retire_52 : decode cX5_retire 52 = .ok (.goto 4, 3) := by decide +kernel
theorem dX5_retire_55 : decode cX5_retire 55 = .ok (.iconst 1, 1) := by decide +kernel
theorem dX5_retire_56 : decode cX5_retire 56 = .ok (.iadd, 1) := by decide +kernel
theorem dX5_retire_57 : decode cX5_retire 57 = .ok (.istore_n 2, 1) := by decide +kernel
theorem dX5_retire_58 : decode cX5_retire 58 = .ok (.iinc 3 1, 3) := by decide +kernel
theorem dX5_retire_61 : decode cX5_retire 61 = .ok (.goto (-28), 3) := by decide +kernel
theorem dX5_retire_64 : decode cX5_retire 64 = .ok (.iload_n 2, 1) := by decide +kernel
theorem dX5_retire_65 : decode cX5_retire 65 = .ok (.ireturn, 1) := by decide +kernel
theorem dX5_tunes_0 : decode cX5_tunes 0 = .ok (.aload_n 0, 1) := by decide +kernel
theorem dX5_tunes_1 : decode cX5_tunes 1 = .ok (.iconst 0, 1) := by decide +kernel
theorem dX5_tunes_2 : decode cX5_tunes 2 = .ok (.putfield 42, 3) := by decide +kernel
theorem dX5_tunes_5 : decode cX5_tunes 5 = .ok (.aload_n 0, 1) := by decide +kernel
theorem dX5_tunes_6 : decode cX5_tunes 6 = .ok (.getfield 45, 3) := by decide +kernel
theorem dX5_tunes_9 : decode cX5_tunes 9 = .ok (.ireturn, 1) := by decide +kernel
theorem dX5_notes_0 : decode cX5_notes 0 = .ok (.aload_n 0, 1) := by decide +kernel
theorem dX5_notes_1 : decode cX5_notes 1 = .ok (.aload_n 0, 1) := by decide +kernel
theorem dX5_notes_2 : decode cX5_notes 2 = .ok (.iload_n 1, 1) := by decide +kernel
theorem dX5_notes_3 : decode cX5_notes 3 = .ok (.invokevirtual 52, 3) := by decide +kernel
theorem dX5_notes_6 : decode cX5_notes 6 = .ok (.ifCond .eq 7, 3) := by decide +kernel
theorem dX5_notes_9 : decode cX5_notes 9 = .ok (.iconst 0, 1) := by decide +kernel
theorem dX5_notes_10 : decode cX5_notes 10 = .ok (.goto 4, 3) := by decide +kernel
theorem dX5_notes_13 : decode cX5_notes 13 = .ok (.iconst 1, 1) := by decide +kernel
theorem dX5_notes_14 : decode cX5_notes 14 = .ok (.invokevirtual 60, 3) := by decide +kernel
theorem dX5_notes_17 : decode cX5_notes 17 = .ok (.ifCond .eq 12, 3) := by decide +kernel
theorem dX5_notes_20 : decode cX5_notes 20 = .ok (.aload_n 0, 1) := by decide +kernel
theorem dX5_notes_21 : decode cX5_notes 21 = .ok (.getfield 16, 3) := by decide +kernel
theorem dX5_notes_24 : decode cX5_notes 24 = .ok (.iload_n 1, 1) := by decide +kernel
theorem dX5_notes_25 : decode cX5_notes 25 = .ok (.iaload, 1) := by decide +kernel
theorem dX5_notes_26 : decode cX5_notes 26 = .ok (.goto 4, 3) := by decide +kernel
theorem dX5_notes_29 : decode cX5_notes 29 = .ok (.iconst 0, 1) := by decide +kernel
theorem dX5_notes_30 : decode cX5_notes 30 = .ok (.ireturn, 1) := by decide +kernel
theorem dX5_stepOf_0 : decode cX5_stepOf 0 = .ok (.aload_n 0, 1) := by decide +kernel
theorem dX5_stepOf_1 : decode cX5_stepOf 1 = .ok (.getfield 7, 3) := by decide +kernel
theorem dX5_stepOf_4 : decode cX5_stepOf 4 = .ok (.bipush 24, 2) := by decide +kernel
theorem dX5_stepOf_6 : decode cX5_stepOf 6 = .ok (.iload_n 1, 1) := by decide +kernel
theorem dX5_stepOf_7 : decode cX5_stepOf 7 = .ok (.imul, 1) := by decide +kernel
theorem dX5_stepOf_8 : decode cX5_stepOf 8 = .ok (.iload_n 2, 1) := by decide +kernel
theorem dX5_stepOf_9 : decode cX5_stepOf 9 = .ok (.iadd, 1) := by decide +kernel
theorem dX5_stepOf_10 : decode cX5_stepOf 10 = .ok (.iconst 1, 1) := by decide +kernel
theorem dX5_stepOf_11 : decode cX5_stepOf 11 = .ok (.iadd, 1) := by decide +kernel
theorem dX5_stepOf_12 : decode cX5_stepOf 12 = .ok (.iaload, 1) := by decide +kernel
theorem dX5_stepOf_13 : decode cX5_stepOf 13 = .ok (.aload_n 0, 1) := by decide +kernel
theorem dX5_stepOf_14 : decode cX5_stepOf 14 = .ok (.getfield 7, 3) := by decide +kernel
theorem dX5_stepOf_17 : decode cX5_stepOf 17 = .ok (.bipush 24, 2) := by decide +kernel
theorem dX5_stepOf_19 : decode cX5_stepOf 19 = .ok (.iload_n 1, 1) := by decide +kernel
theorem dX5_stepOf_20 : decode cX5_stepOf 20 = .ok (.imul, 1) := by decide +kernel
theorem dX5_stepOf_21 : decode cX5_stepOf 21 = .ok (.iload_n 2, 1) := by decide +kernel
theorem dX5_stepOf_22 : decode cX5_stepOf 22 = .ok (.iadd, 1) := by decide +kernel
theorem dX5_stepOf_23 : decode cX5_stepOf 23 = .ok (.iaload, 1) := by decide +kernel
theorem dX5_stepOf_24 : decode cX5_stepOf 24 = .ok (.isub, 1) := by decide +kernel
theorem dX5_stepOf_25 : decode cX5_stepOf 25 = .ok (.ireturn, 1) := by decide +kernel
theorem dX5_step_0 : decode cX5_step 0 = .ok (.aload_n 0, 1) := by decide +kernel
theorem dX5_step_1 : decode cX5_step 1 = .ok (.aload_n 0, 1) := by decide +kernel
theorem dX5_step_2 : decode cX5_step 2 = .ok (.iload_n 1, 1) := by decide +kernel
theorem dX5_step_3 : decode cX5_step 3 = .ok (.invokevirtual 52, 3) := by decide +kernel
theorem dX5_step_6 : decode cX5_step 6 = .ok (.ifCond .eq 23, 3) := by decide +kernel
theorem dX5_step_9 : decode cX5_step 9 = .ok (.iload_n 2, 1) := by decide +kernel
theorem dX5_step_10 : decode cX5_step 10 = .ok (.iconst 0, 1) := by decide +kernel
theorem dX5_step_11 : decode cX5_step 11 = .ok (.aload_n 0, 1) := by decide +kernel
theorem dX5_step_12 : decode cX5_step 12 = .ok (.getfield 16, 3) := by decide +kernel
theorem dX5_step_15 : decode cX5_step 15 = .ok (.iload_n 1, 1) := by decide +kernel
theorem dX5_step_16 : decode cX5_step 16 = .ok (.iaload, 1) := by decide +kernel
theorem dX5_step_17 : decode cX5_step 17 = .ok (.iconst 2, 1) := by decide +kernel
theorem dX5_step_18 : decode cX5_step 18 = .ok (.isub, 1) := by decide +kernel
theorem dX5_step_19 : decode cX5_step 19 = .ok (.invokestatic 48, 3) := by decide +kernel
theorem dX5_step_22 : decode cX5_step 22 = .ok (.ifCond .eq 7, 3) := by decide +kernel
theorem dX5_step_25 : decode cX5_step 25 = .ok (.iconst 0, 1) := by decide +kernel
theorem dX5_step_26 : decode cX5_step 26 = .ok (.goto 4, 3) := by decide +kernel
theorem dX5_step_29 : decode cX5_step 29 = .ok (.iconst 1, 1) := by decide +kernel
theorem dX5_step_30 : decode cX5_step 30 = .ok (.invokevirtual 60, 3) := by decide +kernel
theorem dX5_step_33 : decode cX5_step 33 = .ok (.ifCond .eq 12, 3) := by decide +kernel
theorem dX5_step_36 : decode cX5_step 36 = .ok (.aload_n 0, 1) := by decide +kernel
theorem dX5_step_37 : decode cX5_step 37 = .ok (.iload_n 1, 1) := by decide +kernel
theorem dX5_step_38 : decode cX5_step 38 = .ok (.iload_n 2, 1) := by decide +kernel
theorem dX5_step_39 : decode cX5_step 39 = .ok (.invokevirtual 73, 3) := by decide +kernel
theorem dX5_step_42 : decode cX5_step 42 = .ok (.goto 4, 3) := by decide +kernel
theorem dX5_step_45 : decode cX5_step 45 = .ok (.iconst 0, 1) := by decide +kernel
theorem dX5_step_46 : decode cX5_step 46 = .ok (.ireturn, 1) := by decide +kernel
theorem dX5_alike_0 : decode cX5_alike 0 = .ok (.iconst 0, 1) := by decide +kernel
theorem dX5_alike_1 : decode cX5_alike 1 = .ok (.istore 5, 2) := by decide +kernel
theorem dX5_alike_3 : decode cX5_alike 3 = .ok (.iload_n 2, 1) := by decide +kernel
theorem dX5_alike_4 : decode cX5_alike 4 = .ok (.iload 5, 2) := by decide +kernel
theorem dX5_alike_6 : decode cX5_alike 6 = .ok (.iadd, 1) := by decide +kernel
theorem dX5_alike_7 : decode cX5_alike 7 = .ok (.aload_n 0, 1) := by decide +kernel
theorem dX5_alike_8 : decode cX5_alike 8 = .ok (.getfield 16, 3) := by decide +kernel
theorem dX5_alike_11 : decode cX5_alike 11 = .ok (.iload_n 1, 1) := by decide +kernel
theorem dX5_alike_12 : decode cX5_alike 12 = .ok (.iaload, 1) := by decide +kernel
theorem dX5_alike_13 : decode cX5_alike 13 = .ok (.iconst 1, 1) := by decide +kernel
theorem dX5_alike_14 : decode cX5_alike 14 = .ok (.isub, 1) := by decide +kernel
theorem dX5_alike_15 : decode cX5_alike 15 = .ok (.if_icmp .ge 47, 3) := by decide +kernel
theorem dX5_alike_18 : decode cX5_alike 18 = .ok (.iload 4, 2) := by decide +kernel
theorem dX5_alike_20 : decode cX5_alike 20 = .ok (.iload 5, 2) := by decide +kernel
theorem dX5_alike_22 : decode cX5_alike 22 = .ok (.iadd, 1) := by decide +kernel
theorem dX5_alike_23 : decode cX5_alike 23 = .ok (.aload_n 0, 1) := by decide +kernel
theorem dX5_alike_24 : decode cX5_alike 24 = .ok (.getfield 16, 3) := by decide +kernel
theorem dX5_alike_27 : decode cX5_alike 27 = .ok (.iload_n 3, 1) := by decide +kernel
theorem dX5_alike_28 : decode cX5_alike 28 = .ok (.iaload, 1) := by decide +kernel
theorem dX5_alike_29 : decode cX5_alike 29 = .ok (.iconst 1, 1) := by decide +kernel
theorem dX5_alike_30 : decode cX5_alike 30 = .ok (.isub, 1) := by decide +kernel
theorem dX5_alike_31 : decode cX5_alike 31 = .ok (.if_icmp .ge 31, 3) := by decide +kernel
theorem dX5_alike_34 : decode cX5_alike 34 = .ok (.aload_n 0, 1) := by decide +kernel
theorem dX5_alike_35 : decode cX5_alike 35 = .ok (.iload_n 1, 1) := by decide +kernel
theorem dX5_alike_36 : decode cX5_alike 36 = .ok (.iload_n 2, 1) := by decide +kernel
theorem dX5_alike_37 : decode cX5_alike 37 = .ok (.iload 5, 2) := by decide +kernel
theorem dX5_alike_39 : decode cX5_alike 39 = .ok (.iadd, 1) := by decide +kernel
theorem dX5_alike_40 : decode cX5_alike 40 = .ok (.invokevirtual 73, 3) := by decide +kernel
theorem dX5_alike_43 : decode cX5_alike 43 = .ok (.aload_n 0, 1) := by decide +kernel
theorem dX5_alike_44 : decode cX5_alike 44 = .ok (.iload_n 3, 1) := by decide +kernel
theorem dX5_alike_45 : decode cX5_alike 45 = .ok (.iload 4, 2) := by decide +kernel
theorem dX5_alike_47 : decode cX5_alike 47 = .ok (.iload 5, 2) := by decide +kernel
theorem dX5_alike_49 : decode cX5_alike 49 = .ok (.iadd, 1) := by decide +kernel
theorem dX5_alike_50 : decode cX5_alike 50 = .ok (.invokevirtual 73, 3) := by decide +kernel
theorem dX5_alike_53 : decode cX5_alike 53 = .ok (.if_icmp .ne 9, 3) := by decide +kernel
theorem dX5_alike_56 : decode cX5_alike 56 = .ok (.iinc 5 1, 3) := by decide +kernel
theorem dX5_alike_59 : decode cX5_alike 59 = .ok (.goto (-56), 3) := by decide +kernel
theorem dX5_alike_62 : decode cX5_alike 62 = .ok (.iload 5, 2) := by decide +kernel
theorem dX5_alike_64 : decode cX5_alike 64 = .ok (.ireturn, 1) := by decide +kernel
theorem dX5_shared_0 : decode cX5_shared 0 = .ok (.aload_n 0, 1) := by decide +kernel
theorem dX5_shared_1 : decode cX5_shared 1 = .ok (.aload_n 0, 1) := by decide +kernel
theorem dX5_shared_2 : decode cX5_shared 2 = .ok (.iload_n 1, 1) := by decide +kernel
theorem dX5_shared_3 : decode cX5_shared 3 = .ok (.invokevirtual 52, 3) := by decide +kernel
theorem dX5_shared_6 : decode cX5_shared 6 = .ok (.ifCond .eq 15, 3) := by decide +kernel
theorem dX5_shared_9 : decode cX5_shared 9 = .ok (.aload_n 0, 1) := by decide +kernel
theorem dX5_shared_10 : decode cX5_shared 10 = .ok (.iload_n 2, 1) := by decide +kernel
theorem dX5_shared_11 : decode cX5_shared 11 = .ok (.invokevirtual 52, 3) := by decide +kernel
theorem dX5_shared_14 : decode cX5_shared 14 = .ok (.ifCond .eq 7, 3) := by decide +kernel
theorem dX5_shared_17 : decode cX5_shared 17 = .ok (.iconst 0, 1) := by decide +kernel
theorem dX5_shared_18 : decode cX5_shared 18 = .ok (.goto 4, 3) := by decide +kernel
theorem dX5_shared_21 : decode cX5_shared 21 = .ok (.iconst 1, 1) := by decide +kernel
theorem dX5_shared_22 : decode cX5_shared 22 = .ok (.invokevirtual 60, 3) := by decide +kernel
theorem dX5_shared_25 : decode cX5_shared 25 = .ok (.ifCond .ne 5, 3) := by decide +kernel
theorem dX5_shared_28 : decode cX5_shared 28 = .ok (.iconst 0, 1) := by decide +kernel
theorem dX5_shared_29 : decode cX5_shared 29 = .ok (.ireturn, 1) := by decide +kernel
theorem dX5_shared_30 : decode cX5_shared 30 = .ok (.iconst 0, 1) := by decide +kernel
theorem dX5_shared_31 : decode cX5_shared 31 = .ok (.istore_n 3, 1) := by decide +kernel
theorem dX5_shared_32 : decode cX5_shared 32 = .ok (.iconst 0, 1) := by decide +kernel
theorem dX5_shared_33 : decode cX5_shared 33 = .ok (.istore 4, 2) := by decide +kernel
theorem dX5_shared_35 : decode cX5_shared 35 = .ok (.iload 4, 2) := by decide +kernel
theorem dX5_shared_37 : decode cX5_shared 37 = .ok (.sipush 576, 3) := by decide +kernel
theorem dX5_shared_40 : decode cX5_shared 40 = .ok (.if_icmp .ge 40, 3) := by decide +kernel
theorem dX5_shared_43 : decode cX5_shared 43 = .ok (.aload_n 0, 1) := by decide +kernel
theorem dX5_shared_44 : decode cX5_shared 44 = .ok (.iload_n 1, 1) := by decide +kernel
theorem dX5_shared_45 : decode cX5_shared 45 = .ok (.iload 4, 2) := by decide +kernel
theorem dX5_shared_47 : decode cX5_shared 47 = .ok (.bipush 24, 2) := by decide +kernel
theorem dX5_shared_49 : decode cX5_shared 49 = .ok (.idiv, 1) := by decide +kernel
theorem dX5_shared_50 : decode cX5_shared 50 = .ok (.iload_n 2, 1) := by decide +kernel
theorem dX5_shared_51 : decode cX5_shared 51 = .ok (.iload 4, 2) := by decide +kernel
theorem dX5_shared_53 : decode cX5_shared 53 = .ok (.bipush 24, 2) := by decide +kernel
theorem dX5_shared_55 : decode cX5_shared 55 = .ok (.irem, 1) := by decide +kernel
theorem dX5_shared_56 : decode cX5_shared 56 = .ok (.invokevirtual 77, 3) := by decide +kernel
theorem dX5_shared_59 : decode cX5_shared 59 = .ok (.istore 5, 2) := by decide +kernel
theorem dX5_shared_61 : decode cX5_shared 61 = .ok (.iload 5, 2) := by decide +kernel
theorem dX5_shared_63 : decode cX5_shared 63 = .ok (.iload_n 3, 1) := by decide +kernel
theorem dX5_shared_64 : decode cX5_shared 64 = .ok (.if_icmp .le 8, 3) := by decide +kernel
theorem dX5_shared_67 : decode cX5_shared 67 = .ok (.iload 5, 2) := by decide +kernel
theorem dX5_shared_69 : decode cX5_shared 69 = .ok (.goto 4, 3) := by decide +kernel
theorem dX5_shared_72 : decode cX5_shared 72 = .ok (.iload_n 3, 1) := by decide +kernel
theorem dX5_shared_73 : decode cX5_shared 73 = .ok (.istore_n 3, 1) := by decide +kernel
theorem dX5_shared_74 : decode cX5_shared 74 = .ok (.iinc 4 1, 3) := by decide +kernel
theorem dX5_shared_77 : decode cX5_shared 77 = .ok (.goto (-42), 3) := by decide +kernel
theorem dX5_shared_80 : decode cX5_shared 80 = .ok (.iload_n 3, 1) := by decide +kernel
theorem dX5_shared_81 : decode cX5_shared 81 = .ok (.ireturn, 1) := by decide +kernel
theorem dX5_hum_0 : decode cX5_hum 0 = .ok (.aload_n 0, 1) := by decide +kernel
theorem dX5_hum_1 : decode cX5_hum 1 = .ok (.iload_n 1, 1) := by decide +kernel
theorem dX5_hum_2 : decode cX5_hum 2 = .ok (.iconst 0, 1) := by decide +kernel
theorem dX5_hum_3 : decode cX5_hum 3 = .ok (.bipush 60, 2) := by decide +kernel
theorem dX5_hum_5 : decode cX5_hum 5 = .ok (.invokestatic 48, 3) := by decide +kernel
theorem dX5_hum_8 : decode cX5_hum 8 = .ok (.ifCond .ne 7, 3) := by decide +kernel
theorem dX5_hum_11 : decode cX5_hum 11 = .ok (.iconst 1, 1) := by decide +kernel
theorem dX5_hum_12 : decode cX5_hum 12 = .ok (.goto 17, 3) := by decide +kernel
theorem dX5_hum_15 : decode cX5_hum 15 = .ok (.aload_n 0, 1) := by decide +kernel
theorem dX5_hum_16 : decode cX5_hum 16 = .ok (.getfield 81, 3) := by decide +kernel
theorem dX5_hum_19 : decode cX5_hum 19 = .ok (.bipush 12, 2) := by decide +kernel
theorem dX5_hum_21 : decode cX5_hum 21 = .ok (.if_icmp .ne 7, 3) := by decide +kernel
theorem dX5_hum_24 : decode cX5_hum 24 = .ok (.iconst 2, 1) := by decide +kernel
theorem dX5_hum_25 : decode cX5_hum 25 = .ok (.goto 4, 3) := by decide +kernel
theorem dX5_hum_28 : decode cX5_hum 28 = .ok (.iconst 0, 1) := by decide +kernel
theorem dX5_hum_29 : decode cX5_hum 29 = .ok (.invokevirtual 60, 3) := by decide +kernel
theorem dX5_hum_32 : decode cX5_hum 32 = .ok (.ifCond .ne 5, 3) := by decide +kernel
theorem dX5_hum_35 : decode cX5_hum 35 = .ok (.iconst 0, 1) := by decide +kernel
theorem dX5_hum_36 : decode cX5_hum 36 = .ok (.ireturn, 1) := by decide +kernel
theorem dX5_hum_37 : decode cX5_hum 37 = .ok (.aload_n 0, 1) := by decide +kernel
theorem dX5_hum_38 : decode cX5_hum 38 = .ok (.getfield 23, 3) := by decide +kernel
theorem dX5_hum_41 : decode cX5_hum 41 = .ok (.aload_n 0, 1) := by decide +kernel
theorem dX5_hum_42 : decode cX5_hum 42 = .ok (.getfield 81, 3) := by decide +kernel
theorem dX5_hum_45 : decode cX5_hum 45 = .ok (.iload_n 1, 1) := by decide +kernel
theorem dX5_hum_46 : decode cX5_hum 46 = .ok (.iastore, 1) := by decide +kernel
theorem dX5_hum_47 : decode cX5_hum 47 = .ok (.aload_n 0, 1) := by decide +kernel
theorem dX5_hum_48 : decode cX5_hum 48 = .ok (.dup, 1) := by decide +kernel
theorem dX5_hum_49 : decode cX5_hum 49 = .ok (.getfield 81, 3) := by decide +kernel
theorem dX5_hum_52 : decode cX5_hum 52 = .ok (.iconst 1, 1) := by decide +kernel
theorem dX5_hum_53 : decode cX5_hum 53 = .ok (.iadd, 1) := by decide +kernel
theorem dX5_hum_54 : decode cX5_hum 54 = .ok (.putfield 81, 3) := by decide +kernel
theorem dX5_hum_57 : decode cX5_hum 57 = .ok (.aload_n 0, 1) := by decide +kernel
theorem dX5_hum_58 : decode cX5_hum 58 = .ok (.getfield 81, 3) := by decide +kernel
theorem dX5_hum_61 : decode cX5_hum 61 = .ok (.ireturn, 1) := by decide +kernel
theorem dX5_hush_0 : decode cX5_hush 0 = .ok (.aload_n 0, 1) := by decide +kernel
theorem dX5_hush_1 : decode cX5_hush 1 = .ok (.iconst 0, 1) := by decide +kernel
theorem dX5_hush_2 : decode cX5_hush 2 = .ok (.putfield 42, 3) := by decide +kernel
theorem dX5_hush_5 : decode cX5_hush 5 = .ok (.aload_n 0, 1) := by decide +kernel
theorem dX5_hush_6 : decode cX5_hush 6 = .ok (.getfield 81, 3) := by decide +kernel
theorem dX5_hush_9 : decode cX5_hush 9 = .ok (.istore_n 1, 1) := by decide +kernel
theorem dX5_hush_10 : decode cX5_hush 10 = .ok (.aload_n 0, 1) := by decide +kernel
theorem dX5_hush_11 : decode cX5_hush 11 = .ok (.iconst 0, 1) := by decide +kernel
theorem dX5_hush_12 : decode cX5_hush 12 = .ok (.putfield 81, 3) := by decide +kernel
theorem dX5_hush_15 : decode cX5_hush 15 = .ok (.iload_n 1, 1) := by decide +kernel
theorem dX5_hush_16 : decode cX5_hush 16 = .ok (.ireturn, 1) := by decide +kernel
theorem dX5_hummed_0 : decode cX5_hummed 0 = .ok (.aload_n 0, 1) := by decide +kernel
theorem dX5_hummed_1 : decode cX5_hummed 1 = .ok (.iconst 0, 1) := by decide +kernel
theorem dX5_hummed_2 : decode cX5_hummed 2 = .ok (.putfield 42, 3) := by decide +kernel
theorem dX5_hummed_5 : decode cX5_hummed 5 = .ok (.aload_n 0, 1) := by decide +kernel
theorem dX5_hummed_6 : decode cX5_hummed 6 = .ok (.getfield 81, 3) := by decide +kernel
theorem dX5_hummed_9 : decode cX5_hummed 9 = .ok (.ireturn, 1) := by decide +kernel
theorem dX5_setCosts_0 : decode cX5_setCosts 0 = .ok (.aload_n 0, 1) := by decide +kernel
theorem dX5_setCosts_1 : decode cX5_setCosts 1 = .ok (.iload_n 1, 1) := by decide +kernel
theorem dX5_setCosts_2 : decode cX5_setCosts 2 = .ok (.iconst 0, 1) := by decide +kernel
theorem dX5_setCosts_3 : decode cX5_setCosts 3 = .ok (.bipush 20, 2) := by decide +kernel
theorem dX5_setCosts_5 : decode cX5_setCosts 5 = .ok (.invokestatic 48, 3) := by decide +kernel
theorem dX5_setCosts_8 : decode cX5_setCosts 8 = .ok (.ifCond .eq 27, 3) := by decide +kernel
theorem dX5_setCosts_11 : decode cX5_setCosts 11 = .ok (.iload_n 2, 1) := by decide +kernel
theorem dX5_setCosts_12 : decode cX5_setCosts 12 = .ok (.iconst 0, 1) := by decide +kernel
theorem dX5_setCosts_13 : decode cX5_setCosts 13 = .ok (.bipush 20, 2) := by decide +kernel
theorem dX5_setCosts_15 : decode cX5_setCosts 15 = .ok (.invokestatic 48, 3) := by decide +kernel
theorem dX5_setCosts_18 : decode cX5_setCosts 18 = .ok (.ifCond .eq 17, 3) := by decide +kernel
theorem dX5_setCosts_21 : decode cX5_setCosts 21 = .ok (.iload_n 3, 1) := by decide +kernel
theorem dX5_setCosts_22 : decode cX5_setCosts 22 = .ok (.iconst 0, 1) := by decide +kernel
theorem dX5_setCosts_23 : decode cX5_setCosts 23 = .ok (.bipush 20, 2) := by decide +kernel
theorem dX5_setCosts_25 : decode cX5_setCosts 25 = .ok (.invokestatic 48, 3) := by decide +kernel
theorem dX5_setCosts_28 : decode cX5_setCosts 28 = .ok (.ifCond .eq 7, 3) := by decide +kernel
theorem dX5_setCosts_31 : decode cX5_setCosts 31 = .ok (.iconst 0, 1) := by decide +kernel
theorem dX5_setCosts_32 : decode cX5_setCosts 32 = .ok (.goto 4, 3) := by decide +kernel
theorem dX5_setCosts_35 : decode cX5_setCosts 35 = .ok (.iconst 1, 1) := by decide +kernel
theorem dX5_setCosts_36 : decode cX5_setCosts 36 = .ok (.invokevirtual 60, 3) := by decide +kernel
theorem dX5_setCosts_39 : decode cX5_setCosts 39 = .ok (.ifCond .eq 18, 3) := by decide +kernel
theorem dX5_setCosts_42 : decode cX5_setCosts 42 = .ok (.aload_n 0, 1) := by decide +kernel
theorem dX5_setCosts_43 : decode cX5_setCosts 43 = .ok (.iload_n 1, 1) := by decide +kernel
theorem dX5_setCosts_44 : decode cX5_setCosts 44 = .ok (.putfield 26, 3) := by decide +kernel
theorem dX5_setCosts_47 : decode cX5_setCosts 47 = .ok (.aload_n 0, 1) := by decide +kernel
theorem dX5_setCosts_48 : decode cX5_setCosts 48 = .ok (.iload_n 2, 1) := by decide +kernel
theorem dX5_setCosts_49 : decode cX5_setCosts 49 = .ok (.putfield 30, 3) := by decide +kernel
theorem dX5_setCosts_52 : decode cX5_setCosts 52 = .ok (.aload_n 0, 1) := by decide +kernel
theorem dX5_setCosts_53 : decode cX5_setCosts 53 = .ok (.iload_n 3, 1) := by decide +kernel
theorem dX5_setCosts_54 : decode cX5_setCosts 54 = .ok (.putfield 33, 3) := by decide +kernel
theorem dX5_setCosts_57 : decode cX5_setCosts 57 = .ok (.return_, 1) := by decide +kernel
theorem dX5_costOfNotes_0 : decode cX5_costOfNotes 0 = .ok (.iconst 0, 1) := by decide +kernel
theorem dX5_costOfNotes_1 : decode cX5_costOfNotes 1 = .ok (.istore 4, 2) := by decide +kernel
theorem dX5_costOfNotes_3 : decode cX5_costOfNotes 3 = .ok (.iload_n 2, 1) := by decide +kernel
theorem dX5_costOfNotes_4 : decode cX5_costOfNotes 4 = .ok (.iconst 1, 1) := by decide +kernel
theorem dX5_costOfNotes_5 : decode cX5_costOfNotes 5 = .ok (.iadd, 1) := by decide +kernel
theorem dX5_costOfNotes_6 : decode cX5_costOfNotes 6 = .ok (.istore 5, 2) := by decide +kernel
theorem dX5_costOfNotes_8 : decode cX5_costOfNotes 8 = .ok (.iload 5, 2) := by decide +kernel
theorem dX5_costOfNotes_10 : decode cX5_costOfNotes 10 = .ok (.iload_n 3, 1) := by decide +kernel
theorem dX5_costOfNotes_11 : decode cX5_costOfNotes 11 = .ok (.if_icmp .ge 31, 3) := by decide +kernel
theorem dX5_costOfNotes_14 : decode cX5_costOfNotes 14 = .ok (.iload 4, 2) := by decide +kernel
theorem dX5_costOfNotes_16 : decode cX5_costOfNotes 16 = .ok (.aload_n 0, 1) := by decide +kernel
theorem dX5_costOfNotes_17 : decode cX5_costOfNotes 17 = .ok (.getfield 30, 3) := by decide +kernel
theorem dX5_costOfNotes_20 : decode cX5_costOfNotes 20 = .ok (.aload_n 0, 1) := by decide +kernel
theorem dX5_costOfNotes_21 : decode cX5_costOfNotes 21 = .ok (.getfield 13, 3) := by decide +kernel
theorem dX5_costOfNotes_24 : decode cX5_costOfNotes 24 = .ok (.bipush 24, 2) := by decide +kernel
theorem dX5_costOfNotes_26 : decode cX5_costOfNotes 26 = .ok (.iload_n 1, 1) := by decide +kernel
theorem dX5_costOfNotes_27 : decode cX5_costOfNotes 27 = .ok (.imul, 1) := by decide +kernel
theorem dX5_costOfNotes_28 : decode cX5_costOfNotes 28 = .ok (.iload 5, 2) := by decide +kernel
theorem dX5_costOfNotes_30 : decode cX5_costOfNotes 30 = .ok (.iadd, 1) := by decide +kernel
theorem dX5_costOfNotes_31 : decode cX5_costOfNotes 31 = .ok (.iaload, 1) := by decide +kernel
theorem dX5_costOfNotes_32 : decode cX5_costOfNotes 32 = .ok (.imul, 1) := by decide +kernel
theorem dX5_costOfNotes_33 : decode cX5_costOfNotes 33 = .ok (.iadd, 1) := by decide +kernel
theorem dX5_costOfNotes_34 : decode cX5_costOfNotes 34 = .ok (.istore 4, 2) := by decide +kernel
theorem dX5_costOfNotes_36 : decode cX5_costOfNotes 36 = .ok (.iinc 5 1, 3) := by decide +kernel
theorem dX5_costOfNotes_39 : decode cX5_costOfNotes 39 = .ok (.goto (-31), 3) := by decide +kernel
theorem dX5_costOfNotes_42 : decode cX5_costOfNotes 42 = .ok (.iload 4, 2) := by decide +kernel
theorem dX5_costOfNotes_44 : decode cX5_costOfNotes 44 = .ok (.ireturn, 1) := by decide +kernel
theorem dX5_costOfPitches_0 : decode cX5_costOfPitches 0 = .ok (.iconst 0, 1) := by decide +kernel
theorem dX5_costOfPitches_1 : decode cX5_costOfPitches 1 = .ok (.istore_n 3, 1) := by decide +kernel
theorem dX5_costOfPitches_2 : decode cX5_costOfPitches 2 = .ok (.iload_n 1, 1) := by decide +kernel
theorem dX5_costOfPitches_3 : decode cX5_costOfPitches 3 = .ok (.iconst 1, 1) := by decide +kernel
theorem dX5_costOfPitches_4 : decode cX5_costOfPitches 4 = .ok (.iadd, 1) := by decide +kernel
theorem dX5_costOfPitches_5 : decode cX5_costOfPitches 5 = .ok (.istore 4, 2) := by decide +kernel
theorem dX5_costOfPitches_7 : decode cX5_costOfPitches 7 = .ok (.iload 4, 2) := by decide +kernel
theorem dX5_costOfPitches_9 : decode cX5_costOfPitches 9 = .ok (.iload_n 2, 1) := by decide +kernel
theorem dX5_costOfPitches_10 : decode cX5_costOfPitches 10 = .ok (.if_icmp .ge 44, 3) := by decide +kernel
theorem dX5_costOfPitches_13 : decode cX5_costOfPitches 13 = .ok (.iload_n 3, 1) := by decide +kernel
theorem dX5_costOfPitches_14 : decode cX5_costOfPitches 14 = .ok (.aload_n 0, 1) := by decide +kernel
theorem dX5_costOfPitches_15 : decode cX5_costOfPitches 15 = .ok (.getfield 23, 3) := by decide +kernel
theorem dX5_costOfPitches_18 : decode cX5_costOfPitches 18 = .ok (.iload 4, 2) := by decide +kernel
theorem dX5_costOfPitches_20 : decode cX5_costOfPitches 20 = .ok (.iaload, 1) := by decide +kernel
theorem dX5_costOfPitches_21 : decode cX5_costOfPitches 21 = .ok (.aload_n 0, 1) := by decide +kernel
theorem dX5_costOfPitches_22 : decode cX5_costOfPitches 22 = .ok (.getfield 23, 3) := by decide +kernel
theorem dX5_costOfPitches_25 : decode cX5_costOfPitches 25 = .ok (.iload 4, 2) := by decide +kernel
theorem dX5_costOfPitches_27 : decode cX5_costOfPitches 27 = .ok (.iconst 1, 1) := by decide +kernel
theorem dX5_costOfPitches_28 : decode cX5_costOfPitches 28 = .ok (.isub, 1) := by decide +kernel
theorem dX5_costOfPitches_29 : decode cX5_costOfPitches 29 = .ok (.iaload, 1) := by decide +kernel
theorem dX5_costOfPitches_30 : decode cX5_costOfPitches 30 = .ok (.if_icmp .ne 10, 3) := by decide +kernel
theorem dX5_costOfPitches_33 : decode cX5_costOfPitches 33 = .ok (.aload_n 0, 1) := by decide +kernel
theorem dX5_costOfPitches_34 : decode cX5_costOfPitches 34 = .ok (.getfield 33, 3) := by decide +kernel
theorem dX5_costOfPitches_37 : decode cX5_costOfPitches 37 = .ok (.goto 9, 3) := by decide +kernel
theorem dX5_costOfPitches_40 : decode cX5_costOfPitches 40 = .ok (.iconst 3, 1) := by decide +kernel
theorem dX5_costOfPitches_41 : decode cX5_costOfPitches 41 = .ok (.aload_n 0, 1) := by decide +kernel
theorem dX5_costOfPitches_42 : decode cX5_costOfPitches 42 = .ok (.getfield 33, 3) := by decide +kernel
theorem dX5_costOfPitches_45 : decode cX5_costOfPitches 45 = .ok (.imul, 1) := by decide +kernel
theorem dX5_costOfPitches_46 : decode cX5_costOfPitches 46 = .ok (.iadd, 1) := by decide +kernel
theorem dX5_costOfPitches_47 : decode cX5_costOfPitches 47 = .ok (.istore_n 3, 1) := by decide +kernel
theorem dX5_costOfPitches_48 : decode cX5_costOfPitches 48 = .ok (.iinc 4 1, 3) := by decide +kernel
theorem dX5_costOfPitches_51 : decode cX5_costOfPitches 51 = .ok (.goto (-44), 3) := by decide +kernel
theorem dX5_costOfPitches_54 : decode cX5_costOfPitches 54 = .ok (.iload_n 3, 1) := by decide +kernel
theorem dX5_costOfPitches_55 : decode cX5_costOfPitches 55 = .ok (.ireturn, 1) := by decide +kernel
theorem dX5_laid_0 : decode cX5_laid 0 = .ok (.iload 4, 2) := by decide +kernel
theorem dX5_laid_2 : decode cX5_laid 2 = .ok (.ifCond .lt 26, 3) := by decide +kernel
theorem dX5_laid_5 : decode cX5_laid 5 = .ok (.iload 5, 2) := by decide +kernel
theorem dX5_laid_7 : decode cX5_laid 7 = .ok (.ifCond .lt 21, 3) := by decide +kernel
theorem dX5_laid_10 : decode cX5_laid 10 = .ok (.aload_n 0, 1) := by decide +kernel
theorem dX5_laid_11 : decode cX5_laid 11 = .ok (.getfield 36, 3) := by decide +kernel
theorem dX5_laid_14 : decode cX5_laid 14 = .ok (.bipush 24, 2) := by decide +kernel
theorem dX5_laid_16 : decode cX5_laid 16 = .ok (.iload 4, 2) := by decide +kernel
theorem dX5_laid_18 : decode cX5_laid 18 = .ok (.imul, 1) := by decide +kernel
theorem dX5_laid_19 : decode cX5_laid 19 = .ok (.iload 5, 2) := by decide +kernel
theorem dX5_laid_21 : decode cX5_laid 21 = .ok (.iadd, 1) := by decide +kernel
theorem dX5_laid_22 : decode cX5_laid 22 = .ok (.iaload, 1) := by decide +kernel
theorem dX5_laid_23 : decode cX5_laid 23 = .ok (.ldc 84, 2) := by decide +kernel
theorem dX5_laid_25 : decode cX5_laid 25 = .ok (.if_icmp .ne 6, 3) := by decide +kernel
theorem dX5_laid_28 : decode cX5_laid 28 = .ok (.ldc 84, 2) := by decide +kernel
theorem dX5_laid_30 : decode cX5_laid 30 = .ok (.ireturn, 1) := by decide +kernel
theorem dX5_laid_31 : decode cX5_laid 31 = .ok (.aload_n 0, 1) := by decide +kernel
theorem dX5_laid_32 : decode cX5_laid 32 = .ok (.getfield 7, 3) := by decide +kernel
theorem dX5_laid_35 : decode cX5_laid 35 = .ok (.bipush 24, 2) := by decide +kernel
theorem dX5_laid_37 : decode cX5_laid 37 = .ok (.iload_n 1, 1) := by decide +kernel
theorem dX5_laid_38 : decode cX5_laid 38 = .ok (.imul, 1) := by decide +kernel
theorem dX5_laid_39 : decode cX5_laid 39 = .ok (.iload_n 3, 1) := by decide +kernel
theorem dX5_laid_40 : decode cX5_laid 40 = .ok (.iadd, 1) := by decide +kernel
theorem dX5_laid_41 : decode cX5_laid 41 = .ok (.iaload, 1) := by decide +kernel
theorem dX5_laid_42 : decode cX5_laid 42 = .ok (.aload_n 0, 1) := by decide +kernel
theorem dX5_laid_43 : decode cX5_laid 43 = .ok (.getfield 7, 3) := by decide +kernel
theorem dX5_laid_46 : decode cX5_laid 46 = .ok (.bipush 24, 2) := by decide +kernel
theorem dX5_laid_48 : decode cX5_laid 48 = .ok (.iload_n 1, 1) := by decide +kernel
theorem dX5_laid_49 : decode cX5_laid 49 = .ok (.imul, 1) := by decide +kernel
theorem dX5_laid_50 : decode cX5_laid 50 = .ok (.iload 5, 2) := by decide +kernel
theorem dX5_laid_52 : decode cX5_laid 52 = .ok (.iadd, 1) := by decide +kernel
theorem dX5_laid_53 : decode cX5_laid 53 = .ok (.iaload, 1) := by decide +kernel
theorem dX5_laid_54 : decode cX5_laid 54 = .ok (.isub, 1) := by decide +kernel
theorem dX5_laid_55 : decode cX5_laid 55 = .ok (.aload_n 0, 1) := by decide +kernel
theorem dX5_laid_56 : decode cX5_laid 56 = .ok (.getfield 23, 3) := by decide +kernel
theorem dX5_laid_59 : decode cX5_laid 59 = .ok (.iload_n 2, 1) := by decide +kernel
theorem dX5_laid_60 : decode cX5_laid 60 = .ok (.iaload, 1) := by decide +kernel
theorem dX5_laid_61 : decode cX5_laid 61 = .ok (.isub, 1) := by decide +kernel
theorem dX5_laid_62 : decode cX5_laid 62 = .ok (.aload_n 0, 1) := by decide +kernel
theorem dX5_laid_63 : decode cX5_laid 63 = .ok (.getfield 23, 3) := by decide +kernel
theorem dX5_laid_66 : decode cX5_laid 66 = .ok (.iload 4, 2) := by decide +kernel
theorem dX5_laid_68 : decode cX5_laid 68 = .ok (.iaload, 1) := by decide +kernel
theorem dX5_laid_69 : decode cX5_laid 69 = .ok (.iadd, 1) := by decide +kernel
theorem dX5_laid_70 : decode cX5_laid 70 = .ok (.istore 6, 2) := by decide +kernel
theorem dX5_laid_72 : decode cX5_laid 72 = .ok (.aload_n 0, 1) := by decide +kernel
theorem dX5_laid_73 : decode cX5_laid 73 = .ok (.getfield 36, 3) := by decide +kernel
theorem dX5_laid_76 : decode cX5_laid 76 = .ok (.bipush 24, 2) := by decide +kernel
theorem dX5_laid_78 : decode cX5_laid 78 = .ok (.iload 4, 2) := by decide +kernel
theorem dX5_laid_80 : decode cX5_laid 80 = .ok (.imul, 1) := by decide +kernel
theorem dX5_laid_81 : decode cX5_laid 81 = .ok (.iload 5, 2) := by decide +kernel
theorem dX5_laid_83 : decode cX5_laid 83 = .ok (.iadd, 1) := by decide +kernel
theorem dX5_laid_84 : decode cX5_laid 84 = .ok (.iaload, 1) := by decide +kernel
theorem dX5_laid_85 : decode cX5_laid 85 = .ok (.aload_n 0, 1) := by decide +kernel
theorem dX5_laid_86 : decode cX5_laid 86 = .ok (.getfield 26, 3) := by decide +kernel
theorem dX5_laid_89 : decode cX5_laid 89 = .ok (.iload 6, 2) := by decide +kernel
theorem dX5_laid_91 : decode cX5_laid 91 = .ok (.ifCond .ge 9, 3) := by decide +kernel
theorem dX5_laid_94 : decode cX5_laid 94 = .ok (.iload 6, 2) := by decide +kernel
theorem dX5_laid_96 : decode cX5_laid 96 = .ok (.ineg, 1) := by decide +kernel
theorem dX5_laid_97 : decode cX5_laid 97 = .ok (.goto 5, 3) := by decide +kernel
theorem dX5_laid_100 : decode cX5_laid 100 = .ok (.iload 6, 2) := by decide +kernel
theorem dX5_laid_102 : decode cX5_laid 102 = .ok (.imul, 1) := by decide +kernel
theorem dX5_laid_103 : decode cX5_laid 103 = .ok (.iadd, 1) := by decide +kernel
theorem dX5_laid_104 : decode cX5_laid 104 = .ok (.aload_n 0, 1) := by decide +kernel
theorem dX5_laid_105 : decode cX5_laid 105 = .ok (.iload_n 1, 1) := by decide +kernel
theorem dX5_laid_106 : decode cX5_laid 106 = .ok (.iload 5, 2) := by decide +kernel
theorem dX5_laid_108 : decode cX5_laid 108 = .ok (.iload_n 3, 1) := by decide +kernel
theorem dX5_laid_109 : decode cX5_laid 109 = .ok (.invokevirtual 85, 3) := by decide +kernel
theorem dX5_laid_112 : decode cX5_laid 112 = .ok (.iadd, 1) := by decide +kernel
theorem dX5_laid_113 : decode cX5_laid 113 = .ok (.aload_n 0, 1) := by decide +kernel
theorem dX5_laid_114 : decode cX5_laid 114 = .ok (.iload 4, 2) := by decide +kernel
theorem dX5_laid_116 : decode cX5_laid 116 = .ok (.iload_n 2, 1) := by decide +kernel
theorem dX5_laid_117 : decode cX5_laid 117 = .ok (.invokevirtual 89, 3) := by decide +kernel
theorem dX5_laid_120 : decode cX5_laid 120 = .ok (.iadd, 1) := by decide +kernel
theorem dX5_laid_121 : decode cX5_laid 121 = .ok (.ireturn, 1) := by decide +kernel
theorem dX5_least_0 : decode cX5_least 0 = .ok (.iload_n 0, 1) := by decide +kernel
theorem dX5_least_1 : decode cX5_least 1 = .ok (.iload_n 1, 1) := by decide +kernel
theorem dX5_least_2 : decode cX5_least 2 = .ok (.if_icmp .ge 7, 3) := by decide +kernel
theorem dX5_least_5 : decode cX5_least 5 = .ok (.iload_n 0, 1) := by decide +kernel
theorem dX5_least_6 : decode cX5_least 6 = .ok (.goto 4, 3) := by decide +kernel
theorem dX5_least_9 : decode cX5_least 9 = .ok (.iload_n 1, 1) := by decide +kernel
theorem dX5_least_10 : decode cX5_least 10 = .ok (.ireturn, 1) := by decide +kernel
theorem dX5_costOf_0 : decode cX5_costOf 0 = .ok (.ldc 84, 2) := by decide +kernel
theorem dX5_costOf_2 : decode cX5_costOf 2 = .ok (.istore_n 2, 1) := by decide +kernel
theorem dX5_costOf_3 : decode cX5_costOf 3 = .ok (.iconst 0, 1) := by decide +kernel
theorem dX5_costOf_4 : decode cX5_costOf 4 = .ok (.istore_n 3, 1) := by decide +kernel
theorem dX5_costOf_5 : decode cX5_costOf 5 = .ok (.iload_n 3, 1) := by decide +kernel
theorem dX5_costOf_6 : decode cX5_costOf 6 = .ok (.bipush 24, 2) := by decide +kernel
theorem dX5_costOf_8 : decode cX5_costOf 8 = .ok (.aload_n 0, 1) := by decide +kernel
theorem dX5_costOf_9 : decode cX5_costOf 9 = .ok (.getfield 81, 3) := by decide +kernel
theorem dX5_costOf_12 : decode cX5_costOf 12 = .ok (.imul, 1) := by decide +kernel
theorem dX5_costOf_13 : decode cX5_costOf 13 = .ok (.if_icmp .ge 163, 3) := by decide +kernel
theorem dX5_costOf_16 : decode cX5_costOf 16 = .ok (.iload_n 3, 1) := by decide +kernel
theorem dX5_costOf_17 : decode cX5_costOf 17 = .ok (.bipush 24, 2) := by decide +kernel
theorem dX5_costOf_19 : decode cX5_costOf 19 = .ok (.idiv, 1) := by decide +kernel
theorem dX5_costOf_20 : decode cX5_costOf 20 = .ok (.istore 4, 2) := by decide +kernel
theorem dX5_costOf_22 : decode cX5_costOf 22 = .ok (.iload_n 3, 1) := by decide +kernel
theorem dX5_costOf_23 : decode cX5_costOf 23 = .ok (.bipush 24, 2) := by decide +kernel
theorem dX5_costOf_25 : decode cX5_costOf 25 = .ok (.irem, 1) := by decide +kernel
theorem dX5_costOf_26 : decode cX5_costOf 26 = .ok (.istore 5, 2) := by decide +kernel
theorem dX5_costOf_28 : decode cX5_costOf 28 = .ok (.aload_n 0, 1) := by decide +kernel
theorem dX5_costOf_29 : decode cX5_costOf 29 = .ok (.getfield 36, 3) := by decide +kernel
theorem dX5_costOf_32 : decode cX5_costOf 32 = .ok (.iload_n 3, 1) := by decide +kernel
theorem dX5_costOf_33 : decode cX5_costOf 33 = .ok (.iload_n 3, 1) := by decide +kernel
theorem dX5_costOf_34 : decode cX5_costOf 34 = .ok (.ifCond .ne 7, 3) := by decide +kernel
theorem dX5_costOf_37 : decode cX5_costOf 37 = .ok (.iconst 0, 1) := by decide +kernel
theorem dX5_costOf_38 : decode cX5_costOf 38 = .ok (.goto 5, 3) := by decide +kernel
theorem dX5_costOf_41 : decode cX5_costOf 41 = .ok (.ldc 84, 2) := by decide +kernel
theorem dX5_costOf_43 : decode cX5_costOf 43 = .ok (.iastore, 1) := by decide +kernel
theorem dX5_costOf_44 : decode cX5_costOf 44 = .ok (.iconst 0, 1) := by decide +kernel
theorem dX5_costOf_45 : decode cX5_costOf 45 = .ok (.istore 6, 2) := by decide +kernel
theorem dX5_costOf_47 : decode cX5_costOf 47 = .ok (.iload 6, 2) := by decide +kernel
theorem dX5_costOf_49 : decode cX5_costOf 49 = .ok (.iconst 2, 1) := by decide +kernel
theorem dX5_costOf_50 : decode cX5_costOf 50 = .ok (.if_icmp .gt 94, 3) := by decide +kernel
theorem dX5_costOf_53 : decode cX5_costOf 53 = .ok (.iload 5, 2) := by decide +kernel
theorem dX5_costOf_55 : decode cX5_costOf 55 = .ok (.aload_n 0, 1) := by decide +kernel
theorem dX5_costOf_56 : decode cX5_costOf 56 = .ok (.getfield 16, 3) := by decide +kernel
theorem dX5_costOf_59 : decode cX5_costOf 59 = .ok (.iload_n 1, 1) := by decide +kernel
theorem dX5_costOf_60 : decode cX5_costOf 60 = .ok (.iaload, 1) := by decide +kernel
theorem dX5_costOf_61 : decode cX5_costOf 61 = .ok (.if_icmp .ge 83, 3) := by decide +kernel
theorem dX5_costOf_64 : decode cX5_costOf 64 = .ok (.iload_n 3, 1) := by decide +kernel
theorem dX5_costOf_65 : decode cX5_costOf 65 = .ok (.ifCond .le 79, 3) := by decide +kernel
theorem dX5_costOf_68 : decode cX5_costOf 68 = .ok (.aload_n 0, 1) := by decide +kernel
theorem dX5_costOf_69 : decode cX5_costOf 69 = .ok (.getfield 36, 3) := by decide +kernel
theorem dX5_costOf_72 : decode cX5_costOf 72 = .ok (.iload_n 3, 1) := by decide +kernel
theorem dX5_costOf_73 : decode cX5_costOf 73 = .ok (.aload_n 0, 1) := by decide +kernel
theorem dX5_costOf_74 : decode cX5_costOf 74 = .ok (.getfield 36, 3) := by decide +kernel
theorem dX5_costOf_77 : decode cX5_costOf 77 = .ok (.iload_n 3, 1) := by decide +kernel
theorem dX5_costOf_78 : decode cX5_costOf 78 = .ok (.iaload, 1) := by decide +kernel
theorem dX5_costOf_79 : decode cX5_costOf 79 = .ok (.aload_n 0, 1) := by decide +kernel
theorem dX5_costOf_80 : decode cX5_costOf 80 = .ok (.iload_n 1, 1) := by decide +kernel
theorem dX5_costOf_81 : decode cX5_costOf 81 = .ok (.iload 4, 2) := by decide +kernel
theorem dX5_costOf_83 : decode cX5_costOf 83 = .ok (.iload 5, 2) := by decide +kernel
theorem dX5_costOf_85 : decode cX5_costOf 85 = .ok (.iload 4, 2) := by decide +kernel
theorem dX5_costOf_87 : decode cX5_costOf 87 = .ok (.iconst 1, 1) := by decide +kernel
theorem dX5_costOf_88 : decode cX5_costOf 88 = .ok (.isub, 1) := by decide +kernel
theorem dX5_costOf_89 : decode cX5_costOf 89 = .ok (.iload 6, 2) := by decide +kernel
theorem dX5_costOf_91 : decode cX5_costOf 91 = .ok (.isub, 1) := by decide +kernel
theorem dX5_costOf_92 : decode cX5_costOf 92 = .ok (.iload 5, 2) := by decide +kernel
theorem dX5_costOf_94 : decode cX5_costOf 94 = .ok (.iconst 1, 1) := by decide +kernel
theorem dX5_costOf_95 : decode cX5_costOf 95 = .ok (.isub, 1) := by decide +kernel
theorem dX5_costOf_96 : decode cX5_costOf 96 = .ok (.invokevirtual 92, 3) := by decide +kernel
theorem dX5_costOf_99 : decode cX5_costOf 99 = .ok (.invokestatic 96, 3) := by decide +kernel
theorem dX5_costOf_102 : decode cX5_costOf 102 = .ok (.iastore, 1) := by decide +kernel
theorem dX5_costOf_103 : decode cX5_costOf 103 = .ok (.aload_n 0, 1) := by decide +kernel
theorem dX5_costOf_104 : decode cX5_costOf 104 = .ok (.getfield 36, 3) := by decide +kernel
theorem dX5_costOf_107 : decode cX5_costOf 107 = .ok (.iload_n 3, 1) := by decide +kernel
theorem dX5_costOf_108 : decode cX5_costOf 108 = .ok (.aload_n 0, 1) := by decide +kernel
theorem dX5_costOf_109 : decode cX5_costOf 109 = .ok (.getfield 36, 3) := by decide +kernel
theorem dX5_costOf_112 : decode cX5_costOf 112 = .ok (.iload_n 3, 1) := by decide +kernel
theorem dX5_costOf_113 : decode cX5_costOf 113 = .ok (.iaload, 1) := by decide +kernel
theorem dX5_costOf_114 : decode cX5_costOf 114 = .ok (.aload_n 0, 1) := by decide +kernel
theorem dX5_costOf_115 : decode cX5_costOf 115 = .ok (.iload_n 1, 1) := by decide +kernel
theorem dX5_costOf_116 : decode cX5_costOf 116 = .ok (.iload 4, 2) := by decide +kernel
theorem dX5_costOf_118 : decode cX5_costOf 118 = .ok (.iload 5, 2) := by decide +kernel
theorem dX5_costOf_120 : decode cX5_costOf 120 = .ok (.iload 4, 2) := by decide +kernel
theorem dX5_costOf_122 : decode cX5_costOf 122 = .ok (.iconst 1, 1) := by decide +kernel
theorem dX5_costOf_123 : decode cX5_costOf 123 = .ok (.isub, 1) := by decide +kernel
theorem dX5_costOf_124 : decode cX5_costOf 124 = .ok (.iload 5, 2) := by decide +kernel
theorem dX5_costOf_126 : decode cX5_costOf 126 = .ok (.iconst 1, 1) := by decide +kernel
theorem dX5_costOf_127 : decode cX5_costOf 127 = .ok (.isub, 1) := by decide +kernel
theorem dX5_costOf_128 : decode cX5_costOf 128 = .ok (.iload 6, 2) := by decide +kernel
theorem dX5_costOf_130 : decode cX5_costOf 130 = .ok (.isub, 1) := by decide +kernel
theorem dX5_costOf_131 : decode cX5_costOf 131 = .ok (.invokevirtual 92, 3) := by decide +kernel
theorem dX5_costOf_134 : decode cX5_costOf 134 = .ok (.invokestatic 96, 3) := by decide +kernel
theorem dX5_costOf_137 : decode cX5_costOf 137 = .ok (.iastore, 1) := by decide +kernel
theorem dX5_costOf_138 : decode cX5_costOf 138 = .ok (.iinc 6 1, 3) := by decide +kernel
theorem dX5_costOf_141 : decode cX5_costOf 141 = .ok (.goto (-94), 3) := by decide +kernel
theorem dX5_costOf_144 : decode cX5_costOf 144 = .ok (.iload 4, 2) := by decide +kernel
theorem dX5_costOf_146 : decode cX5_costOf 146 = .ok (.aload_n 0, 1) := by decide +kernel
theorem dX5_costOf_147 : decode cX5_costOf 147 = .ok (.getfield 81, 3) := by decide +kernel
theorem dX5_costOf_150 : decode cX5_costOf 150 = .ok (.iconst 1, 1) := by decide +kernel
theorem dX5_costOf_151 : decode cX5_costOf 151 = .ok (.isub, 1) := by decide +kernel
theorem dX5_costOf_152 : decode cX5_costOf 152 = .ok (.if_icmp .ne 16, 3) := by decide +kernel
theorem dX5_costOf_155 : decode cX5_costOf 155 = .ok (.iload_n 2, 1) := by decide +kernel
theorem dX5_costOf_156 : decode cX5_costOf 156 = .ok (.aload_n 0, 1) := by decide +kernel
theorem dX5_costOf_157 : decode cX5_costOf 157 = .ok (.getfield 36, 3) := by decide +kernel
theorem dX5_costOf_160 : decode cX5_costOf 160 = .ok (.iload_n 3, 1) := by decide +kernel
theorem dX5_costOf_161 : decode cX5_costOf 161 = .ok (.iaload, 1) := by decide +kernel
theorem dX5_costOf_162 : decode cX5_costOf 162 = .ok (.invokestatic 96, 3) := by decide +kernel
theorem dX5_costOf_165 : decode cX5_costOf 165 = .ok (.goto 4, 3) := by decide +kernel
theorem dX5_costOf_168 : decode cX5_costOf 168 = .ok (.iload_n 2, 1) := by decide +kernel
theorem dX5_costOf_169 : decode cX5_costOf 169 = .ok (.istore_n 2, 1) := by decide +kernel
theorem dX5_costOf_170 : decode cX5_costOf 170 = .ok (.iinc 3 1, 3) := by decide +kernel
theorem dX5_costOf_173 : decode cX5_costOf 173 = .ok (.goto (-168), 3) := by decide +kernel
theorem dX5_costOf_176 : decode cX5_costOf 176 = .ok (.iload_n 2, 1) := by decide +kernel
theorem dX5_costOf_177 : decode cX5_costOf 177 = .ok (.ldc 84, 2) := by decide +kernel
theorem dX5_costOf_179 : decode cX5_costOf 179 = .ok (.if_icmp .ne 7, 3) := by decide +kernel
theorem dX5_costOf_182 : decode cX5_costOf 182 = .ok (.iconst (-1), 1) := by decide +kernel
theorem dX5_costOf_183 : decode cX5_costOf 183 = .ok (.goto 4, 3) := by decide +kernel
theorem dX5_costOf_186 : decode cX5_costOf 186 = .ok (.iload_n 2, 1) := by decide +kernel
theorem dX5_costOf_187 : decode cX5_costOf 187 = .ok (.ireturn, 1) := by decide +kernel
theorem dX5_cost_0 : decode cX5_cost 0 = .ok (.aload_n 0, 1) := by decide +kernel
theorem dX5_cost_1 : decode cX5_cost 1 = .ok (.aload_n 0, 1) := by decide +kernel
theorem dX5_cost_2 : decode cX5_cost 2 = .ok (.iload_n 1, 1) := by decide +kernel
theorem dX5_cost_3 : decode cX5_cost 3 = .ok (.invokevirtual 67, 3) := by decide +kernel
theorem dX5_cost_6 : decode cX5_cost 6 = .ok (.ifCond .eq 7, 3) := by decide +kernel
theorem dX5_cost_9 : decode cX5_cost 9 = .ok (.iconst 0, 1) := by decide +kernel
theorem dX5_cost_10 : decode cX5_cost 10 = .ok (.goto 4, 3) := by decide +kernel
theorem dX5_cost_13 : decode cX5_cost 13 = .ok (.iconst 1, 1) := by decide +kernel
theorem dX5_cost_14 : decode cX5_cost 14 = .ok (.invokevirtual 60, 3) := by decide +kernel
theorem dX5_cost_17 : decode cX5_cost 17 = .ok (.ifCond .eq 11, 3) := by decide +kernel
theorem dX5_cost_20 : decode cX5_cost 20 = .ok (.aload_n 0, 1) := by decide +kernel
theorem dX5_cost_21 : decode cX5_cost 21 = .ok (.iload_n 1, 1) := by decide +kernel
theorem dX5_cost_22 : decode cX5_cost 22 = .ok (.invokevirtual 99, 3) := by decide +kernel
theorem dX5_cost_25 : decode cX5_cost 25 = .ok (.goto 4, 3) := by decide +kernel
theorem dX5_cost_28 : decode cX5_cost 28 = .ok (.iconst 0, 1) := by decide +kernel
theorem dX5_cost_29 : decode cX5_cost 29 = .ok (.ireturn, 1) := by decide +kernel
theorem dX5_costByAll_0 : decode cX5_costByAll 0 = .ok (.aload_n 0, 1) := by decide +kernel
theorem dX5_costByAll_1 : decode cX5_costByAll 1 = .ok (.aload_n 0, 1) := by decide +kernel
theorem dX5_costByAll_2 : decode cX5_costByAll 2 = .ok (.iload_n 1, 1) := by decide +kernel
theorem dX5_costByAll_3 : decode cX5_costByAll 3 = .ok (.invokevirtual 67, 3) := by decide +kernel
theorem dX5_costByAll_6 : decode cX5_costByAll 6 = .ok (.ifCond .ne 7, 3) := by decide +kernel
theorem dX5_costByAll_9 : decode cX5_costByAll 9 = .ok (.iconst 1, 1) := by decide +kernel
theorem dX5_costByAll_10 : decode cX5_costByAll 10 = .ok (.goto 17, 3) := by decide +kernel
theorem dX5_costByAll_13 : decode cX5_costByAll 13 = .ok (.aload_n 0, 1) := by decide +kernel
theorem dX5_costByAll_14 : decode cX5_costByAll 14 = .ok (.getfield 81, 3) := by decide +kernel
theorem dX5_costByAll_17 : decode cX5_costByAll 17 = .ok (.bipush 8, 2) := by decide +kernel
theorem dX5_costByAll_19 : decode cX5_costByAll 19 = .ok (.if_icmp .le 7, 3) := by decide +kernel
theorem dX5_costByAll_22 : decode cX5_costByAll 22 = .ok (.iconst 2, 1) := by decide +kernel
theorem dX5_costByAll_23 : decode cX5_costByAll 23 = .ok (.goto 4, 3) := by decide +kernel
theorem dX5_costByAll_26 : decode cX5_costByAll 26 = .ok (.iconst 0, 1) := by decide +kernel
theorem dX5_costByAll_27 : decode cX5_costByAll 27 = .ok (.invokevirtual 60, 3) := by decide +kernel
theorem dX5_costByAll_30 : decode cX5_costByAll 30 = .ok (.ifCond .eq 11, 3) := by decide +kernel
theorem dX5_costByAll_33 : decode cX5_costByAll 33 = .ok (.aload_n 0, 1) := by decide +kernel
theorem dX5_costByAll_34 : decode cX5_costByAll 34 = .ok (.iload_n 1, 1) := by decide +kernel
theorem dX5_costByAll_35 : decode cX5_costByAll 35 = .ok (.invokevirtual 99, 3) := by decide +kernel
theorem dX5_costByAll_38 : decode cX5_costByAll 38 = .ok (.goto 4, 3) := by decide +kernel
theorem dX5_costByAll_41 : decode cX5_costByAll 41 = .ok (.iconst 0, 1) := by decide +kernel
theorem dX5_costByAll_42 : decode cX5_costByAll 42 = .ok (.ireturn, 1) := by decide +kernel
theorem dX5_many_0 : decode cX5_many 0 = .ok (.iconst 0, 1) := by decide +kernel
theorem dX5_many_1 : decode cX5_many 1 = .ok (.istore_n 1, 1) := by decide +kernel
theorem dX5_many_2 : decode cX5_many 2 = .ok (.iconst 0, 1) := by decide +kernel
theorem dX5_many_3 : decode cX5_many 3 = .ok (.istore_n 2, 1) := by decide +kernel
theorem dX5_many_4 : decode cX5_many 4 = .ok (.iload_n 2, 1) := by decide +kernel
theorem dX5_many_5 : decode cX5_many 5 = .ok (.aload_n 0, 1) := by decide +kernel
theorem dX5_many_6 : decode cX5_many 6 = .ok (.getfield 45, 3) := by decide +kernel
theorem dX5_many_9 : decode cX5_many 9 = .ok (.if_icmp .ge 34, 3) := by decide +kernel
theorem dX5_many_12 : decode cX5_many 12 = .ok (.iload_n 1, 1) := by decide +kernel
theorem dX5_many_13 : decode cX5_many 13 = .ok (.aload_n 0, 1) := by decide +kernel
theorem dX5_many_14 : decode cX5_many 14 = .ok (.iload_n 2, 1) := by decide +kernel
theorem dX5_many_15 : decode cX5_many 15 = .ok (.invokevirtual 67, 3) := by decide +kernel
theorem dX5_many_18 : decode cX5_many 18 = .ok (.ifCond .eq 16, 3) := by decide +kernel
theorem dX5_many_21 : decode cX5_many 21 = .ok (.aload_n 0, 1) := by decide +kernel
theorem dX5_many_22 : decode cX5_many 22 = .ok (.iload_n 2, 1) := by decide +kernel
theorem dX5_many_23 : decode cX5_many 23 = .ok (.invokevirtual 99, 3) := by decide +kernel
theorem dX5_many_26 : decode cX5_many 26 = .ok (.iconst (-1), 1) := by decide +kernel
theorem dX5_many_27 : decode cX5_many 27 = .ok (.if_icmp .eq 7, 3) := by decide +kernel
theorem dX5_many_30 : decode cX5_many 30 = .ok (.iconst 1, 1) := by decide +kernel
theorem dX5_many_31 : decode cX5_many 31 = .ok (.goto 4, 3) := by decide +kernel
theorem dX5_many_34 : decode cX5_many 34 = .ok (.iconst 0, 1) := by decide +kernel
theorem dX5_many_35 : decode cX5_many 35 = .ok (.iadd, 1) := by decide +kernel
theorem dX5_many_36 : decode cX5_many 36 = .ok (.istore_n 1, 1) := by decide +kernel
theorem dX5_many_37 : decode cX5_many 37 = .ok (.iinc 2 1, 3) := by decide +kernel
theorem dX5_many_40 : decode cX5_many 40 = .ok (.goto (-36), 3) := by decide +kernel
theorem dX5_many_43 : decode cX5_many 43 = .ok (.iload_n 1, 1) := by decide +kernel
theorem dX5_many_44 : decode cX5_many 44 = .ok (.ireturn, 1) := by decide +kernel
theorem dX5_matches_0 : decode cX5_matches 0 = .ok (.aload_n 0, 1) := by decide +kernel
theorem dX5_matches_1 : decode cX5_matches 1 = .ok (.iconst 0, 1) := by decide +kernel
theorem dX5_matches_2 : decode cX5_matches 2 = .ok (.putfield 42, 3) := by decide +kernel
theorem dX5_matches_5 : decode cX5_matches 5 = .ok (.aload_n 0, 1) := by decide +kernel
theorem dX5_matches_6 : decode cX5_matches 6 = .ok (.invokevirtual 103, 3) := by decide +kernel
theorem dX5_matches_9 : decode cX5_matches 9 = .ok (.ireturn, 1) := by decide +kernel
theorem dX5_rank_0 : decode cX5_rank 0 = .ok (.aload_n 0, 1) := by decide +kernel
theorem dX5_rank_1 : decode cX5_rank 1 = .ok (.iload_n 1, 1) := by decide +kernel
theorem dX5_rank_2 : decode cX5_rank 2 = .ok (.invokevirtual 99, 3) := by decide +kernel
theorem dX5_rank_5 : decode cX5_rank 5 = .ok (.istore_n 2, 1) := by decide +kernel
theorem dX5_rank_6 : decode cX5_rank 6 = .ok (.iconst 0, 1) := by decide +kernel
theorem dX5_rank_7 : decode cX5_rank 7 = .ok (.istore_n 3, 1) := by decide +kernel
theorem dX5_rank_8 : decode cX5_rank 8 = .ok (.iconst 0, 1) := by decide +kernel
theorem dX5_rank_9 : decode cX5_rank 9 = .ok (.istore 4, 2) := by decide +kernel
theorem dX5_rank_11 : decode cX5_rank 11 = .ok (.iload 4, 2) := by decide +kernel
theorem dX5_rank_13 : decode cX5_rank 13 = .ok (.aload_n 0, 1) := by decide +kernel
theorem dX5_rank_14 : decode cX5_rank 14 = .ok (.getfield 45, 3) := by decide +kernel
theorem dX5_rank_17 : decode cX5_rank 17 = .ok (.if_icmp .ge 62, 3) := by decide +kernel
theorem dX5_rank_20 : decode cX5_rank 20 = .ok (.aload_n 0, 1) := by decide +kernel
theorem dX5_rank_21 : decode cX5_rank 21 = .ok (.iload 4, 2) := by decide +kernel
theorem dX5_rank_23 : decode cX5_rank 23 = .ok (.invokevirtual 67, 3) := by decide +kernel
theorem dX5_rank_26 : decode cX5_rank 26 = .ok (.ifCond .eq 12, 3) := by decide +kernel
theorem dX5_rank_29 : decode cX5_rank 29 = .ok (.aload_n 0, 1) := by decide +kernel
theorem dX5_rank_30 : decode cX5_rank 30 = .ok (.iload 4, 2) := by decide +kernel
theorem dX5_rank_32 : decode cX5_rank 32 = .ok (.invokevirtual 99, 3) := by decide +kernel
theorem dX5_rank_35 : decode cX5_rank 35 = .ok (.goto 4, 3) := by decide +kernel
theorem dX5_rank_38 : decode cX5_rank 38 = .ok (.iconst (-1), 1) := by decide +kernel
theorem dX5_rank_39 : decode cX5_rank 39 = .ok (.istore 5, 2) := by decide +kernel
theorem dX5_rank_41 : decode cX5_rank 41 = .ok (.iload_n 3, 1) := by decide +kernel
theorem dX5_rank_42 : decode cX5_rank 42 = .ok (.iload 5, 2) := by decide +kernel
theorem dX5_rank_44 : decode cX5_rank 44 = .ok (.iconst (-1), 1) := by decide +kernel
theorem dX5_rank_45 : decode cX5_rank 45 = .ok (.if_icmp .eq 25, 3) := by decide +kernel
theorem dX5_rank_48 : decode cX5_rank 48 = .ok (.iload 5, 2) := by decide +kernel
theorem dX5_rank_50 : decode cX5_rank 50 = .ok (.iload_n 2, 1) := by decide +kernel
theorem dX5_rank_51 : decode cX5_rank 51 = .ok (.if_icmp .lt 15, 3) := by decide +kernel
theorem dX5_rank_54 : decode cX5_rank 54 = .ok (.iload 5, 2) := by decide +kernel
theorem dX5_rank_56 : decode cX5_rank 56 = .ok (.iload_n 2, 1) := by decide +kernel
theorem dX5_rank_57 : decode cX5_rank 57 = .ok (.if_icmp .ne 13, 3) := by decide +kernel
theorem dX5_rank_60 : decode cX5_rank 60 = .ok (.iload 4, 2) := by decide +kernel
theorem dX5_rank_62 : decode cX5_rank 62 = .ok (.iload_n 1, 1) := by decide +kernel
theorem dX5_rank_63 : decode cX5_rank 63 = .ok (.if_icmp .ge 7, 3) := by decide +kernel
theorem dX5_rank_66 : decode cX5_rank 66 = .ok (.iconst 1, 1) := by decide +kernel
theorem dX5_rank_67 : decode cX5_rank 67 = .ok (.goto 4, 3) := by decide +kernel
theorem dX5_rank_70 : decode cX5_rank 70 = .ok (.iconst 0, 1) := by decide +kernel
theorem dX5_rank_71 : decode cX5_rank 71 = .ok (.iadd, 1) := by decide +kernel
theorem dX5_rank_72 : decode cX5_rank 72 = .ok (.istore_n 3, 1) := by decide +kernel
theorem dX5_rank_73 : decode cX5_rank 73 = .ok (.iinc 4 1, 3) := by decide +kernel
theorem dX5_rank_76 : decode cX5_rank 76 = .ok (.goto (-65), 3) := by decide +kernel
theorem dX5_rank_79 : decode cX5_rank 79 = .ok (.iload_n 3, 1) := by decide +kernel
theorem dX5_rank_80 : decode cX5_rank 80 = .ok (.ireturn, 1) := by decide +kernel
theorem dX5_found_0 : decode cX5_found 0 = .ok (.aload_n 0, 1) := by decide +kernel
theorem dX5_found_1 : decode cX5_found 1 = .ok (.iload_n 1, 1) := by decide +kernel
theorem dX5_found_2 : decode cX5_found 2 = .ok (.iconst 0, 1) := by decide +kernel
theorem dX5_found_3 : decode cX5_found 3 = .ok (.aload_n 0, 1) := by decide +kernel
theorem dX5_found_4 : decode cX5_found 4 = .ok (.invokevirtual 103, 3) := by decide +kernel
theorem dX5_found_7 : decode cX5_found 7 = .ok (.iconst 1, 1) := by decide +kernel
theorem dX5_found_8 : decode cX5_found 8 = .ok (.isub, 1) := by decide +kernel
theorem dX5_found_9 : decode cX5_found 9 = .ok (.invokestatic 48, 3) := by decide +kernel
theorem dX5_found_12 : decode cX5_found 12 = .ok (.ifCond .eq 7, 3) := by decide +kernel
theorem dX5_found_15 : decode cX5_found 15 = .ok (.iconst 0, 1) := by decide +kernel
theorem dX5_found_16 : decode cX5_found 16 = .ok (.goto 4, 3) := by decide +kernel
theorem dX5_found_19 : decode cX5_found 19 = .ok (.iconst 1, 1) := by decide +kernel
theorem dX5_found_20 : decode cX5_found 20 = .ok (.invokevirtual 60, 3) := by decide +kernel
theorem dX5_found_23 : decode cX5_found 23 = .ok (.ifCond .ne 5, 3) := by decide +kernel
theorem dX5_found_26 : decode cX5_found 26 = .ok (.iconst 0, 1) := by decide +kernel
theorem dX5_found_27 : decode cX5_found 27 = .ok (.ireturn, 1) := by decide +kernel
theorem dX5_found_28 : decode cX5_found 28 = .ok (.iconst 0, 1) := by decide +kernel
theorem dX5_found_29 : decode cX5_found 29 = .ok (.istore_n 2, 1) := by decide +kernel
theorem dX5_found_30 : decode cX5_found 30 = .ok (.aload_n 0, 1) := by decide +kernel
theorem dX5_found_31 : decode cX5_found 31 = .ok (.iload_n 2, 1) := by decide +kernel
theorem dX5_found_32 : decode cX5_found 32 = .ok (.invokevirtual 67, 3) := by decide +kernel
theorem dX5_found_35 : decode cX5_found 35 = .ok (.ifCond .eq 21, 3) := by decide +kernel
theorem dX5_found_38 : decode cX5_found 38 = .ok (.aload_n 0, 1) := by decide +kernel
theorem dX5_found_39 : decode cX5_found 39 = .ok (.iload_n 2, 1) := by decide +kernel
theorem dX5_found_40 : decode cX5_found 40 = .ok (.invokevirtual 99, 3) := by decide +kernel
theorem dX5_found_43 : decode cX5_found 43 = .ok (.iconst (-1), 1) := by decide +kernel
theorem dX5_found_44 : decode cX5_found 44 = .ok (.if_icmp .eq 12, 3) := by decide +kernel
theorem dX5_found_47 : decode cX5_found 47 = .ok (.aload_n 0, 1) := by decide +kernel
theorem dX5_found_48 : decode cX5_found 48 = .ok (.iload_n 2, 1) := by decide +kernel
theorem dX5_found_49 : decode cX5_found 49 = .ok (.invokevirtual 107, 3) := by decide +kernel
theorem dX5_found_52 : decode cX5_found 52 = .ok (.iload_n 1, 1) := by decide +kernel
theorem dX5_found_53 : decode cX5_found 53 = .ok (.if_icmp .eq 9, 3) := by decide +kernel
theorem dX5_found_56 : decode cX5_found 56 = .ok (.iinc 2 1, 3) := by decide +kernel
theorem dX5_found_59 : decode cX5_found 59 = .ok (.goto (-29), 3) := by decide +kernel
theorem dX5_found_62 : decode cX5_found 62 = .ok (.iload_n 2, 1) := by decide +kernel
theorem dX5_found_63 : decode cX5_found 63 = .ok (.ireturn, 1) := by decide +kernel
theorem dX5_sign_0 : decode cX5_sign 0 = .ok (.iload_n 0, 1) := by decide +kernel
theorem dX5_sign_1 : decode cX5_sign 1 = .ok (.ifCond .le 7, 3) := by decide +kernel
theorem dX5_sign_4 : decode cX5_sign 4 = .ok (.iconst 1, 1) := by decide +kernel
theorem dX5_sign_5 : decode cX5_sign 5 = .ok (.goto 12, 3) := by decide +kernel
theorem dX5_sign_8 : decode cX5_sign 8 = .ok (.iload_n 0, 1) := by decide +kernel
theorem dX5_sign_9 : decode cX5_sign 9 = .ok (.ifCond .ge 7, 3) := by decide +kernel
theorem dX5_sign_12 : decode cX5_sign 12 = .ok (.iconst (-1), 1) := by decide +kernel
theorem dX5_sign_13 : decode cX5_sign 13 = .ok (.goto 4, 3) := by decide +kernel
theorem dX5_sign_16 : decode cX5_sign 16 = .ok (.iconst 0, 1) := by decide +kernel
theorem dX5_sign_17 : decode cX5_sign 17 = .ok (.ireturn, 1) := by decide +kernel
theorem dX5_isLike_0 : decode cX5_isLike 0 = .ok (.iconst 0, 1) := by decide +kernel
theorem dX5_isLike_1 : decode cX5_isLike 1 = .ok (.istore_n 2, 1) := by decide +kernel
theorem dX5_isLike_2 : decode cX5_isLike 2 = .ok (.iload_n 2, 1) := by decide +kernel
theorem dX5_isLike_3 : decode cX5_isLike 3 = .ok (.aload_n 0, 1) := by decide +kernel
theorem dX5_isLike_4 : decode cX5_isLike 4 = .ok (.getfield 81, 3) := by decide +kernel
theorem dX5_isLike_7 : decode cX5_isLike 7 = .ok (.iconst 1, 1) := by decide +kernel
theorem dX5_isLike_8 : decode cX5_isLike 8 = .ok (.isub, 1) := by decide +kernel
theorem dX5_isLike_9 : decode cX5_isLike 9 = .ok (.if_icmp .ge 53, 3) := by decide +kernel
theorem dX5_isLike_12 : decode cX5_isLike 12 = .ok (.iload_n 2, 1) := by decide +kernel
theorem dX5_isLike_13 : decode cX5_isLike 13 = .ok (.aload_n 0, 1) := by decide +kernel
theorem dX5_isLike_14 : decode cX5_isLike 14 = .ok (.getfield 16, 3) := by decide +kernel
theorem dX5_isLike_17 : decode cX5_isLike 17 = .ok (.iload_n 1, 1) := by decide +kernel
theorem dX5_isLike_18 : decode cX5_isLike 18 = .ok (.iaload, 1) := by decide +kernel
theorem dX5_isLike_19 : decode cX5_isLike 19 = .ok (.iconst 1, 1) := by decide +kernel
theorem dX5_isLike_20 : decode cX5_isLike 20 = .ok (.isub, 1) := by decide +kernel
theorem dX5_isLike_21 : decode cX5_isLike 21 = .ok (.if_icmp .ge 33, 3) := by decide +kernel
theorem dX5_isLike_24 : decode cX5_isLike 24 = .ok (.aload_n 0, 1) := by decide +kernel
theorem dX5_isLike_25 : decode cX5_isLike 25 = .ok (.iload_n 1, 1) := by decide +kernel
theorem dX5_isLike_26 : decode cX5_isLike 26 = .ok (.iload_n 2, 1) := by decide +kernel
theorem dX5_isLike_27 : decode cX5_isLike 27 = .ok (.invokevirtual 73, 3) := by decide +kernel
theorem dX5_isLike_30 : decode cX5_isLike 30 = .ok (.invokestatic 110, 3) := by decide +kernel
theorem dX5_isLike_33 : decode cX5_isLike 33 = .ok (.aload_n 0, 1) := by decide +kernel
theorem dX5_isLike_34 : decode cX5_isLike 34 = .ok (.getfield 23, 3) := by decide +kernel
theorem dX5_isLike_37 : decode cX5_isLike 37 = .ok (.iload_n 2, 1) := by decide +kernel
theorem dX5_isLike_38 : decode cX5_isLike 38 = .ok (.iconst 1, 1) := by decide +kernel
theorem dX5_isLike_39 : decode cX5_isLike 39 = .ok (.iadd, 1) := by decide +kernel
theorem dX5_isLike_40 : decode cX5_isLike 40 = .ok (.iaload, 1) := by decide +kernel
theorem dX5_isLike_41 : decode cX5_isLike 41 = .ok (.aload_n 0, 1) := by decide +kernel
theorem dX5_isLike_42 : decode cX5_isLike 42 = .ok (.getfield 23, 3) := by decide +kernel
theorem dX5_isLike_45 : decode cX5_isLike 45 = .ok (.iload_n 2, 1) := by decide +kernel
theorem dX5_isLike_46 : decode cX5_isLike 46 = .ok (.iaload, 1) := by decide +kernel
theorem dX5_isLike_47 : decode cX5_isLike 47 = .ok (.isub, 1) := by decide +kernel
theorem dX5_isLike_48 : decode cX5_isLike 48 = .ok (.invokestatic 110, 3) := by decide +kernel
theorem dX5_isLike_51 : decode cX5_isLike 51 = .ok (.if_icmp .eq 5, 3) := by decide +kernel
theorem dX5_isLike_54 : decode cX5_isLike 54 = .ok (.iconst 0, 1) := by decide +kernel
theorem dX5_isLike_55 : decode cX5_isLike 55 = .ok (.ireturn, 1) := by decide +kernel
theorem dX5_isLike_56 : decode cX5_isLike 56 = .ok (.iinc 2 1, 3) := by decide +kernel
theorem dX5_isLike_59 : decode cX5_isLike 59 = .ok (.goto (-57), 3) := by decide +kernel
theorem dX5_isLike_62 : decode cX5_isLike 62 = .ok (.iconst 1, 1) := by decide +kernel
theorem dX5_isLike_63 : decode cX5_isLike 63 = .ok (.ireturn, 1) := by decide +kernel
theorem dX5_likeContour_0 : decode cX5_likeContour 0 = .ok (.aload_n 0, 1) := by decide +kernel
theorem dX5_likeContour_1 : decode cX5_likeContour 1 = .ok (.iconst 0, 1) := by decide +kernel
theorem dX5_likeContour_2 : decode cX5_likeContour 2 = .ok (.putfield 42, 3) := by decide +kernel
theorem dX5_likeContour_5 : decode cX5_likeContour 5 = .ok (.iconst 0, 1) := by decide +kernel
theorem dX5_likeContour_6 : decode cX5_likeContour 6 = .ok (.istore_n 1, 1) := by decide +kernel
theorem dX5_likeContour_7 : decode cX5_likeContour 7 = .ok (.iconst 0, 1) := by decide +kernel
theorem dX5_likeContour_8 : decode cX5_likeContour 8 = .ok (.istore_n 2, 1) := by decide +kernel
theorem dX5_likeContour_9 : decode cX5_likeContour 9 = .ok (.iload_n 2, 1) := by decide +kernel
theorem dX5_likeContour_10 : decode cX5_likeContour 10 = .ok (.aload_n 0, 1) := by decide +kernel
theorem dX5_likeContour_11 : decode cX5_likeContour 11 = .ok (.getfield 45, 3) := by decide +kernel
theorem dX5_likeContour_14 : decode cX5_likeContour 14 = .ok (.if_icmp .ge 35, 3) := by decide +kernel
theorem dX5_likeContour_17 : decode cX5_likeContour 17 = .ok (.iload_n 1, 1) := by decide +kernel
theorem dX5_likeContour_18 : decode cX5_likeContour 18 = .ok (.aload_n 0, 1) := by decide +kernel
theorem dX5_likeContour_19 : decode cX5_likeContour 19 = .ok (.iload_n 2, 1) := by decide +kernel
theorem dX5_likeContour_20 : decode cX5_likeContour 20 = .ok (.invokevirtual 67, 3) := by decide +kernel
theorem dX5_likeContour_23 : decode cX5_likeContour 23 = .ok (.ifCond .eq 17, 3) := by decide +kernel
theorem dX5_likeContour_26 : decode cX5_likeContour 26 = .ok (.aload_n 0, 1) := by decide +kernel
theorem dX5_likeContour_27 : decode cX5_likeContour 27 = .ok (.iload_n 2, 1) := by decide +kernel
theorem dX5_likeContour_28 : decode cX5_likeContour 28 = .ok (.invokevirtual 113, 3) := by decide +kernel
theorem dX5_likeContour_31 : decode cX5_likeContour 31 = .ok (.ifCond .eq 9, 3) := by decide +kernel
theorem dX5_likeContour_34 : decode cX5_likeContour 34 = .ok (.iconst 1, 1) := by decide +kernel
theorem dX5_likeContour_35 : decode cX5_likeContour 35 = .ok (.iload_n 2, 1) := by decide +kernel
theorem dX5_likeContour_36 : decode cX5_likeContour 36 = .ok (.ishl, 1) := by decide +kernel
theorem dX5_likeContour_37 : decode cX5_likeContour 37 = .ok (.goto 4, 3) := by decide +kernel
theorem dX5_likeContour_40 : decode cX5_likeContour 40 = .ok (.iconst 0, 1) := by decide +kernel
theorem dX5_likeContour_41 : decode cX5_likeContour 41 = .ok (.ior, 1) := by decide +kernel
theorem dX5_likeContour_42 : decode cX5_likeContour 42 = .ok (.istore_n 1, 1) := by decide +kernel
theorem dX5_likeContour_43 : decode cX5_likeContour 43 = .ok (.iinc 2 1, 3) := by decide +kernel
theorem dX5_likeContour_46 : decode cX5_likeContour 46 = .ok (.goto (-37), 3) := by decide +kernel
theorem dX5_likeContour_49 : decode cX5_likeContour 49 = .ok (.iload_n 1, 1) := by decide +kernel
theorem dX5_likeContour_50 : decode cX5_likeContour 50 = .ok (.ireturn, 1) := by decide +kernel
theorem dX5_isRun_0 : decode cX5_isRun 0 = .ok (.iconst 0, 1) := by decide +kernel
theorem dX5_isRun_1 : decode cX5_isRun 1 = .ok (.istore 4, 2) := by decide +kernel
theorem dX5_isRun_3 : decode cX5_isRun 3 = .ok (.iload 4, 2) := by decide +kernel
theorem dX5_isRun_5 : decode cX5_isRun 5 = .ok (.iload_n 3, 1) := by decide +kernel
theorem dX5_isRun_6 : decode cX5_isRun 6 = .ok (.if_icmp .ge 68, 3) := by decide +kernel
theorem dX5_isRun_9 : decode cX5_isRun 9 = .ok (.aload_n 0, 1) := by decide +kernel
theorem dX5_isRun_10 : decode cX5_isRun 10 = .ok (.getfield 81, 3) := by decide +kernel
theorem dX5_isRun_13 : decode cX5_isRun 13 = .ok (.iconst 1, 1) := by decide +kernel
theorem dX5_isRun_14 : decode cX5_isRun 14 = .ok (.isub, 1) := by decide +kernel
theorem dX5_isRun_15 : decode cX5_isRun 15 = .ok (.iload_n 3, 1) := by decide +kernel
theorem dX5_isRun_16 : decode cX5_isRun 16 = .ok (.isub, 1) := by decide +kernel
theorem dX5_isRun_17 : decode cX5_isRun 17 = .ok (.iload 4, 2) := by decide +kernel
theorem dX5_isRun_19 : decode cX5_isRun 19 = .ok (.iadd, 1) := by decide +kernel
theorem dX5_isRun_20 : decode cX5_isRun 20 = .ok (.istore 5, 2) := by decide +kernel
theorem dX5_isRun_22 : decode cX5_isRun 22 = .ok (.iload_n 2, 1) := by decide +kernel
theorem dX5_isRun_23 : decode cX5_isRun 23 = .ok (.iload 4, 2) := by decide +kernel
theorem dX5_isRun_25 : decode cX5_isRun 25 = .ok (.iadd, 1) := by decide +kernel
theorem dX5_isRun_26 : decode cX5_isRun 26 = .ok (.aload_n 0, 1) := by decide +kernel
theorem dX5_isRun_27 : decode cX5_isRun 27 = .ok (.getfield 16, 3) := by decide +kernel
theorem dX5_isRun_30 : decode cX5_isRun 30 = .ok (.iload_n 1, 1) := by decide +kernel
theorem dX5_isRun_31 : decode cX5_isRun 31 = .ok (.iaload, 1) := by decide +kernel
theorem dX5_isRun_32 : decode cX5_isRun 32 = .ok (.iconst 1, 1) := by decide +kernel
theorem dX5_isRun_33 : decode cX5_isRun 33 = .ok (.isub, 1) := by decide +kernel
theorem dX5_isRun_34 : decode cX5_isRun 34 = .ok (.if_icmp .ge 32, 3) := by decide +kernel
theorem dX5_isRun_37 : decode cX5_isRun 37 = .ok (.aload_n 0, 1) := by decide +kernel
theorem dX5_isRun_38 : decode cX5_isRun 38 = .ok (.iload_n 1, 1) := by decide +kernel
theorem dX5_isRun_39 : decode cX5_isRun 39 = .ok (.iload_n 2, 1) := by decide +kernel
theorem dX5_isRun_40 : decode cX5_isRun 40 = .ok (.iload 4, 2) := by decide +kernel
theorem dX5_isRun_42 : decode cX5_isRun 42 = .ok (.iadd, 1) := by decide +kernel
theorem dX5_isRun_43 : decode cX5_isRun 43 = .ok (.invokevirtual 73, 3) := by decide +kernel
theorem dX5_isRun_46 : decode cX5_isRun 46 = .ok (.aload_n 0, 1) := by decide +kernel
theorem dX5_isRun_47 : decode cX5_isRun 47 = .ok (.getfield 23, 3) := by decide +kernel
theorem dX5_isRun_50 : decode cX5_isRun 50 = .ok (.iload 5, 2) := by decide +kernel
theorem dX5_isRun_52 : decode cX5_isRun 52 = .ok (.iconst 1, 1) := by decide +kernel
theorem dX5_isRun_53 : decode cX5_isRun 53 = .ok (.iadd, 1) := by decide +kernel
theorem dX5_isRun_54 : decode cX5_isRun 54 = .ok (.iaload, 1) := by decide +kernel
theorem dX5_isRun_55 : decode cX5_isRun 55 = .ok (.aload_n 0, 1) := by decide +kernel
theorem dX5_isRun_56 : decode cX5_isRun 56 = .ok (.getfield 23, 3) := by decide +kernel
theorem dX5_isRun_59 : decode cX5_isRun 59 = .ok (.iload 5, 2) := by decide +kernel
theorem dX5_isRun_61 : decode cX5_isRun 61 = .ok (.iaload, 1) := by decide +kernel
theorem dX5_isRun_62 : decode cX5_isRun 62 = .ok (.isub, 1) := by decide +kernel
theorem dX5_isRun_63 : decode cX5_isRun 63 = .ok (.if_icmp .eq 5, 3) := by decide +kernel
theorem dX5_isRun_66 : decode cX5_isRun 66 = .ok (.iconst 0, 1) := by decide +kernel
theorem dX5_isRun_67 : decode cX5_isRun 67 = .ok (.ireturn, 1) := by decide +kernel
theorem dX5_isRun_68 : decode cX5_isRun 68 = .ok (.iinc 4 1, 3) := by decide +kernel
theorem dX5_isRun_71 : decode cX5_isRun 71 = .ok (.goto (-68), 3) := by decide +kernel
theorem dX5_isRun_74 : decode cX5_isRun 74 = .ok (.aload_n 0, 1) := by decide +kernel
theorem dX5_isRun_75 : decode cX5_isRun 75 = .ok (.getfield 19, 3) := by decide +kernel
theorem dX5_isRun_78 : decode cX5_isRun 78 = .ok (.iload_n 1, 1) := by decide +kernel
theorem dX5_isRun_79 : decode cX5_isRun 79 = .ok (.baload, 1) := by decide +kernel
theorem dX5_isRun_80 : decode cX5_isRun 80 = .ok (.ifCond .ne 7, 3) := by decide +kernel
theorem dX5_isRun_83 : decode cX5_isRun 83 = .ok (.iconst 1, 1) := by decide +kernel
theorem dX5_isRun_84 : decode cX5_isRun 84 = .ok (.goto 4, 3) := by decide +kernel
theorem dX5_isRun_87 : decode cX5_isRun 87 = .ok (.iconst 0, 1) := by decide +kernel
theorem dX5_isRun_88 : decode cX5_isRun 88 = .ok (.ireturn, 1) := by decide +kernel
theorem dX5_errorOfRun_0 : decode cX5_errorOfRun 0 = .ok (.iload_n 1, 1) := by decide +kernel
theorem dX5_errorOfRun_1 : decode cX5_errorOfRun 1 = .ok (.iconst 1, 1) := by decide +kernel
theorem dX5_errorOfRun_2 : decode cX5_errorOfRun 2 = .ok (.iconst 4, 1) := by decide +kernel
theorem dX5_errorOfRun_3 : decode cX5_errorOfRun 3 = .ok (.invokestatic 48, 3) := by decide +kernel
theorem dX5_errorOfRun_6 : decode cX5_errorOfRun 6 = .ok (.ifCond .ne 7, 3) := by decide +kernel
theorem dX5_errorOfRun_9 : decode cX5_errorOfRun 9 = .ok (.iconst 1, 1) := by decide +kernel
theorem dX5_errorOfRun_10 : decode cX5_errorOfRun 10 = .ok (.goto 18, 3) := by decide +kernel
theorem dX5_errorOfRun_13 : decode cX5_errorOfRun 13 = .ok (.aload_n 0, 1) := by decide +kernel
theorem dX5_errorOfRun_14 : decode cX5_errorOfRun 14 = .ok (.getfield 81, 3) := by decide +kernel
theorem dX5_errorOfRun_17 : decode cX5_errorOfRun 17 = .ok (.iconst 1, 1) := by decide +kernel
theorem dX5_errorOfRun_18 : decode cX5_errorOfRun 18 = .ok (.isub, 1) := by decide +kernel
theorem dX5_errorOfRun_19 : decode cX5_errorOfRun 19 = .ok (.iload_n 1, 1) := by decide +kernel
theorem dX5_errorOfRun_20 : decode cX5_errorOfRun 20 = .ok (.if_icmp .ge 7, 3) := by decide +kernel
theorem dX5_errorOfRun_23 : decode cX5_errorOfRun 23 = .ok (.iconst 2, 1) := by decide +kernel
theorem dX5_errorOfRun_24 : decode cX5_errorOfRun 24 = .ok (.goto 4, 3) := by decide +kernel
theorem dX5_errorOfRun_27 : decode cX5_errorOfRun 27 = .ok (.iconst 0, 1) := by decide +kernel
theorem dX5_errorOfRun_28 : decode cX5_errorOfRun 28 = .ok (.ireturn, 1) := by decide +kernel
theorem dX5_placesOf_0 : decode cX5_placesOf 0 = .ok (.iconst 0, 1) := by decide +kernel
theorem dX5_placesOf_1 : decode cX5_placesOf 1 = .ok (.istore_n 2, 1) := by decide +kernel
theorem dX5_placesOf_2 : decode cX5_placesOf 2 = .ok (.iconst 0, 1) := by decide +kernel
theorem dX5_placesOf_3 : decode cX5_placesOf 3 = .ok (.istore_n 3, 1) := by decide +kernel
theorem dX5_placesOf_4 : decode cX5_placesOf 4 = .ok (.iload_n 3, 1) := by decide +kernel
theorem dX5_placesOf_5 : decode cX5_placesOf 5 = .ok (.bipush 24, 2) := by decide +kernel
theorem dX5_placesOf_7 : decode cX5_placesOf 7 = .ok (.aload_n 0, 1) := by decide +kernel
theorem dX5_placesOf_8 : decode cX5_placesOf 8 = .ok (.getfield 45, 3) := by decide +kernel
theorem dX5_placesOf_11 : decode cX5_placesOf 11 = .ok (.imul, 1) := by decide +kernel
theorem dX5_placesOf_12 : decode cX5_placesOf 12 = .ok (.if_icmp .ge 49, 3) := by decide +kernel
theorem dX5_placesOf_15 : decode cX5_placesOf 15 = .ok (.iload_n 2, 1) := by decide +kernel
theorem dX5_placesOf_16 : decode cX5_placesOf 16 = .ok (.iload_n 3, 1) := by decide +kernel
theorem dX5_placesOf_17 : decode cX5_placesOf 17 = .ok (.bipush 24, 2) := by decide +kernel
theorem dX5_placesOf_19 : decode cX5_placesOf 19 = .ok (.irem, 1) := by decide +kernel
theorem dX5_placesOf_20 : decode cX5_placesOf 20 = .ok (.aload_n 0, 1) := by decide +kernel
theorem dX5_placesOf_21 : decode cX5_placesOf 21 = .ok (.getfield 16, 3) := by decide +kernel
theorem dX5_placesOf_24 : decode cX5_placesOf 24 = .ok (.iload_n 3, 1) := by decide +kernel
theorem dX5_placesOf_25 : decode cX5_placesOf 25 = .ok (.bipush 24, 2) := by decide +kernel
theorem dX5_placesOf_27 : decode cX5_placesOf 27 = .ok (.idiv, 1) := by decide +kernel
theorem dX5_placesOf_28 : decode cX5_placesOf 28 = .ok (.iaload, 1) := by decide +kernel
theorem dX5_placesOf_29 : decode cX5_placesOf 29 = .ok (.if_icmp .ge 23, 3) := by decide +kernel
theorem dX5_placesOf_32 : decode cX5_placesOf 32 = .ok (.aload_n 0, 1) := by decide +kernel
theorem dX5_placesOf_33 : decode cX5_placesOf 33 = .ok (.iload_n 3, 1) := by decide +kernel
theorem dX5_placesOf_34 : decode cX5_placesOf 34 = .ok (.bipush 24, 2) := by decide +kernel
theorem dX5_placesOf_36 : decode cX5_placesOf 36 = .ok (.idiv, 1) := by decide +kernel
theorem dX5_placesOf_37 : decode cX5_placesOf 37 = .ok (.iload_n 3, 1) := by decide +kernel
theorem dX5_placesOf_38 : decode cX5_placesOf 38 = .ok (.bipush 24, 2) := by decide +kernel
theorem dX5_placesOf_40 : decode cX5_placesOf 40 = .ok (.irem, 1) := by decide +kernel
theorem dX5_placesOf_41 : decode cX5_placesOf 41 = .ok (.iload_n 1, 1) := by decide +kernel
theorem dX5_placesOf_42 : decode cX5_placesOf 42 = .ok (.invokevirtual 116, 3) := by decide +kernel
theorem dX5_placesOf_45 : decode cX5_placesOf 45 = .ok (.ifCond .eq 7, 3) := by decide +kernel
theorem dX5_placesOf_48 : decode cX5_placesOf 48 = .ok (.iconst 1, 1) := by decide +kernel
theorem dX5_placesOf_49 : decode cX5_placesOf 49 = .ok (.goto 4, 3) := by decide +kernel
theorem dX5_placesOf_52 : decode cX5_placesOf 52 = .ok (.iconst 0, 1) := by decide +kernel
theorem dX5_placesOf_53 : decode cX5_placesOf 53 = .ok (.iadd, 1) := by decide +kernel
theorem dX5_placesOf_54 : decode cX5_placesOf 54 = .ok (.istore_n 2, 1) := by decide +kernel
theorem dX5_placesOf_55 : decode cX5_placesOf 55 = .ok (.iinc 3 1, 3) := by decide +kernel
theorem dX5_placesOf_58 : decode cX5_placesOf 58 = .ok (.goto (-54), 3) := by decide +kernel
theorem dX5_placesOf_61 : decode cX5_placesOf 61 = .ok (.iload_n 2, 1) := by decide +kernel
theorem dX5_placesOf_62 : decode cX5_placesOf 62 = .ok (.ireturn, 1) := by decide +kernel
theorem dX5_places_0 : decode cX5_places 0 = .ok (.aload_n 0, 1) := by decide +kernel
theorem dX5_places_1 : decode cX5_places 1 = .ok (.aload_n 0, 1) := by decide +kernel
theorem dX5_places_2 : decode cX5_places 2 = .ok (.iload_n 1, 1) := by decide +kernel
theorem dX5_places_3 : decode cX5_places 3 = .ok (.invokevirtual 119, 3) := by decide +kernel
theorem dX5_places_6 : decode cX5_places 6 = .ok (.invokevirtual 60, 3) := by decide +kernel
theorem dX5_places_9 : decode cX5_places 9 = .ok (.ifCond .eq 11, 3) := by decide +kernel
theorem dX5_places_12 : decode cX5_places 12 = .ok (.aload_n 0, 1) := by decide +kernel
theorem dX5_places_13 : decode cX5_places 13 = .ok (.iload_n 1, 1) := by decide +kernel
theorem dX5_places_14 : decode cX5_places 14 = .ok (.invokevirtual 122, 3) := by decide +kernel
theorem dX5_places_17 : decode cX5_places 17 = .ok (.goto 4, 3) := by decide +kernel
theorem dX5_places_20 : decode cX5_places 20 = .ok (.iconst 0, 1) := by decide +kernel
theorem dX5_places_21 : decode cX5_places 21 = .ok (.ireturn, 1) := by decide +kernel
theorem dX5_place_0 : decode cX5_place 0 = .ok (.aload_n 0, 1) := by decide +kernel
theorem dX5_place_1 : decode cX5_place 1 = .ok (.iload_n 1, 1) := by decide +kernel
theorem dX5_place_2 : decode cX5_place 2 = .ok (.invokevirtual 119, 3) := by decide +kernel
theorem dX5_place_5 : decode cX5_place 5 = .ok (.istore_n 3, 1) := by decide +kernel
theorem dX5_place_6 : decode cX5_place 6 = .ok (.aload_n 0, 1) := by decide +kernel
theorem dX5_place_7 : decode cX5_place 7 = .ok (.iload_n 3, 1) := by decide +kernel
theorem dX5_place_8 : decode cX5_place 8 = .ok (.ifCond .le 7, 3) := by decide +kernel
theorem dX5_place_11 : decode cX5_place 11 = .ok (.iload_n 3, 1) := by decide +kernel
theorem dX5_place_12 : decode cX5_place 12 = .ok (.goto 23, 3) := by decide +kernel
theorem dX5_place_15 : decode cX5_place 15 = .ok (.iload_n 2, 1) := by decide +kernel
theorem dX5_place_16 : decode cX5_place 16 = .ok (.iconst 0, 1) := by decide +kernel
theorem dX5_place_17 : decode cX5_place 17 = .ok (.aload_n 0, 1) := by decide +kernel
theorem dX5_place_18 : decode cX5_place 18 = .ok (.iload_n 1, 1) := by decide +kernel
theorem dX5_place_19 : decode cX5_place 19 = .ok (.invokevirtual 122, 3) := by decide +kernel
theorem dX5_place_22 : decode cX5_place 22 = .ok (.iconst 1, 1) := by decide +kernel
theorem dX5_place_23 : decode cX5_place 23 = .ok (.isub, 1) := by decide +kernel
theorem dX5_place_24 : decode cX5_place 24 = .ok (.invokestatic 48, 3) := by decide +kernel
theorem dX5_place_27 : decode cX5_place 27 = .ok (.ifCond .eq 7, 3) := by decide +kernel
theorem dX5_place_30 : decode cX5_place 30 = .ok (.iconst 0, 1) := by decide +kernel
theorem dX5_place_31 : decode cX5_place 31 = .ok (.goto 4, 3) := by decide +kernel
theorem dX5_place_34 : decode cX5_place 34 = .ok (.iconst 3, 1) := by decide +kernel
theorem dX5_place_35 : decode cX5_place 35 = .ok (.invokevirtual 60, 3) := by decide +kernel
theorem dX5_place_38 : decode cX5_place 38 = .ok (.ifCond .ne 5, 3) := by decide +kernel
theorem dX5_place_41 : decode cX5_place 41 = .ok (.iconst 0, 1) := by decide +kernel
theorem dX5_place_42 : decode cX5_place 42 = .ok (.ireturn, 1) := by decide +kernel
theorem dX5_place_43 : decode cX5_place 43 = .ok (.iload_n 2, 1) := by decide +kernel
theorem dX5_place_44 : decode cX5_place 44 = .ok (.istore 4, 2) := by decide +kernel
theorem dX5_place_46 : decode cX5_place 46 = .ok (.iconst 0, 1) := by decide +kernel
theorem dX5_place_47 : decode cX5_place 47 = .ok (.istore 5, 2) := by decide +kernel
theorem dX5_place_49 : decode cX5_place 49 = .ok (.iload 4, 2) := by decide +kernel
theorem dX5_place_51 : decode cX5_place 51 = .ok (.ifCond .gt 39, 3) := by decide +kernel
theorem dX5_place_54 : decode cX5_place 54 = .ok (.iload 5, 2) := by decide +kernel
theorem dX5_place_56 : decode cX5_place 56 = .ok (.bipush 24, 2) := by decide +kernel
theorem dX5_place_58 : decode cX5_place 58 = .ok (.irem, 1) := by decide +kernel
theorem dX5_place_59 : decode cX5_place 59 = .ok (.aload_n 0, 1) := by decide +kernel
theorem dX5_place_60 : decode cX5_place 60 = .ok (.getfield 16, 3) := by decide +kernel
theorem dX5_place_63 : decode cX5_place 63 = .ok (.iload 5, 2) := by decide +kernel
theorem dX5_place_65 : decode cX5_place 65 = .ok (.bipush 24, 2) := by decide +kernel
theorem dX5_place_67 : decode cX5_place 67 = .ok (.idiv, 1) := by decide +kernel
theorem dX5_place_68 : decode cX5_place 68 = .ok (.iaload, 1) := by decide +kernel
theorem dX5_place_69 : decode cX5_place 69 = .ok (.if_icmp .ge 21, 3) := by decide +kernel
theorem dX5_place_72 : decode cX5_place 72 = .ok (.aload_n 0, 1) := by decide +kernel
theorem dX5_place_73 : decode cX5_place 73 = .ok (.iload 5, 2) := by decide +kernel
theorem dX5_place_75 : decode cX5_place 75 = .ok (.bipush 24, 2) := by decide +kernel
theorem dX5_place_77 : decode cX5_place 77 = .ok (.idiv, 1) := by decide +kernel
theorem dX5_place_78 : decode cX5_place 78 = .ok (.iload 5, 2) := by decide +kernel
theorem dX5_place_80 : decode cX5_place 80 = .ok (.bipush 24, 2) := by decide +kernel
theorem dX5_place_82 : decode cX5_place 82 = .ok (.irem, 1) := by decide +kernel
theorem dX5_place_83 : decode cX5_place 83 = .ok (.iload_n 1, 1) := by decide +kernel
theorem dX5_place_84 : decode cX5_place 84 = .ok (.invokevirtual 116, 3) := by decide +kernel
theorem dX5_place_87 : decode cX5_place 87 = .ok (.ifCond .ne 55, 3) := by decide +kernel
theorem dX5_place_90 : decode cX5_place 90 = .ok (.iload 4, 2) := by decide +kernel
theorem dX5_place_92 : decode cX5_place 92 = .ok (.iload 5, 2) := by decide +kernel
theorem dX5_place_94 : decode cX5_place 94 = .ok (.bipush 24, 2) := by decide +kernel
theorem dX5_place_96 : decode cX5_place 96 = .ok (.irem, 1) := by decide +kernel
theorem dX5_place_97 : decode cX5_place 97 = .ok (.aload_n 0, 1) := by decide +kernel
theorem dX5_place_98 : decode cX5_place 98 = .ok (.getfield 16, 3) := by decide +kernel
theorem dX5_place_101 : decode cX5_place 101 = .ok (.iload 5, 2) := by decide +kernel
theorem dX5_place_103 : decode cX5_place 103 = .ok (.bipush 24, 2) := by decide +kernel
theorem dX5_place_105 : decode cX5_place 105 = .ok (.idiv, 1) := by decide +kernel
theorem dX5_place_106 : decode cX5_place 106 = .ok (.iaload, 1) := by decide +kernel
theorem dX5_place_107 : decode cX5_place 107 = .ok (.if_icmp .ge 25, 3) := by decide +kernel
theorem dX5_place_110 : decode cX5_place 110 = .ok (.aload_n 0, 1) := by decide +kernel
theorem dX5_place_111 : decode cX5_place 111 = .ok (.iload 5, 2) := by decide +kernel
theorem dX5_place_113 : decode cX5_place 113 = .ok (.bipush 24, 2) := by decide +kernel
theorem dX5_place_115 : decode cX5_place 115 = .ok (.idiv, 1) := by decide +kernel
theorem dX5_place_116 : decode cX5_place 116 = .ok (.iload 5, 2) := by decide +kernel
theorem dX5_place_118 : decode cX5_place 118 = .ok (.bipush 24, 2) := by decide +kernel
theorem dX5_place_120 : decode cX5_place 120 = .ok (.irem, 1) := by decide +kernel
theorem dX5_place_121 : decode cX5_place 121 = .ok (.iload_n 1, 1) := by decide +kernel
theorem dX5_place_122 : decode cX5_place 122 = .ok (.invokevirtual 116, 3) := by decide +kernel
theorem dX5_place_125 : decode cX5_place 125 = .ok (.ifCond .eq 7, 3) := by decide +kernel
theorem dX5_place_128 : decode cX5_place 128 = .ok (.iconst 1, 1) := by decide +kernel
theorem dX5_place_129 : decode cX5_place 129 = .ok (.goto 4, 3) := by decide +kernel
theorem dX5_place_132 : decode cX5_place 132 = .ok (.iconst 0, 1) := by decide +kernel
theorem dX5_place_133 : decode cX5_place 133 = .ok (.isub, 1) := by decide +kernel
theorem dX5_place_134 : decode cX5_place 134 = .ok (.istore 4, 2) := by decide +kernel
theorem dX5_place_136 : decode cX5_place 136 = .ok (.iinc 5 1, 3) := by decide +kernel
theorem dX5_place_139 : decode cX5_place 139 = .ok (.goto (-90), 3) := by decide +kernel
theorem dX5_place_142 : decode cX5_place 142 = .ok (.bipush 100, 2) := by decide +kernel
theorem dX5_place_144 : decode cX5_place 144 = .ok (.iload 5, 2) := by decide +kernel
theorem dX5_place_146 : decode cX5_place 146 = .ok (.bipush 24, 2) := by decide +kernel
theorem dX5_place_148 : decode cX5_place 148 = .ok (.idiv, 1) := by decide +kernel
theorem dX5_place_149 : decode cX5_place 149 = .ok (.imul, 1) := by decide +kernel
theorem dX5_place_150 : decode cX5_place 150 = .ok (.iload 5, 2) := by decide +kernel
theorem dX5_place_152 : decode cX5_place 152 = .ok (.bipush 24, 2) := by decide +kernel
theorem dX5_place_154 : decode cX5_place 154 = .ok (.irem, 1) := by decide +kernel
theorem dX5_place_155 : decode cX5_place 155 = .ok (.iadd, 1) := by decide +kernel
theorem dX5_place_156 : decode cX5_place 156 = .ok (.ireturn, 1) := by decide +kernel
theorem dX5_familyOf_0 : decode cX5_familyOf 0 = .ok (.iconst 1, 1) := by decide +kernel
theorem dX5_familyOf_1 : decode cX5_familyOf 1 = .ok (.iload_n 1, 1) := by decide +kernel
theorem dX5_familyOf_2 : decode cX5_familyOf 2 = .ok (.ishl, 1) := by decide +kernel
theorem dX5_familyOf_3 : decode cX5_familyOf 3 = .ok (.istore_n 2, 1) := by decide +kernel
theorem dX5_familyOf_4 : decode cX5_familyOf 4 = .ok (.iconst 0, 1) := by decide +kernel
theorem dX5_familyOf_5 : decode cX5_familyOf 5 = .ok (.istore_n 3, 1) := by decide +kernel
theorem dX5_familyOf_6 : decode cX5_familyOf 6 = .ok (.iload_n 2, 1) := by decide +kernel
theorem dX5_familyOf_7 : decode cX5_familyOf 7 = .ok (.iload_n 3, 1) := by decide +kernel
theorem dX5_familyOf_8 : decode cX5_familyOf 8 = .ok (.if_icmp .eq 50, 3) := by decide +kernel
theorem dX5_familyOf_11 : decode cX5_familyOf 11 = .ok (.iload_n 2, 1) := by decide +kernel
theorem dX5_familyOf_12 : decode cX5_familyOf 12 = .ok (.istore_n 3, 1) := by decide +kernel
theorem dX5_familyOf_13 : decode cX5_familyOf 13 = .ok (.iconst 0, 1) := by decide +kernel
theorem dX5_familyOf_14 : decode cX5_familyOf 14 = .ok (.istore 4, 2) := by decide +kernel
theorem dX5_familyOf_16 : decode cX5_familyOf 16 = .ok (.iload 4, 2) := by decide +kernel
theorem dX5_familyOf_18 : decode cX5_familyOf 18 = .ok (.aload_n 0, 1) := by decide +kernel
theorem dX5_familyOf_19 : decode cX5_familyOf 19 = .ok (.getfield 45, 3) := by decide +kernel
theorem dX5_familyOf_22 : decode cX5_familyOf 22 = .ok (.if_icmp .ge 33, 3) := by decide +kernel
theorem dX5_familyOf_25 : decode cX5_familyOf 25 = .ok (.iload_n 2, 1) := by decide +kernel
theorem dX5_familyOf_26 : decode cX5_familyOf 26 = .ok (.iload_n 2, 1) := by decide +kernel
theorem dX5_familyOf_27 : decode cX5_familyOf 27 = .ok (.iload 4, 2) := by decide +kernel
theorem dX5_familyOf_29 : decode cX5_familyOf 29 = .ok (.ishr, 1) := by decide +kernel
theorem dX5_familyOf_30 : decode cX5_familyOf 30 = .ok (.iconst 1, 1) := by decide +kernel
theorem dX5_familyOf_31 : decode cX5_familyOf 31 = .ok (.iand, 1) := by decide +kernel
theorem dX5_familyOf_32 : decode cX5_familyOf 32 = .ok (.iconst 1, 1) := by decide +kernel
theorem dX5_familyOf_33 : decode cX5_familyOf 33 = .ok (.if_icmp .ne 13, 3) := by decide +kernel
theorem dX5_familyOf_36 : decode cX5_familyOf 36 = .ok (.aload_n 0, 1) := by decide +kernel
theorem dX5_familyOf_37 : decode cX5_familyOf 37 = .ok (.getfield 39, 3) := by decide +kernel
theorem dX5_familyOf_40 : decode cX5_familyOf 40 = .ok (.iload 4, 2) := by decide +kernel
theorem dX5_familyOf_42 : decode cX5_familyOf 42 = .ok (.iaload, 1) := by decide +kernel
theorem dX5_familyOf_43 : decode cX5_familyOf 43 = .ok (.goto 4, 3) := by decide +kernel
theorem dX5_familyOf_46 : decode cX5_familyOf 46 = .ok (.iconst 0, 1) := by decide +kernel
theorem dX5_familyOf_47 : decode cX5_familyOf 47 = .ok (.ior, 1) := by decide +kernel
theorem dX5_familyOf_48 : decode cX5_familyOf 48 = .ok (.istore_n 2, 1) := by decide +kernel
theorem dX5_familyOf_49 : decode cX5_familyOf 49 = .ok (.iinc 4 1, 3) := by decide +kernel
theorem dX5_familyOf_52 : decode cX5_familyOf 52 = .ok (.goto (-36), 3) := by decide +kernel
theorem dX5_familyOf_55 : decode cX5_familyOf 55 = .ok (.goto (-49), 3) := by decide +kernel
theorem dX5_familyOf_58 : decode cX5_familyOf 58 = .ok (.iload_n 2, 1) := by decide +kernel
theorem dX5_familyOf_59 : decode cX5_familyOf 59 = .ok (.ireturn, 1) := by decide +kernel
theorem dX5_lowest_0 : decode cX5_lowest 0 = .ok (.aload_n 0, 1) := by decide +kernel
theorem dX5_lowest_1 : decode cX5_lowest 1 = .ok (.iload_n 1, 1) := by decide +kernel
theorem dX5_lowest_2 : decode cX5_lowest 2 = .ok (.invokevirtual 125, 3) := by decide +kernel
theorem dX5_lowest_5 : decode cX5_lowest 5 = .ok (.istore_n 2, 1) := by decide +kernel
theorem dX5_lowest_6 : decode cX5_lowest 6 = .ok (.iconst 0, 1) := by decide +kernel
theorem dX5_lowest_7 : decode cX5_lowest 7 = .ok (.istore_n 3, 1) := by decide +kernel
theorem dX5_lowest_8 : decode cX5_lowest 8 = .ok (.iload_n 2, 1) := by decide +kernel
theorem dX5_lowest_9 : decode cX5_lowest 9 = .ok (.iload_n 3, 1) := by decide +kernel
theorem dX5_lowest_10 : decode cX5_lowest 10 = .ok (.ishr, 1) := by decide +kernel
theorem dX5_lowest_11 : decode cX5_lowest 11 = .ok (.iconst 1, 1) := by decide +kernel
theorem dX5_lowest_12 : decode cX5_lowest 12 = .ok (.iand, 1) := by decide +kernel
theorem dX5_lowest_13 : decode cX5_lowest 13 = .ok (.ifCond .ne 9, 3) := by decide +kernel
theorem dX5_lowest_16 : decode cX5_lowest 16 = .ok (.iinc 3 1, 3) := by decide +kernel
theorem dX5_lowest_19 : decode cX5_lowest 19 = .ok (.goto (-11), 3) := by decide +kernel
theorem dX5_lowest_22 : decode cX5_lowest 22 = .ok (.iload_n 3, 1) := by decide +kernel
theorem dX5_lowest_23 : decode cX5_lowest 23 = .ok (.ireturn, 1) := by decide +kernel
theorem dX5_familiesOf_0 : decode cX5_familiesOf 0 = .ok (.iconst 0, 1) := by decide +kernel
theorem dX5_familiesOf_1 : decode cX5_familiesOf 1 = .ok (.istore_n 1, 1) := by decide +kernel
theorem dX5_familiesOf_2 : decode cX5_familiesOf 2 = .ok (.iconst 0, 1) := by decide +kernel
theorem dX5_familiesOf_3 : decode cX5_familiesOf 3 = .ok (.istore_n 2, 1) := by decide +kernel
theorem dX5_familiesOf_4 : decode cX5_familiesOf 4 = .ok (.iload_n 2, 1) := by decide +kernel
theorem dX5_familiesOf_5 : decode cX5_familiesOf 5 = .ok (.aload_n 0, 1) := by decide +kernel
theorem dX5_familiesOf_6 : decode cX5_familiesOf 6 = .ok (.getfield 45, 3) := by decide +kernel
theorem dX5_familiesOf_9 : decode cX5_familiesOf 9 = .ok (.if_icmp .ge 26, 3) := by decide +kernel
theorem dX5_familiesOf_12 : decode cX5_familiesOf 12 = .ok (.iload_n 1, 1) := by decide +kernel
theorem dX5_familiesOf_13 : decode cX5_familiesOf 13 = .ok (.aload_n 0, 1) := by decide +kernel
theorem dX5_familiesOf_14 : decode cX5_familiesOf 14 = .ok (.iload_n 2, 1) := by decide +kernel
theorem dX5_familiesOf_15 : decode cX5_familiesOf 15 = .ok (.invokevirtual 128, 3) := by decide +kernel
theorem dX5_familiesOf_18 : decode cX5_familiesOf 18 = .ok (.iload_n 2, 1) := by decide +kernel
theorem dX5_familiesOf_19 : decode cX5_familiesOf 19 = .ok (.if_icmp .ne 7, 3) := by decide +kernel
theorem dX5_familiesOf_22 : decode cX5_familiesOf 22 = .ok (.iconst 1, 1) := by decide +kernel
theorem dX5_familiesOf_23 : decode cX5_familiesOf 23 = .ok (.goto 4, 3) := by decide +kernel
theorem dX5_familiesOf_26 : decode cX5_familiesOf 26 = .ok (.iconst 0, 1) := by decide +kernel
theorem dX5_familiesOf_27 : decode cX5_familiesOf 27 = .ok (.iadd, 1) := by decide +kernel
theorem dX5_familiesOf_28 : decode cX5_familiesOf 28 = .ok (.istore_n 1, 1) := by decide +kernel
theorem dX5_familiesOf_29 : decode cX5_familiesOf 29 = .ok (.iinc 2 1, 3) := by decide +kernel
theorem dX5_familiesOf_32 : decode cX5_familiesOf 32 = .ok (.goto (-28), 3) := by decide +kernel
theorem dX5_familiesOf_35 : decode cX5_familiesOf 35 = .ok (.iload_n 1, 1) := by decide +kernel
theorem dX5_familiesOf_36 : decode cX5_familiesOf 36 = .ok (.ireturn, 1) := by decide +kernel
theorem dX5_areLinked_0 : decode cX5_areLinked 0 = .ok (.aload_n 0, 1) := by decide +kernel
theorem dX5_areLinked_1 : decode cX5_areLinked 1 = .ok (.getfield 39, 3) := by decide +kernel
theorem dX5_areLinked_4 : decode cX5_areLinked 4 = .ok (.iload_n 1, 1) := by decide +kernel
theorem dX5_areLinked_5 : decode cX5_areLinked 5 = .ok (.iaload, 1) := by decide +kernel
theorem dX5_areLinked_6 : decode cX5_areLinked 6 = .ok (.iload_n 2, 1) := by decide +kernel
theorem dX5_areLinked_7 : decode cX5_areLinked 7 = .ok (.ishr, 1) := by decide +kernel
theorem dX5_areLinked_8 : decode cX5_areLinked 8 = .ok (.iconst 1, 1) := by decide +kernel
theorem dX5_areLinked_9 : decode cX5_areLinked 9 = .ok (.iand, 1) := by decide +kernel
theorem dX5_areLinked_10 : decode cX5_areLinked 10 = .ok (.iconst 1, 1) := by decide +kernel
theorem dX5_areLinked_11 : decode cX5_areLinked 11 = .ok (.if_icmp .ne 7, 3) := by decide +kernel
theorem dX5_areLinked_14 : decode cX5_areLinked 14 = .ok (.iconst 1, 1) := by decide +kernel
theorem dX5_areLinked_15 : decode cX5_areLinked 15 = .ok (.goto 4, 3) := by decide +kernel
theorem dX5_areLinked_18 : decode cX5_areLinked 18 = .ok (.iconst 0, 1) := by decide +kernel
theorem dX5_areLinked_19 : decode cX5_areLinked 19 = .ok (.ireturn, 1) := by decide +kernel
theorem dX5_link_0 : decode cX5_link 0 = .ok (.aload_n 0, 1) := by decide +kernel
theorem dX5_link_1 : decode cX5_link 1 = .ok (.iload_n 1, 1) := by decide +kernel
theorem dX5_link_2 : decode cX5_link 2 = .ok (.invokevirtual 52, 3) := by decide +kernel
theorem dX5_link_5 : decode cX5_link 5 = .ok (.ifCond .eq 15, 3) := by decide +kernel
theorem dX5_link_8 : decode cX5_link 8 = .ok (.aload_n 0, 1) := by decide +kernel
theorem dX5_link_9 : decode cX5_link 9 = .ok (.iload_n 2, 1) := by decide +kernel
theorem dX5_link_10 : decode cX5_link 10 = .ok (.invokevirtual 52, 3) := by decide +kernel
theorem dX5_link_13 : decode cX5_link 13 = .ok (.ifCond .eq 7, 3) := by decide +kernel
theorem dX5_link_16 : decode cX5_link 16 = .ok (.iconst 1, 1) := by decide +kernel
theorem dX5_link_17 : decode cX5_link 17 = .ok (.goto 4, 3) := by decide +kernel
theorem dX5_link_20 : decode cX5_link 20 = .ok (.iconst 0, 1) := by decide +kernel
theorem dX5_link_21 : decode cX5_link 21 = .ok (.istore_n 3, 1) := by decide +kernel
theorem dX5_link_22 : decode cX5_link 22 = .ok (.aload_n 0, 1) := by decide +kernel
theorem dX5_link_23 : decode cX5_link 23 = .ok (.iload_n 3, 1) := by decide +kernel
theorem dX5_link_24 : decode cX5_link 24 = .ok (.ifCond .ne 7, 3) := by decide +kernel
theorem dX5_link_27 : decode cX5_link 27 = .ok (.iconst 1, 1) := by decide +kernel
theorem dX5_link_28 : decode cX5_link 28 = .ok (.goto 26, 3) := by decide +kernel
theorem dX5_link_31 : decode cX5_link 31 = .ok (.iload_n 1, 1) := by decide +kernel
theorem dX5_link_32 : decode cX5_link 32 = .ok (.iload_n 2, 1) := by decide +kernel
theorem dX5_link_33 : decode cX5_link 33 = .ok (.if_icmp .ne 7, 3) := by decide +kernel
theorem dX5_link_36 : decode cX5_link 36 = .ok (.iconst 2, 1) := by decide +kernel
theorem dX5_link_37 : decode cX5_link 37 = .ok (.goto 17, 3) := by decide +kernel
theorem dX5_link_40 : decode cX5_link 40 = .ok (.aload_n 0, 1) := by decide +kernel
theorem dX5_link_41 : decode cX5_link 41 = .ok (.iload_n 1, 1) := by decide +kernel
theorem dX5_link_42 : decode cX5_link 42 = .ok (.iload_n 2, 1) := by decide +kernel
theorem dX5_link_43 : decode cX5_link 43 = .ok (.invokevirtual 131, 3) := by decide +kernel
theorem dX5_link_46 : decode cX5_link 46 = .ok (.ifCond .eq 7, 3) := by decide +kernel
theorem dX5_link_49 : decode cX5_link 49 = .ok (.iconst 3, 1) := by decide +kernel
theorem dX5_link_50 : decode cX5_link 50 = .ok (.goto 4, 3) := by decide +kernel
theorem dX5_link_53 : decode cX5_link 53 = .ok (.iconst 0, 1) := by decide +kernel
theorem dX5_link_54 : decode cX5_link 54 = .ok (.invokevirtual 60, 3) := by decide +kernel
theorem dX5_link_57 : decode cX5_link 57 = .ok (.ifCond .ne 5, 3) := by decide +kernel
theorem dX5_link_60 : decode cX5_link 60 = .ok (.iconst 0, 1) := by decide +kernel
theorem dX5_link_61 : decode cX5_link 61 = .ok (.ireturn, 1) := by decide +kernel
theorem dX5_link_62 : decode cX5_link 62 = .ok (.aload_n 0, 1) := by decide +kernel
theorem dX5_link_63 : decode cX5_link 63 = .ok (.getfield 39, 3) := by decide +kernel
theorem dX5_link_66 : decode cX5_link 66 = .ok (.iload_n 1, 1) := by decide +kernel
theorem dX5_link_67 : decode cX5_link 67 = .ok (.dup2, 1) := by decide +kernel
theorem dX5_link_68 : decode cX5_link 68 = .ok (.iaload, 1) := by decide +kernel
theorem dX5_link_69 : decode cX5_link 69 = .ok (.iconst 1, 1) := by decide +kernel
theorem dX5_link_70 : decode cX5_link 70 = .ok (.iload_n 2, 1) := by decide +kernel
theorem dX5_link_71 : decode cX5_link 71 = .ok (.ishl, 1) := by decide +kernel
theorem dX5_link_72 : decode cX5_link 72 = .ok (.ior, 1) := by decide +kernel
theorem dX5_link_73 : decode cX5_link 73 = .ok (.iastore, 1) := by decide +kernel
theorem dX5_link_74 : decode cX5_link 74 = .ok (.aload_n 0, 1) := by decide +kernel
theorem dX5_link_75 : decode cX5_link 75 = .ok (.getfield 39, 3) := by decide +kernel
theorem dX5_link_78 : decode cX5_link 78 = .ok (.iload_n 2, 1) := by decide +kernel
theorem dX5_link_79 : decode cX5_link 79 = .ok (.dup2, 1) := by decide +kernel
theorem dX5_link_80 : decode cX5_link 80 = .ok (.iaload, 1) := by decide +kernel
theorem dX5_link_81 : decode cX5_link 81 = .ok (.iconst 1, 1) := by decide +kernel
theorem dX5_link_82 : decode cX5_link 82 = .ok (.iload_n 1, 1) := by decide +kernel
theorem dX5_link_83 : decode cX5_link 83 = .ok (.ishl, 1) := by decide +kernel
theorem dX5_link_84 : decode cX5_link 84 = .ok (.ior, 1) := by decide +kernel
theorem dX5_link_85 : decode cX5_link 85 = .ok (.iastore, 1) := by decide +kernel
theorem dX5_link_86 : decode cX5_link 86 = .ok (.aload_n 0, 1) := by decide +kernel
theorem dX5_link_87 : decode cX5_link 87 = .ok (.invokevirtual 134, 3) := by decide +kernel
theorem dX5_link_90 : decode cX5_link 90 = .ok (.ireturn, 1) := by decide +kernel
theorem dX5_cut_0 : decode cX5_cut 0 = .ok (.aload_n 0, 1) := by decide +kernel
theorem dX5_cut_1 : decode cX5_cut 1 = .ok (.iload_n 1, 1) := by decide +kernel
theorem dX5_cut_2 : decode cX5_cut 2 = .ok (.invokevirtual 52, 3) := by decide +kernel
theorem dX5_cut_5 : decode cX5_cut 5 = .ok (.ifCond .eq 15, 3) := by decide +kernel
theorem dX5_cut_8 : decode cX5_cut 8 = .ok (.aload_n 0, 1) := by decide +kernel
theorem dX5_cut_9 : decode cX5_cut 9 = .ok (.iload_n 2, 1) := by decide +kernel
theorem dX5_cut_10 : decode cX5_cut 10 = .ok (.invokevirtual 52, 3) := by decide +kernel
theorem dX5_cut_13 : decode cX5_cut 13 = .ok (.ifCond .eq 7, 3) := by decide +kernel
theorem dX5_cut_16 : decode cX5_cut 16 = .ok (.iconst 1, 1) := by decide +kernel
theorem dX5_cut_17 : decode cX5_cut 17 = .ok (.goto 4, 3) := by decide +kernel
theorem dX5_cut_20 : decode cX5_cut 20 = .ok (.iconst 0, 1) := by decide +kernel
theorem dX5_cut_21 : decode cX5_cut 21 = .ok (.istore_n 3, 1) := by decide +kernel
theorem dX5_cut_22 : decode cX5_cut 22 = .ok (.aload_n 0, 1) := by decide +kernel
theorem dX5_cut_23 : decode cX5_cut 23 = .ok (.iload_n 3, 1) := by decide +kernel
theorem dX5_cut_24 : decode cX5_cut 24 = .ok (.ifCond .ne 7, 3) := by decide +kernel
theorem dX5_cut_27 : decode cX5_cut 27 = .ok (.iconst 1, 1) := by decide +kernel
theorem dX5_cut_28 : decode cX5_cut 28 = .ok (.goto 17, 3) := by decide +kernel
theorem dX5_cut_31 : decode cX5_cut 31 = .ok (.aload_n 0, 1) := by decide +kernel
theorem dX5_cut_32 : decode cX5_cut 32 = .ok (.iload_n 1, 1) := by decide +kernel
theorem dX5_cut_33 : decode cX5_cut 33 = .ok (.iload_n 2, 1) := by decide +kernel
theorem dX5_cut_34 : decode cX5_cut 34 = .ok (.invokevirtual 131, 3) := by decide +kernel
theorem dX5_cut_37 : decode cX5_cut 37 = .ok (.ifCond .eq 7, 3) := by decide +kernel
theorem dX5_cut_40 : decode cX5_cut 40 = .ok (.iconst 0, 1) := by decide +kernel
theorem dX5_cut_41 : decode cX5_cut 41 = .ok (.goto 4, 3) := by decide +kernel
theorem dX5_cut_44 : decode cX5_cut 44 = .ok (.iconst 2, 1) := by decide +kernel
theorem dX5_cut_45 : decode cX5_cut 45 = .ok (.invokevirtual 60, 3) := by decide +kernel
theorem dX5_cut_48 : decode cX5_cut 48 = .ok (.ifCond .ne 5, 3) := by decide +kernel
theorem dX5_cut_51 : decode cX5_cut 51 = .ok (.iconst 0, 1) := by decide +kernel
theorem dX5_cut_52 : decode cX5_cut 52 = .ok (.ireturn, 1) := by decide +kernel
theorem dX5_cut_53 : decode cX5_cut 53 = .ok (.aload_n 0, 1) := by decide +kernel
theorem dX5_cut_54 : decode cX5_cut 54 = .ok (.getfield 39, 3) := by decide +kernel
theorem dX5_cut_57 : decode cX5_cut 57 = .ok (.iload_n 1, 1) := by decide +kernel
theorem dX5_cut_58 : decode cX5_cut 58 = .ok (.dup2, 1) := by decide +kernel
theorem dX5_cut_59 : decode cX5_cut 59 = .ok (.iaload, 1) := by decide +kernel
theorem dX5_cut_60 : decode cX5_cut 60 = .ok (.iconst 1, 1) := by decide +kernel
theorem dX5_cut_61 : decode cX5_cut 61 = .ok (.iload_n 2, 1) := by decide +kernel
theorem dX5_cut_62 : decode cX5_cut 62 = .ok (.ishl, 1) := by decide +kernel
theorem dX5_cut_63 : decode cX5_cut 63 = .ok (.iconst (-1), 1) := by decide +kernel
theorem dX5_cut_64 : decode cX5_cut 64 = .ok (.ixor, 1) := by decide +kernel
theorem dX5_cut_65 : decode cX5_cut 65 = .ok (.iand, 1) := by decide +kernel
theorem dX5_cut_66 : decode cX5_cut 66 = .ok (.iastore, 1) := by decide +kernel
theorem dX5_cut_67 : decode cX5_cut 67 = .ok (.aload_n 0, 1) := by decide +kernel
theorem dX5_cut_68 : decode cX5_cut 68 = .ok (.getfield 39, 3) := by decide +kernel
theorem dX5_cut_71 : decode cX5_cut 71 = .ok (.iload_n 2, 1) := by decide +kernel
theorem dX5_cut_72 : decode cX5_cut 72 = .ok (.dup2, 1) := by decide +kernel
theorem dX5_cut_73 : decode cX5_cut 73 = .ok (.iaload, 1) := by decide +kernel
theorem dX5_cut_74 : decode cX5_cut 74 = .ok (.iconst 1, 1) := by decide +kernel
theorem dX5_cut_75 : decode cX5_cut 75 = .ok (.iload_n 1, 1) := by decide +kernel
theorem dX5_cut_76 : decode cX5_cut 76 = .ok (.ishl, 1) := by decide +kernel
theorem dX5_cut_77 : decode cX5_cut 77 = .ok (.iconst (-1), 1) := by decide +kernel
theorem dX5_cut_78 : decode cX5_cut 78 = .ok (.ixor, 1) := by decide +kernel
theorem dX5_cut_79 : decode cX5_cut 79 = .ok (.iand, 1) := by decide +kernel
theorem dX5_cut_80 : decode cX5_cut 80 = .ok (.iastore, 1) := by decide +kernel
theorem dX5_cut_81 : decode cX5_cut 81 = .ok (.aload_n 0, 1) := by decide +kernel
theorem dX5_cut_82 : decode cX5_cut 82 = .ok (.invokevirtual 134, 3) := by decide +kernel
theorem dX5_cut_85 : decode cX5_cut 85 = .ok (.ireturn, 1) := by decide +kernel
theorem dX5_family_0 : decode cX5_family 0 = .ok (.aload_n 0, 1) := by decide +kernel
theorem dX5_family_1 : decode cX5_family 1 = .ok (.aload_n 0, 1) := by decide +kernel
theorem dX5_family_2 : decode cX5_family 2 = .ok (.iload_n 1, 1) := by decide +kernel
theorem dX5_family_3 : decode cX5_family 3 = .ok (.invokevirtual 52, 3) := by decide +kernel
theorem dX5_family_6 : decode cX5_family 6 = .ok (.ifCond .eq 7, 3) := by decide +kernel
theorem dX5_family_9 : decode cX5_family 9 = .ok (.iconst 0, 1) := by decide +kernel
theorem dX5_family_10 : decode cX5_family 10 = .ok (.goto 4, 3) := by decide +kernel
theorem dX5_family_13 : decode cX5_family 13 = .ok (.iconst 1, 1) := by decide +kernel
theorem dX5_family_14 : decode cX5_family 14 = .ok (.invokevirtual 60, 3) := by decide +kernel
theorem dX5_family_17 : decode cX5_family 17 = .ok (.ifCond .eq 11, 3) := by decide +kernel
theorem dX5_family_20 : decode cX5_family 20 = .ok (.aload_n 0, 1) := by decide +kernel
theorem dX5_family_21 : decode cX5_family 21 = .ok (.iload_n 1, 1) := by decide +kernel
theorem dX5_family_22 : decode cX5_family 22 = .ok (.invokevirtual 128, 3) := by decide +kernel
theorem dX5_family_25 : decode cX5_family 25 = .ok (.goto 4, 3) := by decide +kernel
theorem dX5_family_28 : decode cX5_family 28 = .ok (.iconst 0, 1) := by decide +kernel
theorem dX5_family_29 : decode cX5_family 29 = .ok (.ireturn, 1) := by decide +kernel
theorem dX5_families_0 : decode cX5_families 0 = .ok (.aload_n 0, 1) := by decide +kernel
theorem dX5_families_1 : decode cX5_families 1 = .ok (.iconst 0, 1) := by decide +kernel
theorem dX5_families_2 : decode cX5_families 2 = .ok (.putfield 42, 3) := by decide +kernel
theorem dX5_families_5 : decode cX5_families 5 = .ok (.aload_n 0, 1) := by decide +kernel
theorem dX5_families_6 : decode cX5_families 6 = .ok (.invokevirtual 134, 3) := by decide +kernel
theorem dX5_families_9 : decode cX5_families 9 = .ok (.ireturn, 1) := by decide +kernel
theorem dJ9_abs_0f7a4_0 : decode cJ9_abs_0f7a4 0 = .ok (.iload_n 0, 1) := by decide +kernel
theorem dJ9_abs_0f7a4_1 : decode cJ9_abs_0f7a4 1 = .ok (.ifCond .ge 8, 3) := by decide +kernel
theorem dJ9_abs_0f7a4_4 : decode cJ9_abs_0f7a4 4 = .ok (.iload_n 0, 1) := by decide +kernel
theorem dJ9_abs_0f7a4_5 : decode cJ9_abs_0f7a4 5 = .ok (.ineg, 1) := by decide +kernel
theorem dJ9_abs_0f7a4_6 : decode cJ9_abs_0f7a4 6 = .ok (.goto 4, 3) := by decide +kernel
theorem dJ9_abs_0f7a4_9 : decode cJ9_abs_0f7a4 9 = .ok (.iload_n 0, 1) := by decide +kernel
theorem dJ9_abs_0f7a4_10 : decode cJ9_abs_0f7a4 10 = .ok (.ireturn, 1) := by decide +kernel
theorem dJ9_max_7cf53_0 : decode cJ9_max_7cf53 0 = .ok (.iload_n 0, 1) := by decide +kernel
theorem dJ9_max_7cf53_1 : decode cJ9_max_7cf53 1 = .ok (.iload_n 1, 1) := by decide +kernel
theorem dJ9_max_7cf53_2 : decode cJ9_max_7cf53 2 = .ok (.if_icmp .lt 7, 3) := by decide +kernel
theorem dJ9_max_7cf53_5 : decode cJ9_max_7cf53 5 = .ok (.iload_n 0, 1) := by decide +kernel
theorem dJ9_max_7cf53_6 : decode cJ9_max_7cf53 6 = .ok (.goto 4, 3) := by decide +kernel
theorem dJ9_max_7cf53_9 : decode cJ9_max_7cf53 9 = .ok (.iload_n 1, 1) := by decide +kernel
theorem dJ9_max_7cf53_10 : decode cJ9_max_7cf53 10 = .ok (.ireturn, 1) := by decide +kernel
theorem dJ9_min_7cf53_0 : decode cJ9_min_7cf53 0 = .ok (.iload_n 0, 1) := by decide +kernel
theorem dJ9_min_7cf53_1 : decode cJ9_min_7cf53 1 = .ok (.iload_n 1, 1) := by decide +kernel
theorem dJ9_min_7cf53_2 : decode cJ9_min_7cf53 2 = .ok (.if_icmp .gt 7, 3) := by decide +kernel
theorem dJ9_min_7cf53_5 : decode cJ9_min_7cf53 5 = .ok (.iload_n 0, 1) := by decide +kernel
theorem dJ9_min_7cf53_6 : decode cJ9_min_7cf53 6 = .ok (.goto 4, 3) := by decide +kernel
theorem dJ9_min_7cf53_9 : decode cJ9_min_7cf53 9 = .ok (.iload_n 1, 1) := by decide +kernel
theorem dJ9_min_7cf53_10 : decode cJ9_min_7cf53 10 = .ok (.ireturn, 1) := by decide +kernel
theorem dL_add_0 : decode cL_add 0 = .ok (.aload_n 3, 1) := by decide +kernel
theorem dL_add_1 : decode cL_add 1 = .ok (.iconst 0, 1) := by decide +kernel
theorem dL_add_2 : decode cL_add 2 = .ok (.aload_n 0, 1) := by decide +kernel
theorem dL_add_3 : decode cL_add 3 = .ok (.iload_n 1, 1) := by decide +kernel
theorem dL_add_4 : decode cL_add 4 = .ok (.iload_n 2, 1) := by decide +kernel
theorem dL_add_5 : decode cL_add 5 = .ok (.invokevirtual 7, 3) := by decide +kernel
theorem dL_add_8 : decode cL_add 8 = .ok (.i2l, 1) := by decide +kernel
theorem dL_add_9 : decode cL_add 9 = .ok (.lastore, 1) := by decide +kernel
theorem dL_add_10 : decode cL_add 10 = .ok (.goto 11, 3) := by decide +kernel
theorem dL_add_13 : decode cL_add 13 = .ok (.astore 4, 2) := by decide +kernel
theorem dL_add_15 : decode cL_add 15 = .ok (.iconst 1, 1) := by decide +kernel
theorem dL_add_16 : decode cL_add 16 = .ok (.ireturn, 1) := by decide +kernel
theorem dL_add_17 : decode cL_add 17 = .ok (.astore 4, 2) := by decide +kernel
theorem dL_add_19 : decode cL_add 19 = .ok (.iconst 2, 1) := by decide +kernel
theorem dL_add_20 : decode cL_add 20 = .ok (.ireturn, 1) := by decide +kernel
theorem dL_add_21 : decode cL_add 21 = .ok (.iconst 0, 1) := by decide +kernel
theorem dL_add_22 : decode cL_add 22 = .ok (.ireturn, 1) := by decide +kernel
theorem dL_note_0 : decode cL_note 0 = .ok (.aload 4, 2) := by decide +kernel
theorem dL_note_2 : decode cL_note 2 = .ok (.iconst 0, 1) := by decide +kernel
theorem dL_note_3 : decode cL_note 3 = .ok (.aload_n 0, 1) := by decide +kernel
theorem dL_note_4 : decode cL_note 4 = .ok (.iload_n 1, 1) := by decide +kernel
theorem dL_note_5 : decode cL_note 5 = .ok (.iload_n 2, 1) := by decide +kernel
theorem dL_note_6 : decode cL_note 6 = .ok (.iload_n 3, 1) := by decide +kernel
theorem dL_note_7 : decode cL_note 7 = .ok (.invokevirtual 17, 3) := by decide +kernel
theorem dL_note_10 : decode cL_note 10 = .ok (.i2l, 1) := by decide +kernel
theorem dL_note_11 : decode cL_note 11 = .ok (.lastore, 1) := by decide +kernel
theorem dL_note_12 : decode cL_note 12 = .ok (.goto 15, 3) := by decide +kernel
theorem dL_note_15 : decode cL_note 15 = .ok (.astore 5, 2) := by decide +kernel
theorem dL_note_17 : decode cL_note 17 = .ok (.iconst 1, 1) := by decide +kernel
theorem dL_note_18 : decode cL_note 18 = .ok (.ireturn, 1) := by decide +kernel
theorem dL_note_19 : decode cL_note 19 = .ok (.astore 5, 2) := by decide +kernel
theorem dL_note_21 : decode cL_note 21 = .ok (.iconst 2, 1) := by decide +kernel
theorem dL_note_22 : decode cL_note 22 = .ok (.ireturn, 1) := by decide +kernel
theorem dL_note_23 : decode cL_note 23 = .ok (.astore 5, 2) := by decide +kernel
theorem dL_note_25 : decode cL_note 25 = .ok (.iconst 3, 1) := by decide +kernel
theorem dL_note_26 : decode cL_note 26 = .ok (.ireturn, 1) := by decide +kernel
theorem dL_note_27 : decode cL_note 27 = .ok (.iconst 0, 1) := by decide +kernel
theorem dL_note_28 : decode cL_note 28 = .ok (.ireturn, 1) := by decide +kernel
theorem dL_correct_0 : decode cL_correct 0 = .ok (.aload 5, 2) := by decide +kernel
theorem dL_correct_2 : decode cL_correct 2 = .ok (.iconst 0, 1) := by decide +kernel
theorem dL_correct_3 : decode cL_correct 3 = .ok (.aload_n 0, 1) := by decide +kernel
theorem dL_correct_4 : decode cL_correct 4 = .ok (.iload_n 1, 1) := by decide +kernel
theorem dL_correct_5 : decode cL_correct 5 = .ok (.iload_n 2, 1) := by decide +kernel
theorem dL_correct_6 : decode cL_correct 6 = .ok (.iload_n 3, 1) := by decide +kernel
theorem dL_correct_7 : decode cL_correct 7 = .ok (.iload 4, 2) := by decide +kernel
theorem dL_correct_9 : decode cL_correct 9 = .ok (.invokevirtual 23, 3) := by decide +kernel
theorem dL_correct_12 : decode cL_correct 12 = .ok (.i2l, 1) := by decide +kernel
theorem dL_correct_13 : decode cL_correct 13 = .ok (.lastore, 1) := by decide +kernel
theorem dL_correct_14 : decode cL_correct 14 = .ok (.goto 11, 3) := by decide +kernel
theorem dL_correct_17 : decode cL_correct 17 = .ok (.astore 6, 2) := by decide +kernel
theorem dL_correct_19 : decode cL_correct 19 = .ok (.iconst 1, 1) := by decide +kernel
theorem dL_correct_20 : decode cL_correct 20 = .ok (.ireturn, 1) := by decide +kernel
theorem dL_correct_21 : decode cL_correct 21 = .ok (.astore 6, 2) := by decide +kernel
theorem dL_correct_23 : decode cL_correct 23 = .ok (.iconst 2, 1) := by decide +kernel
theorem dL_correct_24 : decode cL_correct 24 = .ok (.ireturn, 1) := by decide +kernel
theorem dL_correct_25 : decode cL_correct 25 = .ok (.iconst 0, 1) := by decide +kernel
theorem dL_correct_26 : decode cL_correct 26 = .ok (.ireturn, 1) := by decide +kernel
theorem dL_shift_0 : decode cL_shift 0 = .ok (.aload_n 0, 1) := by decide +kernel
theorem dL_shift_1 : decode cL_shift 1 = .ok (.iload_n 1, 1) := by decide +kernel
theorem dL_shift_2 : decode cL_shift 2 = .ok (.iload_n 2, 1) := by decide +kernel
theorem dL_shift_3 : decode cL_shift 3 = .ok (.invokevirtual 27, 3) := by decide +kernel
theorem dL_shift_6 : decode cL_shift 6 = .ok (.goto 12, 3) := by decide +kernel
theorem dL_shift_9 : decode cL_shift 9 = .ok (.astore_n 3, 1) := by decide +kernel
theorem dL_shift_10 : decode cL_shift 10 = .ok (.iconst 1, 1) := by decide +kernel
theorem dL_shift_11 : decode cL_shift 11 = .ok (.ireturn, 1) := by decide +kernel
theorem dL_shift_12 : decode cL_shift 12 = .ok (.astore_n 3, 1) := by decide +kernel
theorem dL_shift_13 : decode cL_shift 13 = .ok (.iconst 2, 1) := by decide +kernel
theorem dL_shift_14 : decode cL_shift 14 = .ok (.ireturn, 1) := by decide +kernel
theorem dL_shift_15 : decode cL_shift 15 = .ok (.astore_n 3, 1) := by decide +kernel
theorem dL_shift_16 : decode cL_shift 16 = .ok (.iconst 3, 1) := by decide +kernel
theorem dL_shift_17 : decode cL_shift 17 = .ok (.ireturn, 1) := by decide +kernel
theorem dL_shift_18 : decode cL_shift 18 = .ok (.iconst 0, 1) := by decide +kernel
theorem dL_shift_19 : decode cL_shift 19 = .ok (.ireturn, 1) := by decide +kernel
theorem dL_retire_0 : decode cL_retire 0 = .ok (.aload_n 2, 1) := by decide +kernel
theorem dL_retire_1 : decode cL_retire 1 = .ok (.iconst 0, 1) := by decide +kernel
theorem dL_retire_2 : decode cL_retire 2 = .ok (.aload_n 0, 1) := by decide +kernel
theorem dL_retire_3 : decode cL_retire 3 = .ok (.iload_n 1, 1) := by decide +kernel
theorem dL_retire_4 : decode cL_retire 4 = .ok (.invokevirtual 31, 3) := by decide +kernel
theorem dL_retire_7 : decode cL_retire 7 = .ok (.i2l, 1) := by decide +kernel
theorem dL_retire_8 : decode cL_retire 8 = .ok (.lastore, 1) := by decide +kernel
theorem dL_retire_9 : decode cL_retire 9 = .ok (.goto 6, 3) := by decide +kernel
theorem dL_retire_12 : decode cL_retire 12 = .ok (.astore_n 3, 1) := by decide +kernel
theorem dL_retire_13 : decode cL_retire 13 = .ok (.iconst 1, 1) := by decide +kernel
theorem dL_retire_14 : decode cL_retire 14 = .ok (.ireturn, 1) := by decide +kernel
theorem dL_retire_15 : decode cL_retire 15 = .ok (.iconst 0, 1) := by decide +kernel
theorem dL_retire_16 : decode cL_retire 16 = .ok (.ireturn, 1) := by decide +kernel
theorem dL_notes_0 : decode cL_notes 0 = .ok (.aload_n 2, 1) := by decide +kernel
theorem dL_notes_1 : decode cL_notes 1 = .ok (.iconst 0, 1) := by decide +kernel
theorem dL_notes_2 : decode cL_notes 2 = .ok (.aload_n 0, 1) := by decide +kernel
theorem dL_notes_3 : decode cL_notes 3 = .ok (.iload_n 1, 1) := by decide +kernel
theorem dL_notes_4 : decode cL_notes 4 = .ok (.invokevirtual 35, 3) := by decide +kernel
theorem dL_notes_7 : decode cL_notes 7 = .ok (.i2l, 1) := by decide +kernel
theorem dL_notes_8 : decode cL_notes 8 = .ok (.lastore, 1) := by decide +kernel
theorem dL_notes_9 : decode cL_notes 9 = .ok (.goto 6, 3) := by decide +kernel
theorem dL_notes_12 : decode cL_notes 12 = .ok (.astore_n 3, 1) := by decide +kernel
theorem dL_notes_13 : decode cL_notes 13 = .ok (.iconst 1, 1) := by decide +kernel
theorem dL_notes_14 : decode cL_notes 14 = .ok (.ireturn, 1) := by decide +kernel
theorem dL_notes_15 : decode cL_notes 15 = .ok (.iconst 0, 1) := by decide +kernel
theorem dL_notes_16 : decode cL_notes 16 = .ok (.ireturn, 1) := by decide +kernel
theorem dL_step_0 : decode cL_step 0 = .ok (.aload_n 3, 1) := by decide +kernel
theorem dL_step_1 : decode cL_step 1 = .ok (.iconst 0, 1) := by decide +kernel
theorem dL_step_2 : decode cL_step 2 = .ok (.aload_n 0, 1) := by decide +kernel
theorem dL_step_3 : decode cL_step 3 = .ok (.iload_n 1, 1) := by decide +kernel
theorem dL_step_4 : decode cL_step 4 = .ok (.iload_n 2, 1) := by decide +kernel
theorem dL_step_5 : decode cL_step 5 = .ok (.invokevirtual 38, 3) := by decide +kernel
theorem dL_step_8 : decode cL_step 8 = .ok (.i2l, 1) := by decide +kernel
theorem dL_step_9 : decode cL_step 9 = .ok (.lastore, 1) := by decide +kernel
theorem dL_step_10 : decode cL_step 10 = .ok (.goto 7, 3) := by decide +kernel
theorem dL_step_13 : decode cL_step 13 = .ok (.astore 4, 2) := by decide +kernel
theorem dL_step_15 : decode cL_step 15 = .ok (.iconst 1, 1) := by decide +kernel
theorem dL_step_16 : decode cL_step 16 = .ok (.ireturn, 1) := by decide +kernel
theorem dL_step_17 : decode cL_step 17 = .ok (.iconst 0, 1) := by decide +kernel
theorem dL_step_18 : decode cL_step 18 = .ok (.ireturn, 1) := by decide +kernel
theorem dL_shared_0 : decode cL_shared 0 = .ok (.aload_n 3, 1) := by decide +kernel
theorem dL_shared_1 : decode cL_shared 1 = .ok (.iconst 0, 1) := by decide +kernel
theorem dL_shared_2 : decode cL_shared 2 = .ok (.aload_n 0, 1) := by decide +kernel
theorem dL_shared_3 : decode cL_shared 3 = .ok (.iload_n 1, 1) := by decide +kernel
theorem dL_shared_4 : decode cL_shared 4 = .ok (.iload_n 2, 1) := by decide +kernel
theorem dL_shared_5 : decode cL_shared 5 = .ok (.invokevirtual 41, 3) := by decide +kernel
theorem dL_shared_8 : decode cL_shared 8 = .ok (.i2l, 1) := by decide +kernel
theorem dL_shared_9 : decode cL_shared 9 = .ok (.lastore, 1) := by decide +kernel
theorem dL_shared_10 : decode cL_shared 10 = .ok (.goto 7, 3) := by decide +kernel
theorem dL_shared_13 : decode cL_shared 13 = .ok (.astore 4, 2) := by decide +kernel
theorem dL_shared_15 : decode cL_shared 15 = .ok (.iconst 1, 1) := by decide +kernel
theorem dL_shared_16 : decode cL_shared 16 = .ok (.ireturn, 1) := by decide +kernel
theorem dL_shared_17 : decode cL_shared 17 = .ok (.iconst 0, 1) := by decide +kernel
theorem dL_shared_18 : decode cL_shared 18 = .ok (.ireturn, 1) := by decide +kernel
theorem dL_hum_0 : decode cL_hum 0 = .ok (.aload_n 2, 1) := by decide +kernel
theorem dL_hum_1 : decode cL_hum 1 = .ok (.iconst 0, 1) := by decide +kernel
theorem dL_hum_2 : decode cL_hum 2 = .ok (.aload_n 0, 1) := by decide +kernel
theorem dL_hum_3 : decode cL_hum 3 = .ok (.iload_n 1, 1) := by decide +kernel
theorem dL_hum_4 : decode cL_hum 4 = .ok (.invokevirtual 44, 3) := by decide +kernel
theorem dL_hum_7 : decode cL_hum 7 = .ok (.i2l, 1) := by decide +kernel
theorem dL_hum_8 : decode cL_hum 8 = .ok (.lastore, 1) := by decide +kernel
theorem dL_hum_9 : decode cL_hum 9 = .ok (.goto 9, 3) := by decide +kernel
theorem dL_hum_12 : decode cL_hum 12 = .ok (.astore_n 3, 1) := by decide +kernel
theorem dL_hum_13 : decode cL_hum 13 = .ok (.iconst 1, 1) := by decide +kernel
theorem dL_hum_14 : decode cL_hum 14 = .ok (.ireturn, 1) := by decide +kernel
theorem dL_hum_15 : decode cL_hum 15 = .ok (.astore_n 3, 1) := by decide +kernel
theorem dL_hum_16 : decode cL_hum 16 = .ok (.iconst 2, 1) := by decide +kernel
theorem dL_hum_17 : decode cL_hum 17 = .ok (.ireturn, 1) := by decide +kernel
theorem dL_hum_18 : decode cL_hum 18 = .ok (.iconst 0, 1) := by decide +kernel
theorem dL_hum_19 : decode cL_hum 19 = .ok (.ireturn, 1) := by decide +kernel
theorem dL_setCosts_0 : decode cL_setCosts 0 = .ok (.aload_n 0, 1) := by decide +kernel
theorem dL_setCosts_1 : decode cL_setCosts 1 = .ok (.iload_n 1, 1) := by decide +kernel
theorem dL_setCosts_2 : decode cL_setCosts 2 = .ok (.iload_n 2, 1) := by decide +kernel
theorem dL_setCosts_3 : decode cL_setCosts 3 = .ok (.iload_n 3, 1) := by decide +kernel
theorem dL_setCosts_4 : decode cL_setCosts 4 = .ok (.invokevirtual 47, 3) := by decide +kernel
theorem dL_setCosts_7 : decode cL_setCosts 7 = .ok (.goto 7, 3) := by decide +kernel
theorem dL_setCosts_10 : decode cL_setCosts 10 = .ok (.astore 4, 2) := by decide +kernel
theorem dL_setCosts_12 : decode cL_setCosts 12 = .ok (.iconst 1, 1) := by decide +kernel
theorem dL_setCosts_13 : decode cL_setCosts 13 = .ok (.ireturn, 1) := by decide +kernel
theorem dL_setCosts_14 : decode cL_setCosts 14 = .ok (.iconst 0, 1) := by decide +kernel
theorem dL_setCosts_15 : decode cL_setCosts 15 = .ok (.ireturn, 1) := by decide +kernel
theorem dL_cost_0 : decode cL_cost 0 = .ok (.aload_n 2, 1) := by decide +kernel
theorem dL_cost_1 : decode cL_cost 1 = .ok (.iconst 0, 1) := by decide +kernel
theorem dL_cost_2 : decode cL_cost 2 = .ok (.aload_n 0, 1) := by decide +kernel
theorem dL_cost_3 : decode cL_cost 3 = .ok (.iload_n 1, 1) := by decide +kernel
theorem dL_cost_4 : decode cL_cost 4 = .ok (.invokevirtual 51, 3) := by decide +kernel
theorem dL_cost_7 : decode cL_cost 7 = .ok (.i2l, 1) := by decide +kernel
theorem dL_cost_8 : decode cL_cost 8 = .ok (.lastore, 1) := by decide +kernel
theorem dL_cost_9 : decode cL_cost 9 = .ok (.goto 6, 3) := by decide +kernel
theorem dL_cost_12 : decode cL_cost 12 = .ok (.astore_n 3, 1) := by decide +kernel
theorem dL_cost_13 : decode cL_cost 13 = .ok (.iconst 1, 1) := by decide +kernel
theorem dL_cost_14 : decode cL_cost 14 = .ok (.ireturn, 1) := by decide +kernel
theorem dL_cost_15 : decode cL_cost 15 = .ok (.iconst 0, 1) := by decide +kernel
theorem dL_cost_16 : decode cL_cost 16 = .ok (.ireturn, 1) := by decide +kernel
theorem dL_costByAll_0 : decode cL_costByAll 0 = .ok (.aload_n 2, 1) := by decide +kernel
theorem dL_costByAll_1 : decode cL_costByAll 1 = .ok (.iconst 0, 1) := by decide +kernel
theorem dL_costByAll_2 : decode cL_costByAll 2 = .ok (.aload_n 0, 1) := by decide +kernel
theorem dL_costByAll_3 : decode cL_costByAll 3 = .ok (.iload_n 1, 1) := by decide +kernel
theorem dL_costByAll_4 : decode cL_costByAll 4 = .ok (.invokevirtual 54, 3) := by decide +kernel
theorem dL_costByAll_7 : decode cL_costByAll 7 = .ok (.i2l, 1) := by decide +kernel
theorem dL_costByAll_8 : decode cL_costByAll 8 = .ok (.lastore, 1) := by decide +kernel
theorem dL_costByAll_9 : decode cL_costByAll 9 = .ok (.goto 9, 3) := by decide +kernel
theorem dL_costByAll_12 : decode cL_costByAll 12 = .ok (.astore_n 3, 1) := by decide +kernel
theorem dL_costByAll_13 : decode cL_costByAll 13 = .ok (.iconst 1, 1) := by decide +kernel
theorem dL_costByAll_14 : decode cL_costByAll 14 = .ok (.ireturn, 1) := by decide +kernel
theorem dL_costByAll_15 : decode cL_costByAll 15 = .ok (.astore_n 3, 1) := by decide +kernel
theorem dL_costByAll_16 : decode cL_costByAll 16 = .ok (.iconst 2, 1) := by decide +kernel
theorem dL_costByAll_17 : decode cL_costByAll 17 = .ok (.ireturn, 1) := by decide +kernel
theorem dL_costByAll_18 : decode cL_costByAll 18 = .ok (.iconst 0, 1) := by decide +kernel
theorem dL_costByAll_19 : decode cL_costByAll 19 = .ok (.ireturn, 1) := by decide +kernel
theorem dL_found_0 : decode cL_found 0 = .ok (.aload_n 2, 1) := by decide +kernel
theorem dL_found_1 : decode cL_found 1 = .ok (.iconst 0, 1) := by decide +kernel
theorem dL_found_2 : decode cL_found 2 = .ok (.aload_n 0, 1) := by decide +kernel
theorem dL_found_3 : decode cL_found 3 = .ok (.iload_n 1, 1) := by decide +kernel
theorem dL_found_4 : decode cL_found 4 = .ok (.invokevirtual 57, 3) := by decide +kernel
theorem dL_found_7 : decode cL_found 7 = .ok (.i2l, 1) := by decide +kernel
theorem dL_found_8 : decode cL_found 8 = .ok (.lastore, 1) := by decide +kernel
theorem dL_found_9 : decode cL_found 9 = .ok (.goto 6, 3) := by decide +kernel
theorem dL_found_12 : decode cL_found 12 = .ok (.astore_n 3, 1) := by decide +kernel
theorem dL_found_13 : decode cL_found 13 = .ok (.iconst 1, 1) := by decide +kernel
theorem dL_found_14 : decode cL_found 14 = .ok (.ireturn, 1) := by decide +kernel
theorem dL_found_15 : decode cL_found 15 = .ok (.iconst 0, 1) := by decide +kernel
theorem dL_found_16 : decode cL_found 16 = .ok (.ireturn, 1) := by decide +kernel
theorem dL_places_0 : decode cL_places 0 = .ok (.aload_n 2, 1) := by decide +kernel
theorem dL_places_1 : decode cL_places 1 = .ok (.iconst 0, 1) := by decide +kernel
theorem dL_places_2 : decode cL_places 2 = .ok (.aload_n 0, 1) := by decide +kernel
theorem dL_places_3 : decode cL_places 3 = .ok (.iload_n 1, 1) := by decide +kernel
theorem dL_places_4 : decode cL_places 4 = .ok (.invokevirtual 60, 3) := by decide +kernel
theorem dL_places_7 : decode cL_places 7 = .ok (.i2l, 1) := by decide +kernel
theorem dL_places_8 : decode cL_places 8 = .ok (.lastore, 1) := by decide +kernel
theorem dL_places_9 : decode cL_places 9 = .ok (.goto 9, 3) := by decide +kernel
theorem dL_places_12 : decode cL_places 12 = .ok (.astore_n 3, 1) := by decide +kernel
theorem dL_places_13 : decode cL_places 13 = .ok (.iconst 1, 1) := by decide +kernel
theorem dL_places_14 : decode cL_places 14 = .ok (.ireturn, 1) := by decide +kernel
theorem dL_places_15 : decode cL_places 15 = .ok (.astore_n 3, 1) := by decide +kernel
theorem dL_places_16 : decode cL_places 16 = .ok (.iconst 2, 1) := by decide +kernel
theorem dL_places_17 : decode cL_places 17 = .ok (.ireturn, 1) := by decide +kernel
theorem dL_places_18 : decode cL_places 18 = .ok (.iconst 0, 1) := by decide +kernel
theorem dL_places_19 : decode cL_places 19 = .ok (.ireturn, 1) := by decide +kernel
theorem dL_place_0 : decode cL_place 0 = .ok (.aload_n 3, 1) := by decide +kernel
theorem dL_place_1 : decode cL_place 1 = .ok (.iconst 0, 1) := by decide +kernel
theorem dL_place_2 : decode cL_place 2 = .ok (.aload_n 0, 1) := by decide +kernel
theorem dL_place_3 : decode cL_place 3 = .ok (.iload_n 1, 1) := by decide +kernel
theorem dL_place_4 : decode cL_place 4 = .ok (.iload_n 2, 1) := by decide +kernel
theorem dL_place_5 : decode cL_place 5 = .ok (.invokevirtual 63, 3) := by decide +kernel
theorem dL_place_8 : decode cL_place 8 = .ok (.i2l, 1) := by decide +kernel
theorem dL_place_9 : decode cL_place 9 = .ok (.lastore, 1) := by decide +kernel
theorem dL_place_10 : decode cL_place 10 = .ok (.goto 15, 3) := by decide +kernel
theorem dL_place_13 : decode cL_place 13 = .ok (.astore 4, 2) := by decide +kernel
theorem dL_place_15 : decode cL_place 15 = .ok (.iconst 1, 1) := by decide +kernel
theorem dL_place_16 : decode cL_place 16 = .ok (.ireturn, 1) := by decide +kernel
theorem dL_place_17 : decode cL_place 17 = .ok (.astore 4, 2) := by decide +kernel
theorem dL_place_19 : decode cL_place 19 = .ok (.iconst 2, 1) := by decide +kernel
theorem dL_place_20 : decode cL_place 20 = .ok (.ireturn, 1) := by decide +kernel
theorem dL_place_21 : decode cL_place 21 = .ok (.astore 4, 2) := by decide +kernel
theorem dL_place_23 : decode cL_place 23 = .ok (.iconst 3, 1) := by decide +kernel
theorem dL_place_24 : decode cL_place 24 = .ok (.ireturn, 1) := by decide +kernel
theorem dL_place_25 : decode cL_place 25 = .ok (.iconst 0, 1) := by decide +kernel
theorem dL_place_26 : decode cL_place 26 = .ok (.ireturn, 1) := by decide +kernel
theorem dL_link_0 : decode cL_link 0 = .ok (.aload_n 3, 1) := by decide +kernel
theorem dL_link_1 : decode cL_link 1 = .ok (.iconst 0, 1) := by decide +kernel
theorem dL_link_2 : decode cL_link 2 = .ok (.aload_n 0, 1) := by decide +kernel
theorem dL_link_3 : decode cL_link 3 = .ok (.iload_n 1, 1) := by decide +kernel
theorem dL_link_4 : decode cL_link 4 = .ok (.iload_n 2, 1) := by decide +kernel
theorem dL_link_5 : decode cL_link 5 = .ok (.invokevirtual 66, 3) := by decide +kernel
theorem dL_link_8 : decode cL_link 8 = .ok (.i2l, 1) := by decide +kernel
theorem dL_link_9 : decode cL_link 9 = .ok (.lastore, 1) := by decide +kernel
theorem dL_link_10 : decode cL_link 10 = .ok (.goto 15, 3) := by decide +kernel
theorem dL_link_13 : decode cL_link 13 = .ok (.astore 4, 2) := by decide +kernel
theorem dL_link_15 : decode cL_link 15 = .ok (.iconst 1, 1) := by decide +kernel
theorem dL_link_16 : decode cL_link 16 = .ok (.ireturn, 1) := by decide +kernel
theorem dL_link_17 : decode cL_link 17 = .ok (.astore 4, 2) := by decide +kernel
theorem dL_link_19 : decode cL_link 19 = .ok (.iconst 2, 1) := by decide +kernel
theorem dL_link_20 : decode cL_link 20 = .ok (.ireturn, 1) := by decide +kernel
theorem dL_link_21 : decode cL_link 21 = .ok (.astore 4, 2) := by decide +kernel
theorem dL_link_23 : decode cL_link 23 = .ok (.iconst 3, 1) := by decide +kernel
theorem dL_link_24 : decode cL_link 24 = .ok (.ireturn, 1) := by decide +kernel
theorem dL_link_25 : decode cL_link 25 = .ok (.iconst 0, 1) := by decide +kernel
theorem dL_link_26 : decode cL_link 26 = .ok (.ireturn, 1) := by decide +kernel
theorem dL_cut_0 : decode cL_cut 0 = .ok (.aload_n 3, 1) := by decide +kernel
theorem dL_cut_1 : decode cL_cut 1 = .ok (.iconst 0, 1) := by decide +kernel
theorem dL_cut_2 : decode cL_cut 2 = .ok (.aload_n 0, 1) := by decide +kernel
theorem dL_cut_3 : decode cL_cut 3 = .ok (.iload_n 1, 1) := by decide +kernel
theorem dL_cut_4 : decode cL_cut 4 = .ok (.iload_n 2, 1) := by decide +kernel
theorem dL_cut_5 : decode cL_cut 5 = .ok (.invokevirtual 69, 3) := by decide +kernel
theorem dL_cut_8 : decode cL_cut 8 = .ok (.i2l, 1) := by decide +kernel
theorem dL_cut_9 : decode cL_cut 9 = .ok (.lastore, 1) := by decide +kernel
theorem dL_cut_10 : decode cL_cut 10 = .ok (.goto 11, 3) := by decide +kernel
theorem dL_cut_13 : decode cL_cut 13 = .ok (.astore 4, 2) := by decide +kernel
theorem dL_cut_15 : decode cL_cut 15 = .ok (.iconst 1, 1) := by decide +kernel
theorem dL_cut_16 : decode cL_cut 16 = .ok (.ireturn, 1) := by decide +kernel
theorem dL_cut_17 : decode cL_cut 17 = .ok (.astore 4, 2) := by decide +kernel
theorem dL_cut_19 : decode cL_cut 19 = .ok (.iconst 2, 1) := by decide +kernel
theorem dL_cut_20 : decode cL_cut 20 = .ok (.ireturn, 1) := by decide +kernel
theorem dL_cut_21 : decode cL_cut 21 = .ok (.iconst 0, 1) := by decide +kernel
theorem dL_cut_22 : decode cL_cut 22 = .ok (.ireturn, 1) := by decide +kernel
theorem dL_family_0 : decode cL_family 0 = .ok (.aload_n 2, 1) := by decide +kernel
theorem dL_family_1 : decode cL_family 1 = .ok (.iconst 0, 1) := by decide +kernel
theorem dL_family_2 : decode cL_family 2 = .ok (.aload_n 0, 1) := by decide +kernel
theorem dL_family_3 : decode cL_family 3 = .ok (.iload_n 1, 1) := by decide +kernel
theorem dL_family_4 : decode cL_family 4 = .ok (.invokevirtual 72, 3) := by decide +kernel
theorem dL_family_7 : decode cL_family 7 = .ok (.i2l, 1) := by decide +kernel
theorem dL_family_8 : decode cL_family 8 = .ok (.lastore, 1) := by decide +kernel
theorem dL_family_9 : decode cL_family 9 = .ok (.goto 6, 3) := by decide +kernel
theorem dL_family_12 : decode cL_family 12 = .ok (.astore_n 3, 1) := by decide +kernel
theorem dL_family_13 : decode cL_family 13 = .ok (.iconst 1, 1) := by decide +kernel
theorem dL_family_14 : decode cL_family 14 = .ok (.ireturn, 1) := by decide +kernel
theorem dL_family_15 : decode cL_family 15 = .ok (.iconst 0, 1) := by decide +kernel
theorem dL_family_16 : decode cL_family 16 = .ok (.ireturn, 1) := by decide +kernel
end
section
/-! ===== base: one form of contract for every method: the heap is the state ===== -/
abbrev gG : Type := va_G × ClassId × ClassId × ClassId × ClassId × Nat × (Nat → Nat)
abbrev gD (G : gG) : va_G := G.1
abbrev gI (G : gG) : ClassId := G.2.1
abbrev gZ (G : gG) : ClassId := G.2.2.1
abbrev gT (G : gG) : ClassId := G.2.2.2.1
abbrev gJ (G : gG) : ClassId := G.2.2.2.2.1
abbrev gB (G : gG) : Nat := G.2.2.2.2.2.1
abbrev gSa (G : gG) : Nat → Nat := G.2.2.2.2.2.2
abbrev gTys (G : gG) : List (ClassId × FieldType) := [(gI G, .int), (gZ G, .boolean), (gT G, .object "TuneCatalogue$Tune"), (gJ G, .long)]
def gA (G : gG) : Nat → Prop := fun q => gB G ≤ q
def gNW : List Cond := [.fieldLinkNest RX4 143 RX1 "slip" "I" RX4, .fieldLinkNest RX4 146 RX1 "ornament" "I" RX4, .fieldLinkNest RX4 149 RX1 "repeat" "I" RX4, .fieldLinkNest RX4 76 RX3 "pitches" "LTuneCatalogue$Row;" RX4, .fieldLinkNest RX1 72 RX3 "pitches" "LTuneCatalogue$Row;" RX4, .fieldLinkNest RX4 101 RX3 "lengths" "LTuneCatalogue$Row;" RX4, .fieldLinkNest RX1 84 RX3 "lengths" "LTuneCatalogue$Row;" RX4, .fieldLinkNest RX4 110 RX3 "retired" "Z" RX4]
def gNM : List Cond := [.methodLinkNest RX4 35 yX0_init RX4, .methodLinkNest RX1 57 yX4_isWithin RX4, .methodLinkNest RX4 65 yX3_init RX4]
def gStr : List (Nat × String) := [(206, "a number is out of range"), (60, "there are as many tunes as there may be"), (215, "no such tune is known"), (83, "the tune has as many notes as it may have"), (91, "the tune has no such note"), (108, "a pitch would be out of range"), (213, "there never was such a tune"), (120, "the tune has no such note with a next one"), (136, "the hum has as many pitches as it may have"), (156, "the hum is too long for trying all matches"), (167, "there are not so many tunes with a match"), (208, "the hum has not so many steps"), (179, "there are not so many of these notes"), (186, "a link joins two unlike tunes"), (193, "there is a link of both"), (201, "there is no link of both")]
def gEx : List String := ["java/lang/IllegalStateException", "java/lang/IllegalArgumentException", "java/lang/IndexOutOfBoundsException"]
def gFc : List Cond := [.castable "java/lang/IllegalStateException" "java/lang/IllegalStateException", .castable "java/lang/IllegalArgumentException" "java/lang/IllegalArgumentException", .castable "java/lang/IndexOutOfBoundsException" "java/lang/IndexOutOfBoundsException", .declares (Bundle.initS "java/lang/RuntimeException"), .declares (Bundle.initS "java/lang/Exception"), .declares (Bundle.initS "java/lang/Throwable")]
theorem gFc_ok : ∀ w ∈ gFc, w.faceAtom = true ∧ w.onTables = true := by decide +kernel
theorem gFace_warm {w : Cond} (hw : w.faceAtom = true ∧ w.onTables = true) {s U : State} (hW : s.WarmedH U.vm) (h : va_Nw w s) : va_Nw w U := va_tabs hw.2 (rfl : (s.setVm U.vm).vm = U.vm) (Cond.faceAtom_setVm hW.alike w hw.1 h)
/-- what the tables say, at every call -/
def gK (G : gG) (U : State) : Prop := va_K (gD G) vwCl (gTys G) U ∧ (∀ w ∈ gNW, va_Nw w U) ∧ (∀ w ∈ gNM, va_Nw w U) ∧ (∀ q ∈ gStr, vk_R RX4 q.1 q.2 (gSa G q.1) U) ∧ va_AO "TuneCatalogue$Tune" U ∧ (∀ w ∈ gFc, va_Nw w U) ∧ ∀ a ∈ gEx, ∀ b ∈ gEx, a ≠ b → va_Nc a b U
def gX (G : gG) (U : State) (H : Heap) : Prop := gK G U ∧ vx_Zq Bundle.tN "UNASSIGNED_STACK" Bundle.steD (gA G) U H ∧ vx_Zq Bundle.tN "SUPPRESSED_SENTINEL" Bundle.listD (gA G) U H ∧ gB G ≤ H.size
theorem gK.warm {G : gG} {s U : State} (hW : s.WarmedH U.vm) (h : gK G s) : gK G U := by
  obtain ⟨h1, h2, h3, h4, h5, h6, h7⟩ := h
  refine ⟨va_K.moved hW.alike h1, ?_, ?_, fun q hq => (h4 q hq).warm hW, va_AO.moved hW.alike h5, fun w hw => gFace_warm (gFc_ok w hw) hW (h6 w hw), fun a ha b hb n => (h7 a ha b hb n).moved hW.alike⟩
  · simp only [gNW, List.forall_mem_cons] at h2 ⊢
    obtain ⟨a1, a2, a3, a4, a5, a6, a7, a8, -⟩ := h2
    exact ⟨va_Nw.warmF hW a1, va_Nw.warmF hW a2, va_Nw.warmF hW a3, va_Nw.warmF hW a4, va_Nw.warmF hW a5, va_Nw.warmF hW a6, va_Nw.warmF hW a7, va_Nw.warmF hW a8, fun _ h => absurd h List.not_mem_nil⟩
  · simp only [gNM, List.forall_mem_cons] at h3 ⊢
    obtain ⟨a1, a2, a3, -⟩ := h3
    exact ⟨va_Nw.warmM hW a1, va_Nw.warmM hW a2, va_Nw.warmM hW a3, fun _ h => absurd h List.not_mem_nil⟩
theorem gX.go {G : gG} {s U : State} {H : Heap} {locs : List Loc} (h : gX G s s.heap) (hS : va_S (gA G) s.heap H locs) (hW : s.WarmedH U.vm) : gX G U H :=
  ⟨h.1.warm hW, (h.2.1.kept (fun a h1 h2 => hS.2.1 a h1 h2)).moved hW.alike, (h.2.2.1.kept (fun a h1 h2 => hS.2.1 a h1 h2)).moved hW.alike, Nat.le_trans h.2.2.2 hS.1⟩
theorem gA.new {G : gG} {s : State} {H : Heap} (h : gX G s H) : ∀ q, H.size ≤ q → gA G q := fun q hq => Nat.le_trans h.2.2.2 hq
def gQ (G : gG) (post : Option Value → Heap → Prop) : Array Value → State → Outcome → State → Prop := fun _ st oc t => (∃ v, oc = .returned v ∧ post v t.heap) ∧ va_F (gA G) st t
def gXC (G : gG) (xp : String → Heap → Prop) : String → State → State → Prop := fun E st t => xp E t.heap ∧ va_F (gA G) st t
/-- the contract of a method y, called with As at the heap H: it returns v at a heap with 'post', or throws an E at a heap with 'xp' -/
def gM (l : Launch) (y : MethodName) (ws : List Cond) (rm : Room) (As : List Value) (G : gG) (H : Heap) (post : Option Value → Heap → Prop) (xp : String → Heap → Prop) (mc ms : Nat) : Prop :=
  vx_Met l y ws rm (va_Pc As (fun U => U.heap = H ∧ gX G U H)) (gQ G post) (gXC G xp) mc ms (gA G)
def gNo : String → Heap → Prop := fun _ _ => False
def gi (f : Int32 → Heap → Prop) : Option Value → Heap → Prop := fun v H => ∃ r, v = some (.int r) ∧ f r H
def gv (f : Heap → Prop) : Option Value → Heap → Prop := fun v H => v = none ∧ f H
def gq (f : Option Nat → Heap → Prop) : Option Value → Heap → Prop := fun v H => ∃ r, v = some (va_rf r) ∧ f r H
/-- cells that a step leaves as they are -/
def gOnly (L : List Nat) (H H1 : Heap) : Prop := H1.size = H.size ∧ ∀ q : Nat, q ∉ L → H1[q]? = H[q]?
/-- old cells all stay, new ones may come -/
def gExt (H H1 : Heap) : Prop := H.size ≤ H1.size ∧ ∀ q : Nat, q < H.size → H1[q]? = H[q]?
theorem gExt.rf (H : Heap) : gExt H H := ⟨Nat.le_refl _, fun _ _ => rfl⟩
theorem gExt.trans {H H1 H2 : Heap} (a : gExt H H1) (b : gExt H1 H2) : gExt H H2 := ⟨Nat.le_trans a.1 b.1, fun q h => (b.2 q (Nat.lt_of_lt_of_le h a.1)).trans (a.2 q h)⟩
abbrev gat (G : gG) (a : Nat) (e : va_E) (H : Heap) : Prop := va_at (gD G) vwCl (a, e) H
theorem gat.ext {G : gG} {a : Nat} {e : va_E} {H H1 : Heap} (h : gat G a e H) (x : gExt H H1) : gat G a e H1 := va_at.kept h (x.2 a (va_at.lt h))
theorem gat.only {G : gG} {a : Nat} {e : va_E} {L : List Nat} {H H1 : Heap} (h : gat G a e H) (x : gOnly L H H1) (n : a ∉ L) : gat G a e H1 := va_at.kept h (x.2 a n)
theorem gat.only1 {G : gG} {a b : Nat} {e : va_E} {H H1 : Heap} (h : gat G a e H) (x : gOnly [b] H H1) (n : a ≠ b) : gat G a e H1 := h.only x (fun q => n (List.mem_singleton.mp q))
theorem nm1 {a b : Nat} (h : a ≠ b) : a ∉ [b] := fun q => h (List.mem_singleton.mp q)
theorem nm2 {a b c : Nat} (h : a ≠ b) (h2 : a ≠ c) : a ∉ [b, c] := fun q => by
  rcases List.mem_cons.mp q with r | r
  · exact h r
  · exact h2 (List.mem_singleton.mp r)
/-- old cells stay but those of L, new ones may come -/
def gGrow (L : List Nat) (H H1 : Heap) : Prop := H.size ≤ H1.size ∧ ∀ q : Nat, q < H.size → q ∉ L → H1[q]? = H[q]?
theorem gat.grow {G : gG} {a : Nat} {e : va_E} {L : List Nat} {H H1 : Heap} (h : gat G a e H) (x : gGrow L H H1) (n : a ∉ L) : gat G a e H1 := va_at.kept h (x.2 a (va_at.lt h) n)
theorem gOnly.grow {L : List Nat} {H H1 : Heap} (h : gOnly L H H1) : gGrow L H H1 := ⟨Nat.le_of_eq h.1.symm, fun q _ n => h.2 q n⟩
theorem gExt.grow {L : List Nat} {H H1 : Heap} (h : gExt H H1) : gGrow L H H1 := ⟨h.1, fun q h1 _ => h.2 q h1⟩
theorem gGrow.rf (L : List Nat) (H : Heap) : gGrow L H H := ⟨Nat.le_refl _, fun _ _ _ => rfl⟩
theorem gGrow.trans {L L2 : List Nat} {H H1 H2 : Heap} (a : gGrow L H H1) (b : gGrow L2 H1 H2) (h : ∀ q, q < H.size → q ∈ L2 → q ∈ L) : gGrow L H H2 :=
  ⟨Nat.le_trans a.1 b.1, fun q h1 n => (b.2 q (Nat.lt_of_lt_of_le h1 a.1) (fun z => n (h q h1 z))).trans (a.2 q h1 n)⟩
theorem gOnly.trans {L L2 L3 : List Nat} {H H1 H2 : Heap} (a : gOnly L H H1) (b : gOnly L2 H1 H2) (h1 : ∀ q ∈ L, q ∈ L3) (h2 : ∀ q ∈ L2, q ∈ L3) : gOnly L3 H H2 :=
  ⟨b.1.trans a.1, fun q n => (b.2 q (fun z => n (h2 q z))).trans (a.2 q (fun z => n (h1 q z)))⟩
theorem gOnly.mono {L L3 : List Nat} {H H1 : Heap} (a : gOnly L H H1) (h : ∀ q ∈ L, q ∈ L3) : gOnly L3 H H1 := ⟨a.1, fun q n => a.2 q (fun z => n (h q z))⟩
theorem gat.P {G : gG} {a : Nat} {e : va_E} {H : Heap} (h : gat G a e H) : va_P (gD G) vwCl [(a, e)] H := by
  intro k q hk
  match k, hk with
  | 0, hk => cases hk; exact h
  | k + 1, hk => simp at hk
theorem va_E1 {ws : va_W} {a : Nat} {e : va_E} {k : Nat} (h : ws[k]? = some (a, e)) : ws[k]? = some (a, e) := h
section GB
variable {p : Program} {l : Launch} {e : Env} {R : Room} {s : State} {m : MethodId} {args : Array Value} {below : List Frame} {meth : Method} {c : Code} {H : Heap} {locs : List Loc} {cells slots : Nat} {Q : State → Prop}
variable {mc ms : Nat} {G : gG} {H0 : Heap} {a : Array Value} {pc : Nat} {ls : Array Slot} {st0 rest : List Value} {cc : ByteArray} {post : Option Value → Heap → Prop} {xp : String → Heap → Prop}
theorem g_go (hr : vx_Run p l e R s m args below meth c H locs cells slots mc ms (F0 m pc ls st0) rest (gQ G post a) (gXC G xp) (gA G)) (hS : va_S (gA G) H0 H locs)
    (kx : ∀ (E : String) (ce : Cell) (q9 : Addr) (H1 : Heap) (locs1 : List Loc), xp E H1 → va_S (gA G) H0 H1 locs1 → H1[q9]? = some ce → ce.vm = .none → s.vm.findClass E = some ce.cls → vx_W p l e R s m args below meth c H1 locs1 (cells + mc) (slots + ms) Q (F0 m pc ls rest) q9)
    (kk : ∀ (v : Option Value) (H1 : Heap) (locs1 : List Loc), post v H1 → va_S (gA G) H0 H1 locs1 → W p l e R s m args below meth c H1 locs1 (cells + mc) (slots + ms) Q (F0 m (pc + 3) ls (v.toList ++ rest))) : W p l e R s m args below meth c H locs cells slots Q (F0 m pc ls st0) := by
  intro T hT X
  rcases hr T hT X with ⟨v, st₀, t, T', L, h0, X', hL, e1, e2, ⟨⟨w, hv, hp⟩, hF⟩, st⟩ | ⟨q, st₀, t, T', L, E, ce, h0, X', hL, e1, e2, ⟨hp, hF⟩, hce, hcv, hcl, st⟩
  · cases hv
    obtain ⟨k1, k2, k3⟩ := vx_keep h0 e1 hS (fun q _ h => h) (fun q h => h) hL hF
    obtain ⟨t2, a1, b1⟩ := kk v T'.heap (locs ++ L) (by rw [e1]; exact hp) k3 T' rfl X'
    exact ⟨t2, st t2 a1, b1⟩
  · obtain ⟨k1, k2, k3⟩ := vx_keep h0 e1 hS (fun q _ h => h) (fun q h => h) hL hF
    obtain ⟨t2, a1, b1⟩ := kx E ce q T'.heap (locs ++ L) (by rw [e1]; exact hp) k3 (by rw [e1]; exact hce) hcv hcl T' rfl X'
    exact ⟨t2, st.trans a1, b1⟩
theorem g_goi {f : Int32 → Heap → Prop} (hr : vx_Run p l e R s m args below meth c H locs cells slots mc ms (F0 m pc ls st0) rest (gQ G (gi f) a) (gXC G gNo) (gA G)) (hS : va_S (gA G) H0 H locs)
    (kk : ∀ (r : Int32) (H1 : Heap) (locs1 : List Loc), f r H1 → va_S (gA G) H0 H1 locs1 → W p l e R s m args below meth c H1 locs1 (cells + mc) (slots + ms) Q (F0 m (pc + 3) ls (.int r :: rest))) : W p l e R s m args below meth c H locs cells slots Q (F0 m pc ls st0) :=
  g_go hr hS (fun _ _ _ _ _ h => h.elim) (fun v H1 locs1 h hS => by obtain ⟨r, rfl, h⟩ := h; exact kk r H1 locs1 h hS)
theorem g_gov {f : Heap → Prop} (hr : vx_Run p l e R s m args below meth c H locs cells slots mc ms (F0 m pc ls st0) rest (gQ G (gv f) a) (gXC G gNo) (gA G)) (hS : va_S (gA G) H0 H locs)
    (kk : ∀ (H1 : Heap) (locs1 : List Loc), f H1 → va_S (gA G) H0 H1 locs1 → W p l e R s m args below meth c H1 locs1 (cells + mc) (slots + ms) Q (F0 m (pc + 3) ls rest)) : W p l e R s m args below meth c H locs cells slots Q (F0 m pc ls st0) :=
  g_go hr hS (fun _ _ _ _ _ h => h.elim) (fun v H1 locs1 h hS => by obtain ⟨rfl, h⟩ := h; exact kk H1 locs1 h hS)
theorem g_goq {f : Option Nat → Heap → Prop} (hr : vx_Run p l e R s m args below meth c H locs cells slots mc ms (F0 m pc ls st0) rest (gQ G (gq f) a) (gXC G gNo) (gA G)) (hS : va_S (gA G) H0 H locs)
    (kk : ∀ (r : Option Nat) (H1 : Heap) (locs1 : List Loc), f r H1 → va_S (gA G) H0 H1 locs1 → W p l e R s m args below meth c H1 locs1 (cells + mc) (slots + ms) Q (F0 m (pc + 3) ls (va_rf r :: rest))) : W p l e R s m args below meth c H locs cells slots Q (F0 m pc ls st0) :=
  g_go hr hS (fun _ _ _ _ _ h => h.elim) (fun v H1 locs1 h hS => by obtain ⟨r, rfl, h⟩ := h; exact kk r H1 locs1 h hS)
/-- the same, of callees that may throw: 'kx' tells what comes of a throw -/
theorem g_xoi {f : Int32 → Heap → Prop} (hr : vx_Run p l e R s m args below meth c H locs cells slots mc ms (F0 m pc ls st0) rest (gQ G (gi f) a) (gXC G xp) (gA G)) (hS : va_S (gA G) H0 H locs)
    (kx : ∀ (E : String) (ce : Cell) (q9 : Addr) (H1 : Heap) (locs1 : List Loc), xp E H1 → va_S (gA G) H0 H1 locs1 → H1[q9]? = some ce → ce.vm = .none → s.vm.findClass E = some ce.cls → vx_W p l e R s m args below meth c H1 locs1 (cells + mc) (slots + ms) Q (F0 m pc ls rest) q9)
    (kk : ∀ (r : Int32) (H1 : Heap) (locs1 : List Loc), f r H1 → va_S (gA G) H0 H1 locs1 → W p l e R s m args below meth c H1 locs1 (cells + mc) (slots + ms) Q (F0 m (pc + 3) ls (.int r :: rest))) : W p l e R s m args below meth c H locs cells slots Q (F0 m pc ls st0) :=
  g_go hr hS kx (fun v H1 locs1 h hS => by obtain ⟨r, rfl, h⟩ := h; exact kk r H1 locs1 h hS)
theorem g_xov {f : Heap → Prop} (hr : vx_Run p l e R s m args below meth c H locs cells slots mc ms (F0 m pc ls st0) rest (gQ G (gv f) a) (gXC G xp) (gA G)) (hS : va_S (gA G) H0 H locs)
    (kx : ∀ (E : String) (ce : Cell) (q9 : Addr) (H1 : Heap) (locs1 : List Loc), xp E H1 → va_S (gA G) H0 H1 locs1 → H1[q9]? = some ce → ce.vm = .none → s.vm.findClass E = some ce.cls → vx_W p l e R s m args below meth c H1 locs1 (cells + mc) (slots + ms) Q (F0 m pc ls rest) q9)
    (kk : ∀ (H1 : Heap) (locs1 : List Loc), f H1 → va_S (gA G) H0 H1 locs1 → W p l e R s m args below meth c H1 locs1 (cells + mc) (slots + ms) Q (F0 m (pc + 3) ls rest)) : W p l e R s m args below meth c H locs cells slots Q (F0 m pc ls st0) :=
  g_go hr hS kx (fun v H1 locs1 h hS => by obtain ⟨rfl, h⟩ := h; exact kk H1 locs1 h hS)
theorem g_xoq {f : Option Nat → Heap → Prop} (hr : vx_Run p l e R s m args below meth c H locs cells slots mc ms (F0 m pc ls st0) rest (gQ G (gq f) a) (gXC G xp) (gA G)) (hS : va_S (gA G) H0 H locs)
    (kx : ∀ (E : String) (ce : Cell) (q9 : Addr) (H1 : Heap) (locs1 : List Loc), xp E H1 → va_S (gA G) H0 H1 locs1 → H1[q9]? = some ce → ce.vm = .none → s.vm.findClass E = some ce.cls → vx_W p l e R s m args below meth c H1 locs1 (cells + mc) (slots + ms) Q (F0 m pc ls rest) q9)
    (kk : ∀ (r : Option Nat) (H1 : Heap) (locs1 : List Loc), f r H1 → va_S (gA G) H0 H1 locs1 → W p l e R s m args below meth c H1 locs1 (cells + mc) (slots + ms) Q (F0 m (pc + 3) ls (va_rf r :: rest))) : W p l e R s m args below meth c H locs cells slots Q (F0 m pc ls st0) :=
  g_go hr hS kx (fun v H1 locs1 h hS => by obtain ⟨r, rfl, h⟩ := h; exact kk r H1 locs1 h hS)
/-- a callee's start -/
theorem g_pre {As : List Value} (hX : gX G s s.heap) (hS : va_S (gA G) s.heap H locs) : PreS s H (va_Pc As (fun U => U.heap = H ∧ gX G U H)) As :=
  ⟨fun a U g mk q => by
    obtain ⟨q0, q1, q2, q3, q4⟩ := q
    refine ⟨q0, q1, q2.warm ?_, ?_, ?_⟩
    · exact State.WarmedH.refl _
    · exact q3.moved (Vm.Alike.refl _)
    · exact ⟨q4.1.moved (Vm.Alike.refl _), q4.2⟩,
   fun U hU hW => ⟨rfl, hU, hX.go hS hW⟩⟩
theorem g_preV {As : List Value} {b : Addr} {ci : Nat} {fs : List Value} {C : String} {T : u_T} {N : Nat} (hX : gX G s s.heap) (hS : va_S (gA G) s.heap H locs) (hc : vwCl[ci]? = some (C, T, N)) (h : gat G b (.inr (ci, fs)) H) : PreV s H C b (va_Pc (.ref b :: As) (fun U => U.heap = H ∧ gX G U H)) As :=
  ⟨(g_pre hX hS).1, va_recv (q := (C, T, N)) (q0 := 0) hX.1.1 h.P hc rfl, (g_pre hX hS).2⟩
end GB
section GR
variable {p : Program} {l : Launch} {e : Env} {R : Room} {s : State} {m : MethodId} {args : Array Value} {below : List Frame} {meth : Method} {c : Code} {H : Heap} {locs : List Loc} {cells slots : Nat} {Q : State → Prop}
variable {G : gG} {H0 : Heap} {a : Nat} {pc : Nat} {ls : Array Slot} {rest : List Value} {cc : ByteArray}
theorem g_get (hexec : p.tables.exec = Jvm.exec) (hb : c.code = cc) (hX : gX G s H0) {own C : String} {T : u_T} {N ci index : Nat} {Ts : List Cond} (hts : ∀ w ∈ Ts, w.before args s = true) (hin : ∀ w ∈ u_ws C T N, w ∈ Ts) (hown : s.vm.findClass own = some m.cls) {fs : List Value} (he : gat G a (.inr (ci, fs)) H) (hc : vwCl[ci]? = some (C, T, N)) (k : Nat) (hk : k < N) (hlink : (Cond.fieldLink own index (T k).1 (T k).2.1 (T k).2.2.1).before args s = true) {v : Value} (hv : fs[k]? = some v) (hdg : decode cc pc = .ok (.getfield index, 3))
    (kk : W p l e R s m args below meth c H locs cells slots Q (F0 m (pc + 3) ls (v :: rest))) : W p l e R s m args below meth c H locs cells slots Q (F0 m pc ls (.ref a :: rest)) :=
  va_get hexec hb hts hin hown hX.1.1 he.P 0 rfl hc k hk hlink (fun _ h => h) hv hdg kk
theorem g_getN (hexec : p.tables.exec = Jvm.exec) (hb : c.code = cc) (hX : gX G s H0) {own C host : String} {T : u_T} {N ci index : Nat} {Ts : List Cond} (hts : ∀ w ∈ Ts, w.before args s = true) (hin : ∀ w ∈ u_ws C T N, w ∈ Ts) (hown : s.vm.findClass own = some m.cls) {fs : List Value} (he : gat G a (.inr (ci, fs)) H) (hc : vwCl[ci]? = some (C, T, N)) (k : Nat) (hk : k < N) (hw : Cond.fieldLinkNest own index (T k).1 (T k).2.1 (T k).2.2.1 host ∈ gNW) {v : Value} (hv : fs[k]? = some v) (hdg : decode cc pc = .ok (.getfield index, 3))
    (kk : W p l e R s m args below meth c H locs cells slots Q (F0 m (pc + 3) ls (v :: rest))) : W p l e R s m args below meth c H locs cells slots Q (F0 m pc ls (.ref a :: rest)) :=
  va_getN hexec hb hts hin hown hX.1.1 he.P 0 rfl hc k hk (va_Nw.use rfl (hX.1.2.1 _ hw)) (fun _ h => h) hv hdg kk
theorem g_put (hexec : p.tables.exec = Jvm.exec) (hb : c.code = cc) (hX : gX G s H0) {own C : String} {T : u_T} {N ci index : Nat} {Ts : List Cond} (hts : ∀ w ∈ Ts, w.before args s = true) (hin : ∀ w ∈ u_ws C T N, w ∈ Ts) (ty0 : Nat → FieldType) (hty : ∀ k, k < N → parseFieldDescriptor (T k).2.2.1 = some (ty0 k)) (hnm : ∀ a, a < N → ∀ b, b < N → a ≠ b → (T a).2.1 ≠ (T b).2.1) (hown : s.vm.findClass own = some m.cls) (hS0 : va_S (gA G) H0 H locs) {fs : List Value} (he : gat G a (.inr (ci, fs)) H) (hga : gB G ≤ a) (hc : vwCl[ci]? = some (C, T, N)) (k : Nat) (hk : k < N) (hlink : (Cond.fieldLink own index (T k).1 (T k).2.1 (T k).2.2.1).before args s = true) (hfin : (T k).2.2.2 = false) {ty : FieldType} {v : Value} (hd : parseFieldDescriptor (T k).2.2.1 = some ty) (hn : narrow ty v = v) (hfit : fits ty v = true) (hl : k < fs.length)
    (hdg : decode cc pc = .ok (.putfield index, 3)) (kk : ∀ (H1 : Heap) (locs1 : List Loc), gat G a (.inr (ci, fs.set k v)) H1 → gOnly [a] H H1 → va_S (gA G) H0 H1 locs1 → W p l e R s m args below meth c H1 locs1 cells slots Q (F0 m (pc + 3) ls rest)) : W p l e R s m args below meth c H locs cells slots Q (F0 m pc ls (v :: .ref a :: rest)) := by
  have hK := hX.1.1
  have hap := va_apart (own := own) hts hin ty0 hty hnm hK hc
  obtain ⟨r, h1, cell, q1, q2, q3, q4⟩ := he
  have hr : r = (C, T, N) := Option.some.inj (h1.symm.trans hc)
  subst hr
  obtain ⟨hS, hfc, kC, hkC, hkind⟩ := hK.1 ci _ hc
  obtain ⟨cf, kf, fi, f, hi, hsl⟩ := hS k hk
  have hlay := hts _ (hin _ (u_in_lay hk))
  unfold u_lay at hlay
  rw [if_neg (by rw [hfin]; decide)] at hlay
  have hst := (u_facts hfc hkC (u_lays hts hin hk) hi).1
  have h6 := u_store hfc hkC hkind hlay hi hd hn hfit
  refine W.putK hexec hb (f := f) ⟨hown, hlink, ⟨_, _, _, hi⟩, hst⟩ (by rw [q2]; exact h6) q1 q3 (by rw [hsl]; exact k2_hasslot (q4 k hk)) rfl rfl hdg fun H' e1 e2 e3 => ?_
  rw [hsl] at e1 ⊢
  refine kk H' _ ⟨_, hc, t_OB.to (V := updV (vp_V fs) k v) ⟨_, e1, q2, q3, t_set q4 hap hk v⟩ (fun j _ => vp_updV_set hl v j)⟩ ⟨e2, fun q hq => e3 q (fun h => hq (by rw [h]; exact List.mem_singleton.mpr rfl))⟩ (hS0.put e2 e3 hga)
theorem g_putN (hexec : p.tables.exec = Jvm.exec) (hb : c.code = cc) (hX : gX G s H0) {own C host : String} {T : u_T} {N ci index : Nat} {Ts : List Cond} (hts : ∀ w ∈ Ts, w.before args s = true) (hin : ∀ w ∈ u_ws C T N, w ∈ Ts) (ty0 : Nat → FieldType) (hty : ∀ k, k < N → parseFieldDescriptor (T k).2.2.1 = some (ty0 k)) (hnm : ∀ a, a < N → ∀ b, b < N → a ≠ b → (T a).2.1 ≠ (T b).2.1) (hown : s.vm.findClass own = some m.cls) (hS0 : va_S (gA G) H0 H locs) {fs : List Value} (he : gat G a (.inr (ci, fs)) H) (hga : gB G ≤ a) (hc : vwCl[ci]? = some (C, T, N)) (k : Nat) (hk : k < N) (hw : Cond.fieldLinkNest own index (T k).1 (T k).2.1 (T k).2.2.1 host ∈ gNW) (hfin : (T k).2.2.2 = false) {ty : FieldType} {v : Value} (hd : parseFieldDescriptor (T k).2.2.1 = some ty) (hn : narrow ty v = v) (hfit : fits ty v = true) (hl : k < fs.length)
    (hdg : decode cc pc = .ok (.putfield index, 3)) (kk : ∀ (H1 : Heap) (locs1 : List Loc), gat G a (.inr (ci, fs.set k v)) H1 → gOnly [a] H H1 → va_S (gA G) H0 H1 locs1 → W p l e R s m args below meth c H1 locs1 cells slots Q (F0 m (pc + 3) ls rest)) : W p l e R s m args below meth c H locs cells slots Q (F0 m pc ls (v :: .ref a :: rest)) := by
  have hK := hX.1.1
  have hap := va_apart (own := own) hts hin ty0 hty hnm hK hc
  obtain ⟨r, h1, cell, q1, q2, q3, q4⟩ := he
  have hr : r = (C, T, N) := Option.some.inj (h1.symm.trans hc)
  subst hr
  obtain ⟨hS, hfc, kC, hkC, hkind⟩ := hK.1 ci _ hc
  obtain ⟨cf, kf, fi, f, hi, hsl⟩ := hS k hk
  have hlay := hts _ (hin _ (u_in_lay hk))
  unfold u_lay at hlay
  rw [if_neg (by rw [hfin]; decide)] at hlay
  have hst := (u_facts hfc hkC (u_lays hts hin hk) hi).1
  have h6 := u_store hfc hkC hkind hlay hi hd hn hfit
  refine va_WputK hexec hb hown (va_Nw.use rfl (hX.1.2.1 _ hw)) hi hst (by rw [q2]; exact h6) q1 q3 (by rw [hsl]; exact k2_hasslot (q4 k hk)) rfl rfl hdg fun H' e1 e2 e3 => ?_
  rw [hsl] at e1 ⊢
  refine kk H' _ ⟨_, hc, t_OB.to (V := updV (vp_V fs) k v) ⟨_, e1, q2, q3, t_set q4 hap hk v⟩ (fun j _ => vp_updV_set hl v j)⟩ ⟨e2, fun q hq => e3 q (fun h => hq (by rw [h]; exact List.mem_singleton.mpr rfl))⟩ (hS0.put e2 e3 hga)
theorem g_putF (hexec : p.tables.exec = Jvm.exec) (hb : c.code = cc) (hX : gX G s H0) {own C : String} {T : u_T} {N ci index : Nat} {Ts : List Cond} (hts : ∀ w ∈ Ts, w.before args s = true) (hin : ∀ w ∈ u_ws C T N, w ∈ Ts) (ty0 : Nat → FieldType) (hty : ∀ k, k < N → parseFieldDescriptor (T k).2.2.1 = some (ty0 k)) (hnm : ∀ a, a < N → ∀ b, b < N → a ≠ b → (T a).2.1 ≠ (T b).2.1) (hown : s.vm.findClass own = some m.cls) (hS0 : va_S (gA G) H0 H locs) {fs : List Value} (he : gat G a (.inr (ci, fs)) H) (hga : gB G ≤ a) (hc : vwCl[ci]? = some (C, T, N)) (k : Nat) (hk : k < N) (hlink : (Cond.fieldLink own index (T k).1 (T k).2.1 (T k).2.2.1).before args s = true) (hfin : (T k).2.2.2 = true) (hin2 : meth.name = "<init>") (hdecl : (T k).1 = own) {ty : FieldType} {v : Value} (hd : parseFieldDescriptor (T k).2.2.1 = some ty) (hn : narrow ty v = v) (hfit : fits ty v = true) (hl : k < fs.length)
    (hdg : decode cc pc = .ok (.putfield index, 3)) (kk : ∀ (H1 : Heap) (locs1 : List Loc), gat G a (.inr (ci, fs.set k v)) H1 → gOnly [a] H H1 → va_S (gA G) H0 H1 locs1 → W p l e R s m args below meth c H1 locs1 cells slots Q (F0 m (pc + 3) ls rest)) : W p l e R s m args below meth c H locs cells slots Q (F0 m pc ls (v :: .ref a :: rest)) := by
  have hK := hX.1.1
  have hap := va_apart (own := own) hts hin ty0 hty hnm hK hc
  obtain ⟨r, h1, cell, q1, q2, q3, q4⟩ := he
  have hr : r = (C, T, N) := Option.some.inj (h1.symm.trans hc)
  subst hr
  obtain ⟨hS, hfc, kC, hkC, hkind⟩ := hK.1 ci _ hc
  obtain ⟨cf, kf, fi, f, hi, hsl⟩ := hS k hk
  have hlay := hts _ (hin _ (u_in_lay hk))
  unfold u_lay at hlay
  rw [if_pos hfin] at hlay
  have hst := (u_facts hfc hkC (u_lays hts hin hk) hi).1
  have hcf : m.cls = cf := by
    obtain ⟨_, _, c', _, _, _, -, -, hf', -, -, -, hown2, -⟩ := Cond.laysFinal_spec hlay
    have e1 : c' = cf := by have := hi.symm.trans hf'; simp at this; exact this.1.symm
    rw [hdecl] at hown2
    rw [← e1]; exact Option.some.inj (hown.symm.trans hown2)
  have h6 := u_fits hfc hkC hkind (Or.inr hlay) hi hd hn hfit
  refine W.putFinK hexec hb hown hlink hi hst hcf hin2 (by rw [q2]; exact h6) q1 q3 (by rw [hsl]; exact k2_hasslot (q4 k hk)) rfl rfl hdg fun H' e1 e2 e3 => ?_
  rw [hsl] at e1 ⊢
  refine kk H' _ ⟨_, hc, t_OB.to (V := updV (vp_V fs) k v) ⟨_, e1, q2, q3, t_set q4 hap hk v⟩ (fun j _ => vp_updV_set hl v j)⟩ ⟨e2, fun q hq => e3 q (fun h => hq (by rw [h]; exact List.mem_singleton.mpr rfl))⟩ (hS0.put e2 e3 hga)
theorem g_iald (hexec : p.tables.exec = Jvm.exec) (hb : c.code = cc) (hX : gX G s H0) {n : Nat} {f : Nat → Int32} (he : gat G a (.inl (gI G, n, .inl f)) H) {i : Int32} (hin : vp_in i n) (hdg : decode cc pc = .ok (.iaload, 1))
    (kk : W p l e R s m args below meth c H locs cells slots Q (F0 m (pc + 1) ls (.int (f i.toNatClampNeg) :: rest))) : W p l e R s m args below meth c H locs cells slots Q (F0 m pc ls (.int i :: .ref a :: rest)) :=
  va_iald hexec hb hX.1.1 he.P 0 0 rfl rfl hin hdg kk
theorem g_zald (hexec : p.tables.exec = Jvm.exec) (hb : c.code = cc) (hX : gX G s H0) {n : Nat} {f : Nat → Int32} (he : gat G a (.inl (gZ G, n, .inl f)) H) {i : Int32} (hin : vp_in i n) (hdg : decode cc pc = .ok (.baload, 1))
    (kk : W p l e R s m args below meth c H locs cells slots Q (F0 m (pc + 1) ls (.int (f i.toNatClampNeg) :: rest))) : W p l e R s m args below meth c H locs cells slots Q (F0 m pc ls (.int i :: .ref a :: rest)) :=
  va_zald hexec hb hX.1.1 he.P 0 1 rfl rfl hin hdg kk
theorem g_lald (hexec : p.tables.exec = Jvm.exec) (hb : c.code = cc) (hX : gX G s H0) {n : Nat} {f : Nat → Int64} (he : gat G a (.inl (gJ G, n, .inr (.inl f))) H) {i : Int32} (hin : vp_in i n) (hdg : decode cc pc = .ok (.laload, 1))
    (kk : W p l e R s m args below meth c H locs cells slots Q (F0 m (pc + 1) ls (.long (f i.toNatClampNeg) :: rest))) : W p l e R s m args below meth c H locs cells slots Q (F0 m pc ls (.int i :: .ref a :: rest)) :=
  va_lald hexec hb hX.1.1 he.P 0 3 rfl rfl hin hdg kk
theorem g_aald (hexec : p.tables.exec = Jvm.exec) (hb : c.code = cc) (hX : gX G s H0) {n : Nat} {f : Nat → Option Nat} (he : gat G a (.inl (gT G, n, .inr (.inr (.inr (.inr f))))) H) {i : Int32} (hin : vp_in i n) (hdg : decode cc pc = .ok (.aaload, 1))
    (kk : W p l e R s m args below meth c H locs cells slots Q (F0 m (pc + 1) ls (va_rf (f i.toNatClampNeg) :: rest))) : W p l e R s m args below meth c H locs cells slots Q (F0 m pc ls (.int i :: .ref a :: rest)) :=
  va_aldq hexec hb hX.1.1 he.P 0 2 rfl rfl hin hdg kk
theorem g_alenI (hexec : p.tables.exec = Jvm.exec) (hb : c.code = cc) (hX : gX G s H0) {n : Nat} {f : Nat → Int32} (he : gat G a (.inl (gI G, n, .inl f)) H) (hdg : decode cc pc = .ok (.arraylength, 1))
    (kk : W p l e R s m args below meth c H locs cells slots Q (F0 m (pc + 1) ls (.int (nI n) :: rest))) : W p l e R s m args below meth c H locs cells slots Q (F0 m pc ls (.ref a :: rest)) :=
  va_alen hexec hb hX.1.1 he.P 0 0 rfl rfl rfl hdg kk
theorem g_alenT (hexec : p.tables.exec = Jvm.exec) (hb : c.code = cc) (hX : gX G s H0) {n : Nat} {f : Nat → Option Nat} (he : gat G a (.inl (gT G, n, .inr (.inr (.inr (.inr f))))) H) (hdg : decode cc pc = .ok (.arraylength, 1))
    (kk : W p l e R s m args below meth c H locs cells slots Q (F0 m (pc + 1) ls (.int (nI n) :: rest))) : W p l e R s m args below meth c H locs cells slots Q (F0 m pc ls (.ref a :: rest)) :=
  va_alen hexec hb hX.1.1 he.P 0 2 rfl rfl rfl hdg kk
theorem gD1 {A : Nat → Prop} {a : Nat} {e : va_E} (h : A a) : va_D A [(a, e)] := by
  refine ⟨fun i j p q hi hj _ => ?_, fun k q hk => ?_⟩
  · have h1 := (List.getElem?_eq_some_iff.mp hi).1
    have h2 := (List.getElem?_eq_some_iff.mp hj).1
    simp at h1 h2
    omega
  · match k, hk with
    | 0, hk => cases hk; exact h
    | k + 1, hk => simp at hk
theorem g_iast (hexec : p.tables.exec = Jvm.exec) (hb : c.code = cc) (hX : gX G s H0) (hS : va_S (gA G) H0 H locs) {n : Nat} {f : Nat → Int32} (he : gat G a (.inl (gI G, n, .inl f)) H) (hga : gB G ≤ a) {i x : Int32} (hin : vp_in i n) (hdg : decode cc pc = .ok (.iastore, 1))
    (kk : ∀ (H1 : Heap) (locs1 : List Loc), gat G a (.inl (gI G, n, .inl (upd f i.toNatClampNeg x))) H1 → gOnly [a] H H1 → va_S (gA G) H0 H1 locs1 → W p l e R s m args below meth c H1 locs1 cells slots Q (F0 m (pc + 1) ls rest)) : W p l e R s m args below meth c H locs cells slots Q (F0 m pc ls (.int x :: .int i :: .ref a :: rest)) := by
  have hT := (hX.1.1.2 0 _ rfl).1
  refine W.iast hexec hb he (hT n (fun j => .int (f j))) (fun q => by cases q) (by show ¬ (i < 0 ∨ (arrV _ _ _).slots.size ≤ _); rw [arrV_size]; exact hin) rfl rfl hdg fun H1 e z oq => ?_
  refine kk H1 _ ?_ ⟨z, fun q hq => oq q (fun h => hq (by rw [h]; exact List.mem_singleton.mpr rfl))⟩ (hS.put z oq hga)
  show H1[a]? = some (vp_cell _ _)
  rw [e]
  rw [vp_cell_i, vp_cell_i, arrV_store]
  congr 2
  funext q
  by_cases hq : q = i.toNatClampNeg
  · subst hq
    simp [updV, upd]
  · simp [updV, upd, hq]
end GR
section GR2
variable {p : Program} {l : Launch} {e : Env} {R : Room} {s : State} {m : MethodId} {args : Array Value} {below : List Frame} {meth : Method} {c : Code} {H : Heap} {locs : List Loc} {cells slots : Nat} {Q : State → Prop}
variable {G : gG} {H0 : Heap} {a : Nat} {pc : Nat} {ls : Array Slot} {rest : List Value} {cc : ByteArray}
theorem g_zast (hexec : p.tables.exec = Jvm.exec) (hb : c.code = cc) (hX : gX G s H0) (hS : va_S (gA G) H0 H locs) {n : Nat} {f : Nat → Int32} (he : gat G a (.inl (gZ G, n, .inl f)) H) (hga : gB G ≤ a) {i x : Int32} (hin : vp_in i n) (hdg : decode cc pc = .ok (.bastore, 1))
    (kk : ∀ (H1 : Heap) (locs1 : List Loc), gat G a (.inl (gZ G, n, .inl (upd f i.toNatClampNeg (vp_nar .boolean x)))) H1 → gOnly [a] H H1 → va_S (gA G) H0 H1 locs1 → W p l e R s m args below meth c H1 locs1 cells slots Q (F0 m (pc + 1) ls rest)) : W p l e R s m args below meth c H locs cells slots Q (F0 m pc ls (.int x :: .int i :: .ref a :: rest)) := by
  have hT := (hX.1.1.2 1 _ rfl).1
  refine W.zast hexec hb he (hT n (fun j => .int (f j))) (fun q => by cases q) (by show ¬ (i < 0 ∨ (arrV _ _ _).slots.size ≤ _); rw [arrV_size]; exact hin) rfl rfl hdg fun H1 e z oq => ?_
  refine kk H1 _ ?_ ⟨z, fun q hq => oq q (fun h => hq (by rw [h]; exact List.mem_singleton.mpr rfl))⟩ (hS.put z oq hga)
  show H1[a]? = some (vp_cell _ _)
  rw [e]
  rw [vp_cell_i, vp_cell_i, arrV_store]
  congr 2
  funext q
  by_cases hq : q = i.toNatClampNeg
  · subst hq
    simp [updV, upd, vp_nar]
    try rfl
  · simp [updV, upd, hq]
theorem g_last (hexec : p.tables.exec = Jvm.exec) (hb : c.code = cc) (hX : gX G s H0) (hS : va_S (gA G) H0 H locs) {n : Nat} {f : Nat → Int64} (he : gat G a (.inl (gJ G, n, .inr (.inl f))) H) (hga : gB G ≤ a) {i : Int32} {x : Int64} (hin : vp_in i n) (hdg : decode cc pc = .ok (.lastore, 1))
    (kk : ∀ (H1 : Heap) (locs1 : List Loc), gat G a (.inl (gJ G, n, .inr (.inl (vp_updL f i.toNatClampNeg x)))) H1 → gOnly [a] H H1 → va_S (gA G) H0 H1 locs1 → W p l e R s m args below meth c H1 locs1 cells slots Q (F0 m (pc + 1) ls rest)) : W p l e R s m args below meth c H locs cells slots Q (F0 m pc ls (.long x :: .int i :: .ref a :: rest)) := by
  have hT := (hX.1.1.2 3 _ rfl).1
  refine W.last hexec hb he (hT n (fun j => .long (f j))) (fun q => by cases q) (by show ¬ (i < 0 ∨ (arrV _ _ _).slots.size ≤ _); rw [arrV_size]; exact hin) rfl rfl hdg fun H1 e z oq => ?_
  refine kk H1 _ ?_ ⟨z, fun q hq => oq q (fun h => hq (by rw [h]; exact List.mem_singleton.mpr rfl))⟩ (hS.put z oq hga)
  show H1[a]? = some (vp_cell _ _)
  rw [e]
  rw [vp_cell_l, vp_cell_l, arrV_store]
  congr 2
  funext q
  by_cases hq : q = i.toNatClampNeg
  · subst hq
    simp [updV, vp_updL]
  · simp [updV, vp_updL, hq]
theorem g_aast (hexec : p.tables.exec = Jvm.exec) (hb : c.code = cc) (hX : gX G s H0) (hS : va_S (gA G) H0 H locs) {n v : Nat} {vs : List Value} {f : Nat → Option Nat} (he : gat G a (.inl (gT G, n, .inr (.inr (.inr (.inr f))))) H) (hga : gB G ≤ a) (hv : gat G v (.inr (3, vs)) H) {i : Int32} (hin : vp_in i n) (hdg : decode cc pc = .ok (.aastore, 1))
    (kk : ∀ (H1 : Heap) (locs1 : List Loc), gat G a (.inl (gT G, n, .inr (.inr (.inr (.inr (va_up f i.toNatClampNeg (some v))))))) H1 → gOnly [a] H H1 → va_S (gA G) H0 H1 locs1 → W p l e R s m args below meth c H1 locs1 cells slots Q (F0 m (pc + 1) ls rest)) : W p l e R s m args below meth c H locs cells slots Q (F0 m pc ls (.ref v :: .int i :: .ref a :: rest)) := by
  have hK := hX.1.1
  have hlt : i.toNatClampNeg < n := Nat.not_le.mp fun q => hin (Or.inr q)
  have h0 : ¬ i < 0 := fun q => hin (Or.inl q)
  obtain ⟨r', hr', cellV, g1, g2, g3, -⟩ := hv
  have hcls := (hK.1 3 _ rfl).2
  obtain ⟨kA, comp, k1, k2, k3, -⟩ := (hK.2 2 _ rfl).2
  have hcomp : comp = (gD G).1 3 := Option.some.inj (k3.symm.trans hcls.1)
  subst hcomp
  obtain ⟨kC, hkC, -⟩ := hcls.2
  refine W.aast hexec hb he (fun q h => by cases h) (fun h => by cases h) k1 k2 rfl hkC ⟨h0, by show _ < (arrV _ _ _).slots.size; rw [arrV_size]; exact hlt⟩ g1 (fun q h => by rw [g3] at h; cases h) (by rw [g2]; exact hkC) (by rw [g2]; exact va_assign hcls) rfl rfl hdg fun H1 e z oq => ?_
  refine kk H1 _ ?_ ⟨z, fun q hq => oq q (fun h => hq (by rw [h]; exact List.mem_singleton.mpr rfl))⟩ (hS.put z oq hga)
  show H1[a]? = some (vp_cell _ _)
  rw [e]
  rw [vp_cell_q, vp_cell_q, arrV_store]
  congr 2
  funext q
  by_cases hq : q = i.toNatClampNeg
  · subst hq
    simp [updV, va_up, va_rf]
  · simp [updV, va_up, hq]
theorem gS_new {H1 : Heap} (hS : va_S (gA G) H0 H locs) (x : gExt H H1) : va_S (gA G) H0 H1 locs :=
  ⟨Nat.le_trans hS.1 x.1, fun q h1 h2 => (x.2 q (Nat.lt_of_lt_of_le h1 hS.1)).trans (hS.2.1 q h1 h2), hS.2.2⟩
theorem g_new (hexec : p.tables.exec = Jvm.exec) (hb : c.code = cc) (hX : gX G s H0) {own C : String} {T : u_T} {N ci index : Nat} {Ts : List Cond} (hts : ∀ w ∈ Ts, w.before args s = true) (hin : ∀ w ∈ u_ws C T N, w ∈ Ts) (ty : Nat → FieldType) (hty : ∀ k, k < N → parseFieldDescriptor (T k).2.2.1 = some (ty k)) (hown : s.vm.findClass own = some m.cls) (hcl : (Cond.classLink own index C).before args s = true) (hinst : (Cond.instantiable C N).before args s = true) (hini : (Cond.initialized C).before args s = true)
    (hS : va_S (gA G) H0 H locs) (hc : vwCl[ci]? = some (C, T, N)) {fs : List Value} (hfs : ∀ j, j < N → defaultValue (ty j) = vp_V fs j) (hcells : cells + 1 ≤ R.cells) (hslots : slots + N ≤ R.slots) (hdg : decode cc pc = .ok (.new index, 3))
    (kk : ∀ (H1 : Heap) (q : Nat), q = H.size → gat G q (.inr (ci, fs)) H1 → gB G ≤ q → H1.size = H.size + 1 → gExt H H1 → va_S (gA G) H0 H1 locs →
      W p l e R s m args below meth c H1 locs (cells + 1) (slots + N) Q (F0 m (pc + 3) ls (.ref q :: rest))) : W p l e R s m args below meth c H locs cells slots Q (F0 m pc ls rest) := by
  have hK := hX.1.1
  have hKn := hK.1 ci _ hc
  refine W.newcK hexec hb hown hcl hinst hini rfl hdg hcells hslots hKn.2.1 rfl fun H1 kC hkC e1 z1 o1 => ?_
  have hx : gExt H H1 := ⟨by omega, o1⟩
  exact kk H1 _ rfl ⟨_, hc, (u_born ty hts hin hKn hkC e1 hty).to hfs⟩ (Nat.le_trans hX.2.2.2 hS.1) z1 hx (gS_new hS hx)
theorem g_newa (hexec : p.tables.exec = Jvm.exec) (hb : c.code = cc) (hX : gX G s H0) {atype : ArrayType} (harr : (Cond.arrayClass (newarray.typeOf atype)).before args s = true) {cX : ClassId} (hRA : s.vm.findClass ("[" ++ (newarray.typeOf atype).toString) = some cX) (hS : va_S (gA G) H0 H locs)
    {n : Int32} {N' : Nat} {a0 : vp_A} (ha : vp_cell cX a0 = arrV cX N' (fun _ => defaultValue (newarray.typeOf atype))) (hn : ¬ n < 0) (hN : n.toNatClampNeg = N') (hbytes : N' * componentBytes (newarray.typeOf atype) ≤ 536870912) (hcells : cells + 1 ≤ R.cells) (hslots : slots + N' ≤ R.slots) (hdg : decode cc pc = .ok (.newarray atype, 2))
    (kk : ∀ (H1 : Heap) (q : Nat), q = H.size → gat G q (.inl (cX, a0)) H1 → gB G ≤ q → H1.size = H.size + 1 → gExt H H1 → va_S (gA G) H0 H1 locs →
      W p l e R s m args below meth c H1 locs (cells + 1) (slots + N') Q (F0 m (pc + 2) ls (.ref q :: rest))) : W p l e R s m args below meth c H locs cells slots Q (F0 m pc ls (.int n :: rest)) := by
  refine va_newaK hexec hb harr rfl hdg rfl hn hN hbytes hcells hslots rfl fun H1 cA e1 z1 o1 hAr hNm => ?_
  have hcA : cA = cX := Option.some.inj (hNm.symm.trans hRA)
  subst hcA
  have hx : gExt H H1 := ⟨by omega, o1⟩
  refine kk H1 _ rfl ?_ (Nat.le_trans hX.2.2.2 hS.1) z1 hx (gS_new hS hx)
  show H1[H.size]? = some (vp_cell _ _)
  rw [ha]
  exact e1
theorem g_newT (hexec : p.tables.exec = Jvm.exec) (hb : c.code = cc) (hX : gX G s H0) {own : String} {index : Nat} (hown : s.vm.findClass own = some m.cls) (hclink : (Cond.classLink own index "TuneCatalogue$Tune").before args s = true) (hS : va_S (gA G) H0 H locs)
    {n : Int32} {N' : Nat} (hn : ¬ n < 0) (hN : n.toNatClampNeg = N') (hbytes : N' * 4 ≤ 536870912) (hcells : cells + 1 ≤ R.cells) (hslots : slots + N' ≤ R.slots) (hdg : decode cc pc = .ok (.anewarray index, 3))
    (kk : ∀ (H1 : Heap) (q : Nat), q = H.size → gat G q (.inl (gT G, N', .inr (.inr (.inr (.inr (fun _ => none)))))) H1 → gB G ≤ q → H1.size = H.size + 1 → gExt H H1 → va_S (gA G) H0 H1 locs →
      W p l e R s m args below meth c H1 locs (cells + 1) (slots + N') Q (F0 m (pc + 3) ls (.ref q :: rest))) : W p l e R s m args below meth c H locs cells slots Q (F0 m pc ls (.int n :: rest)) := by
  subst hN
  refine W.anew hexec hb hown hclink (va_AO.use hX.1.2.2.2.2.1) rfl hdg rfl hn hbytes hcells hslots fun cA kA comp f1 f2 f3 f4 => ?_
  obtain ⟨kA2, comp2, k1, k2, k3, k4⟩ := (hX.1.1.2 2 _ rfl).2
  have hcA : cA = gT G := Option.some.inj (f1.symm.trans k4)
  subst hcA
  generalize hH1 : H.push ({ cls := gT G, slots := Array.replicate n.toNatClampNeg .null, vm := .none } : Cell) = H1
  have z1 : H1.size = H.size + 1 := by rw [← hH1, Array.size_push]
  have e1 : H1[H.size]? = some (arrV (gT G) n.toNatClampNeg (fun _ => .null)) := by rw [← hH1, Array.getElem?_push_size, ← arrV_new]
  have o1 : ∀ q : Nat, q < H.size → H1[q]? = H[q]? := fun q hq => by rw [← hH1, Array.getElem?_push, if_neg (Nat.ne_of_lt hq)]
  have hx : gExt H H1 := ⟨by omega, o1⟩
  refine kk H1 _ rfl ?_ (Nat.le_trans hX.2.2.2 hS.1) z1 hx (gS_new hS hx)
  show H1[H.size]? = some (vp_cell _ _)
  rw [vp_cell_q]
  exact e1
/-! ends -/
theorem g_reti {f : Int32 → Heap → Prop} {xp : String → Heap → Prop} {mc ms : Nat} {v : Int32} {ty : FieldType} (hexec : p.tables.exec = Jvm.exec) (hb : c.code = cc) (hr : meth.sig.returnType = some ty) (hlocks : meth.locks = false) (hS : va_S (gA G) s.heap H locs) (hn : narrow ty (.int v) = .int v) (hp : f v H) (hc : cells ≤ mc) (hs : slots ≤ ms) (hdg : decode cc pc = .ok (.ireturn, 1)) :
    W p l e R s m args below meth c H locs cells slots (vx_MQ below (gQ G (gi f)) (gXC G xp) args s mc ms (gA G)) (F0 m pc ls [.int v]) :=
  W.widen hc hs (vx_ret (W.zret (v := v) hexec hb hr hn (fun t ht _ => ⟨⟨_, rfl, v, rfl, by rw [ht]; exact hp⟩, hS.F ht⟩) hS.2.2 hdg hlocks))
theorem g_retv {f : Heap → Prop} {xp : String → Heap → Prop} {mc ms : Nat} (hexec : p.tables.exec = Jvm.exec) (hb : c.code = cc) (hr : meth.sig.returnType = none) (hlocks : meth.locks = false) (hS : va_S (gA G) s.heap H locs) (hp : f H) (hc : cells ≤ mc) (hs : slots ≤ ms) (hdg : decode cc pc = .ok (.return_, 1)) :
    W p l e R s m args below meth c H locs cells slots (vx_MQ below (gQ G (gv f)) (gXC G xp) args s mc ms (gA G)) (F0 m pc ls []) :=
  W.widen hc hs (vx_ret (W.vret hexec hb hr (fun t ht _ => ⟨⟨_, rfl, rfl, by rw [ht]; exact hp⟩, hS.F ht⟩) hS.2.2 hdg hlocks))
theorem g_retq {f : Option Nat → Heap → Prop} {xp : String → Heap → Prop} {mc ms : Nat} {v : Option Nat} {n : String} (hexec : p.tables.exec = Jvm.exec) (hb : c.code = cc) (hr : meth.sig.returnType = some (.object n)) (hlocks : meth.locks = false) (hS : va_S (gA G) s.heap H locs) (hp : f v H) (hc : cells ≤ mc) (hs : slots ≤ ms) (hdg : decode cc pc = .ok (.areturn, 1)) :
    W p l e R s m args below meth c H locs cells slots (vx_MQ below (gQ G (gq f)) (gXC G xp) args s mc ms (gA G)) (F0 m pc ls [va_rf v]) :=
  W.widen hc hs (vx_ret (W.aret (v := va_rf v) hexec hb hr (Or.inl ⟨_, rfl⟩) (va_rf_or v) (fun t ht _ => ⟨⟨_, rfl, v, rfl, by rw [ht]; exact hp⟩, hS.F ht⟩) hS.2.2 hdg hlocks))
theorem g_out {post : Option Value → Heap → Prop} {xp : String → Heap → Prop} {mc ms : Nat} {E : String} {ce : Cell} {q : Addr} (hxt : ∀ x ∈ c.exceptionTable.toList, False) (hlocks : meth.locks = false) (hS : va_S (gA G) s.heap H locs) (hcell : H[q]? = some ce) (hv : ce.vm = .none) (hcl : s.vm.findClass E = some ce.cls) (hp : xp E H) (hc : cells ≤ mc) (hs : slots ≤ ms) :
    vx_W p l e R s m args below meth c H locs cells slots (vx_MQ below (gQ G post) (gXC G xp) args s mc ms (gA G)) (F0 m pc ls rest) q :=
  vx_out (fun x hx => (hxt x hx).elim) hlocks hcell hv hcl (fun t ht _ => ⟨by rw [ht]; exact hp, hS.F ht⟩) hS.2.2 hc hs
theorem g_throw {post : Option Value → Heap → Prop} {xp : String → Heap → Prop} (hexec : p.tables.exec = Jvm.exec) (hb : c.code = cc) (hlf : l.stackTraces = false) {cls text : String} {ik is ic mc ms : Nat}
    (hX : gX G s s.heap) (hown : s.vm.findClass RX4 = some m.cls) (hcls : Bundle.fit cls = true) (hnames : ∀ n ∈ ["java/lang/RuntimeException", "java/lang/Exception"], Bundle.fit n = true)
    (hk : (Cond.classLink RX4 ik cls).before args s = true) (hini : (Cond.initialized cls).before args s = true) (hstr : (is, text) ∈ gStr) (hat : ∀ w ∈ vx_atS RX4 ic cls ["java/lang/RuntimeException", "java/lang/Exception"], w.before args s = true)
    (hgood : ∀ w ∈ Cond.classLink RX4 ik cls :: Cond.initialized cls :: vx_atS RX4 ic cls ["java/lang/RuntimeException", "java/lang/Exception"], vx_ot w = true)
    (hS : va_S (gA G) s.heap H locs) (hsize : ls.size = c.maxLocals)
    (d0 : decode cc pc = .ok (.new ik, 3)) (d3 : decode cc (pc + 3) = .ok (.dup, 1)) (d4 : decode cc (pc + 4) = .ok (.ldc is, 2)) (d6 : decode cc (pc + 6) = .ok (.invokespecial ic, 3)) (d9 : decode cc (pc + 9) = .ok (.athrow, 1))
    (hxt : ∀ x ∈ c.exceptionTable.toList, False) (hRframes : 5 < R.frames) (hRlocals : (rest.map fun v => v.category).sum + 82 ≤ R.locals) (hRcells : cells + 1 ≤ R.cells) (hRslots : slots + 6 ≤ R.slots) (hlocks : meth.locks = false)
    (hp : ∀ H1 : Heap, gExt H H1 → xp cls H1) (hc : cells + 1 ≤ mc) (hs : slots + 6 ≤ ms) :
    W p l e R s m args below meth c H locs cells slots (vx_MQ below (gQ G post) (gXC G xp) args s mc ms (gA G)) (F0 m pc ls rest) :=
  vx_throwS hexec hb hlf hown hcls hnames hk hini (hX.1.2.2.2.1 (is, text) hstr) hat hgood hX.2.1 hX.2.2.1 hS hsize d0 d3 d4 d6 d9 (fun x hx => (hxt x hx).elim) hRframes hRlocals hRcells hRslots hlocks
    (fun t _ h1 h2 => ⟨hp _ ⟨h1, h2⟩, (gS_new hS ⟨h1, h2⟩).F rfl⟩) hS.2.2 hc hs
/-- what holds all through a method's body -/
def gF (p : Program) (s : State) (m : MethodId) (args : Array Value) (meth : Method) (c : Code) (y : MethodName) (ws : List Cond) (cc : ByteArray) (maxL : Nat) (ret : Option FieldType) (G : gG) (H : Heap) : Prop :=
  p.tables.exec = Jvm.exec ∧ c.code = cc ∧ c.maxLocals = maxL ∧ meth.sig.returnType = ret ∧ (∀ w ∈ ws, w.before args s = true) ∧ s.vm.findClass y.cls = some m.cls ∧ meth.locks = false ∧ (∀ x ∈ c.exceptionTable.toList, False) ∧ s.heap = H ∧ gX G s s.heap ∧ meth.name = y.name
theorem g_start {y : MethodName} {ws ws' : List Cond} {rm : Room} {As : List Value} {post : Option Value → Heap → Prop} {xp : String → Heap → Prop} {mc ms maxL : Nat} {ret : Option FieldType} (hy : plainName y.cls = true) (hw : ws = Cond.code y cc maxL ret :: ws') (hn : (lg_sl As).length ≤ maxL)
    (body : ∀ p e s m args below meth c, gF p s m args meth c y ws cc maxL ret G H → ∀ ls : Array Slot, lv_has ls maxL (lv_args 0 As) →
      W p l e rm s m args below meth c H [] 0 0 (vx_MQ below (gQ G post) (gXC G xp) args s mc ms (gA G)) (F0 m 0 ls [])) : gM l y ws rm As G H post xp mc ms := by
  refine vx_ofW hy hw ?_
  intro p e s m args below meth c s₁ B hml hxt hv
  obtain ⟨rfl, hH, hX⟩ := hv
  have hl := lv_entry As (n := maxL) hn
  rw [lg_entry_eq]
  have K := body p e s m As.toArray below meth c ⟨B.exec, B.bytes, hml, B.returns, atoms_spec (ws := ws) B.pre, findClass_of_methodNamed B.named, B.notSynchronized, hxt, hH, (by rw [hH]; exact hX), (name_of_methodNamed B.named B.method).1⟩ _ hl
  rw [← hH] at K
  exact K
end GR2
end
section
/-! ===== ints as the images of whole numbers: zI is additive without conditions, ordered within the range ===== -/
def zI (z : Int) : Int32 := Int32.ofInt z
abbrev rI (z : Int) : Prop := -2147483648 ≤ z ∧ z < 2147483648
theorem zI_add (a b : Int) : zI a + zI b = zI (a + b) := (Int32.ofInt_add a b).symm
theorem zI_sub (a b : Int) : zI a - zI b = zI (a - b) := (Int32.ofInt_sub a b).symm
theorem zI_mul (a b : Int) : zI a * zI b = zI (a * b) := (Int32.ofInt_mul a b).symm
theorem zI_neg (a : Int) : -zI a = zI (-a) := (Int32.ofInt_neg a).symm
theorem zI_toInt {z : Int} (h : rI z) : (zI z).toInt = z := Int32.toInt_ofInt_of_le (by have := h.1; omega) (by have := h.2; omega)
theorem zI_lt {a b : Int} (ha : rI a) (hb : rI b) : zI a < zI b ↔ a < b := by rw [Int32.lt_iff_toInt_lt, zI_toInt ha, zI_toInt hb]
theorem zI_le {a b : Int} (ha : rI a) (hb : rI b) : zI a ≤ zI b ↔ a ≤ b := by rw [Int32.le_iff_toInt_le, zI_toInt ha, zI_toInt hb]
theorem zI_eq {a b : Int} (ha : rI a) (hb : rI b) : zI a = zI b ↔ a = b := by rw [← Int32.toInt_inj, zI_toInt ha, zI_toInt hb]
theorem zI_as (x : Int32) : x = zI x.toInt := (Int32.ofInt_toInt x).symm
theorem zI_n (n : Nat) : nI n = zI n := by
  first | exact (Int32.ofInt_eq_ofNat).symm | exact Int32.ofInt_eq_ofNat.symm | (simp [zI, nI, Int32.ofInt, Int32.ofNat, Int32.toBitVec_inj]; done) | rfl
theorem zI_clamp {z : Int} {k : Nat} (hz : z = k) (hk : k < 2147483648) : (zI z).toNatClampNeg = k := by
  rw [hz, ← zI_n]; exact nI_clamp (by omega)
theorem zI_in {z : Int} {k n : Nat} (hz : z = k) (hk : k < n) (hn : n ≤ 2147483647) : vp_in (zI z) n := by
  rw [hz, ← zI_n]; exact vp_in_nI hk (by omega)
theorem rI_toInt (x : Int32) : rI x.toInt := ⟨by have := x.le_toInt; omega, by have := x.toInt_lt; omega⟩
theorem zI_and (a b : Nat) : zI a &&& zI b = zI ((a &&& b : Nat) : Int) := by
  rw [← zI_n, ← zI_n, ← zI_n]
  apply Int32.toBitVec_inj.1
  show BitVec.ofNat 32 a &&& BitVec.ofNat 32 b = BitVec.ofNat 32 (a &&& b)
  apply BitVec.eq_of_getLsbD_eq
  intro i hi
  simp [hi]
theorem zI_or (a b : Nat) : zI a ||| zI b = zI ((a ||| b : Nat) : Int) := by
  rw [← zI_n, ← zI_n, ← zI_n]
  apply Int32.toBitVec_inj.1
  show BitVec.ofNat 32 a ||| BitVec.ofNat 32 b = BitVec.ofNat 32 (a ||| b)
  apply BitVec.eq_of_getLsbD_eq
  intro i hi
  simp [hi]
theorem zI_xor (a b : Nat) : zI a ^^^ zI b = zI ((a ^^^ b : Nat) : Int) := by
  rw [← zI_n, ← zI_n, ← zI_n]
  apply Int32.toBitVec_inj.1
  show BitVec.ofNat 32 a ^^^ BitVec.ofNat 32 b = BitVec.ofNat 32 (a ^^^ b)
  apply BitVec.eq_of_getLsbD_eq
  intro i hi
  simp [hi]
theorem zs_l : ∀ n, n < 32 → ((nI n &&& 31).toBitVec.smod 32).toNat = n := by decide +kernel
theorem zI_shl {k : Nat} (hk : k < 31) : zI 1 <<< (zI k &&& 31) = zI ((2 ^ k : Nat) : Int) := by
  rw [← zI_n, ← zI_n, show zI 1 = nI 1 from rfl, pk_shlN _ k (zs_l k (by omega)) (by have := Nat.pow_lt_pow_right (a := 2) (by omega) (show k < 32 by omega); omega), Nat.one_mul]
theorem zI_shr {a k : Nat} (ha : a < 2147483648) (hk : k < 31) : zI a >>> (zI k &&& 31) = zI ((a / 2 ^ k : Nat) : Int) := by
  rw [← zI_n, ← zI_n, ← zI_n, pk_shrN (by omega) _ k (zs_l k (by omega))]
theorem zI_abs {a : Int} (ha : -1000000 ≤ a ∧ a ≤ 1000000) : (if 0 ≤ zI a then zI a else 0 - zI a) = zI (if 0 ≤ a then a else -a) := by
  have z0 : (0 : Int32) = zI 0 := rfl
  rw [z0]
  by_cases h : 0 ≤ a
  · rw [if_pos ((zI_le (by decide) ⟨by omega, by omega⟩).mpr h), if_pos h]
  · rw [if_neg (fun q => h ((zI_le (by decide) ⟨by omega, by omega⟩).mp q)), if_neg h, zI_sub, Int.zero_sub]
section GZ
variable {p : Program} {l : Launch} {e : Env} {R : Room} {s : State} {m : MethodId} {args : Array Value} {below : List Frame} {meth : Method} {c : Code} {H : Heap} {locs : List Loc} {cells slots : Nat} {Q : State → Prop}
variable {G : gG} {H0 : Heap} {a : Nat} {pc : Nat} {ls : Array Slot} {rest : List Value} {cc : ByteArray}
theorem gz_iadd (hexec : p.tables.exec = Jvm.exec) (hb : c.code = cc) {x y : Int} (hdg : decode cc pc = .ok (.iadd, 1)) (k : W p l e R s m args below meth c H locs cells slots Q (F0 m (pc + 1) ls (.int (zI (x + y)) :: rest))) : W p l e R s m args below meth c H locs cells slots Q (F0 m (pc) ls (.int (zI y) :: .int (zI x) :: rest)) := lv_iadd hexec hb hdg (by rw [zI_add]; exact k)
theorem gz_isub (hexec : p.tables.exec = Jvm.exec) (hb : c.code = cc) {x y : Int} (hdg : decode cc pc = .ok (.isub, 1)) (k : W p l e R s m args below meth c H locs cells slots Q (F0 m (pc + 1) ls (.int (zI (x - y)) :: rest))) : W p l e R s m args below meth c H locs cells slots Q (F0 m (pc) ls (.int (zI y) :: .int (zI x) :: rest)) := lv_isub hexec hb hdg (by rw [zI_sub]; exact k)
theorem gz_imul (hexec : p.tables.exec = Jvm.exec) (hb : c.code = cc) {x y : Int} (hdg : decode cc pc = .ok (.imul, 1)) (k : W p l e R s m args below meth c H locs cells slots Q (F0 m (pc + 1) ls (.int (zI (x * y)) :: rest))) : W p l e R s m args below meth c H locs cells slots Q (F0 m (pc) ls (.int (zI y) :: .int (zI x) :: rest)) := lv_imul hexec hb hdg (by rw [zI_mul]; exact k)
theorem gz_ineg (hexec : p.tables.exec = Jvm.exec) (hb : c.code = cc) {x : Int} (hdg : decode cc pc = .ok (.ineg, 1)) (k : W p l e R s m args below meth c H locs cells slots Q (F0 m (pc + 1) ls (.int (zI (-x)) :: rest))) : W p l e R s m args below meth c H locs cells slots Q (F0 m (pc) ls (.int (zI x) :: rest)) := lv_ineg hexec hb hdg (by rw [zI_neg]; exact k)
theorem gz_icmp_lt (hexec : p.tables.exec = Jvm.exec) (hb : c.code = cc) {x y : Int} {off : Int} {tgt : Nat} (hx : rI x) (hy : rI y) (hdg : decode cc pc = .ok (.if_icmp .lt off, 3)) (ht : (pc : Int) + off = (tgt : Int)) (kt : (x < y) → W p l e R s m args below meth c H locs cells slots Q (F0 m (tgt) ls (rest))) (kf : ¬ (x < y) → W p l e R s m args below meth c H locs cells slots Q (F0 m (pc + 3) ls (rest))) : W p l e R s m args below meth c H locs cells slots Q (F0 m (pc) ls (.int (zI y) :: .int (zI x) :: rest)) := lv_icmp_lt hexec hb hdg ht (fun h => kt ((zI_lt hx hy).mp h)) (fun h => kf (fun q => h ((zI_lt hx hy).mpr q)))
theorem gz_if_lt (hexec : p.tables.exec = Jvm.exec) (hb : c.code = cc) {x : Int} {off : Int} {tgt : Nat} (hx : rI x) (hdg : decode cc pc = .ok (.ifCond .lt off, 3)) (ht : (pc : Int) + off = (tgt : Int)) (kt : (x < 0) → W p l e R s m args below meth c H locs cells slots Q (F0 m (tgt) ls (rest))) (kf : ¬ (x < 0) → W p l e R s m args below meth c H locs cells slots Q (F0 m (pc + 3) ls (rest))) : W p l e R s m args below meth c H locs cells slots Q (F0 m (pc) ls (.int (zI x) :: rest)) := have z0 : rI 0 := by decide
  lv_if_lt hexec hb hdg ht (fun h => kt ((zI_lt hx z0).mp h)) (fun h => kf (fun q => h ((zI_lt hx z0).mpr q)))
theorem gz_icmp_le (hexec : p.tables.exec = Jvm.exec) (hb : c.code = cc) {x y : Int} {off : Int} {tgt : Nat} (hx : rI x) (hy : rI y) (hdg : decode cc pc = .ok (.if_icmp .le off, 3)) (ht : (pc : Int) + off = (tgt : Int)) (kt : (x ≤ y) → W p l e R s m args below meth c H locs cells slots Q (F0 m (tgt) ls (rest))) (kf : ¬ (x ≤ y) → W p l e R s m args below meth c H locs cells slots Q (F0 m (pc + 3) ls (rest))) : W p l e R s m args below meth c H locs cells slots Q (F0 m (pc) ls (.int (zI y) :: .int (zI x) :: rest)) := lv_icmp_le hexec hb hdg ht (fun h => kt ((zI_le hx hy).mp h)) (fun h => kf (fun q => h ((zI_le hx hy).mpr q)))
theorem gz_if_le (hexec : p.tables.exec = Jvm.exec) (hb : c.code = cc) {x : Int} {off : Int} {tgt : Nat} (hx : rI x) (hdg : decode cc pc = .ok (.ifCond .le off, 3)) (ht : (pc : Int) + off = (tgt : Int)) (kt : (x ≤ 0) → W p l e R s m args below meth c H locs cells slots Q (F0 m (tgt) ls (rest))) (kf : ¬ (x ≤ 0) → W p l e R s m args below meth c H locs cells slots Q (F0 m (pc + 3) ls (rest))) : W p l e R s m args below meth c H locs cells slots Q (F0 m (pc) ls (.int (zI x) :: rest)) := have z0 : rI 0 := by decide
  lv_if_le hexec hb hdg ht (fun h => kt ((zI_le hx z0).mp h)) (fun h => kf (fun q => h ((zI_le hx z0).mpr q)))
theorem gz_icmp_gt (hexec : p.tables.exec = Jvm.exec) (hb : c.code = cc) {x y : Int} {off : Int} {tgt : Nat} (hx : rI x) (hy : rI y) (hdg : decode cc pc = .ok (.if_icmp .gt off, 3)) (ht : (pc : Int) + off = (tgt : Int)) (kt : (y < x) → W p l e R s m args below meth c H locs cells slots Q (F0 m (tgt) ls (rest))) (kf : ¬ (y < x) → W p l e R s m args below meth c H locs cells slots Q (F0 m (pc + 3) ls (rest))) : W p l e R s m args below meth c H locs cells slots Q (F0 m (pc) ls (.int (zI y) :: .int (zI x) :: rest)) := lv_icmp_gt hexec hb hdg ht (fun h => kt ((zI_lt hy hx).mp h)) (fun h => kf (fun q => h ((zI_lt hy hx).mpr q)))
theorem gz_if_gt (hexec : p.tables.exec = Jvm.exec) (hb : c.code = cc) {x : Int} {off : Int} {tgt : Nat} (hx : rI x) (hdg : decode cc pc = .ok (.ifCond .gt off, 3)) (ht : (pc : Int) + off = (tgt : Int)) (kt : (0 < x) → W p l e R s m args below meth c H locs cells slots Q (F0 m (tgt) ls (rest))) (kf : ¬ (0 < x) → W p l e R s m args below meth c H locs cells slots Q (F0 m (pc + 3) ls (rest))) : W p l e R s m args below meth c H locs cells slots Q (F0 m (pc) ls (.int (zI x) :: rest)) := have z0 : rI 0 := by decide
  lv_if_gt hexec hb hdg ht (fun h => kt ((zI_lt z0 hx).mp h)) (fun h => kf (fun q => h ((zI_lt z0 hx).mpr q)))
theorem gz_icmp_ge (hexec : p.tables.exec = Jvm.exec) (hb : c.code = cc) {x y : Int} {off : Int} {tgt : Nat} (hx : rI x) (hy : rI y) (hdg : decode cc pc = .ok (.if_icmp .ge off, 3)) (ht : (pc : Int) + off = (tgt : Int)) (kt : (y ≤ x) → W p l e R s m args below meth c H locs cells slots Q (F0 m (tgt) ls (rest))) (kf : ¬ (y ≤ x) → W p l e R s m args below meth c H locs cells slots Q (F0 m (pc + 3) ls (rest))) : W p l e R s m args below meth c H locs cells slots Q (F0 m (pc) ls (.int (zI y) :: .int (zI x) :: rest)) := lv_icmp_ge hexec hb hdg ht (fun h => kt ((zI_le hy hx).mp h)) (fun h => kf (fun q => h ((zI_le hy hx).mpr q)))
theorem gz_if_ge (hexec : p.tables.exec = Jvm.exec) (hb : c.code = cc) {x : Int} {off : Int} {tgt : Nat} (hx : rI x) (hdg : decode cc pc = .ok (.ifCond .ge off, 3)) (ht : (pc : Int) + off = (tgt : Int)) (kt : (0 ≤ x) → W p l e R s m args below meth c H locs cells slots Q (F0 m (tgt) ls (rest))) (kf : ¬ (0 ≤ x) → W p l e R s m args below meth c H locs cells slots Q (F0 m (pc + 3) ls (rest))) : W p l e R s m args below meth c H locs cells slots Q (F0 m (pc) ls (.int (zI x) :: rest)) := have z0 : rI 0 := by decide
  lv_if_ge hexec hb hdg ht (fun h => kt ((zI_le z0 hx).mp h)) (fun h => kf (fun q => h ((zI_le z0 hx).mpr q)))
theorem gz_icmp_eq (hexec : p.tables.exec = Jvm.exec) (hb : c.code = cc) {x y : Int} {off : Int} {tgt : Nat} (hx : rI x) (hy : rI y) (hdg : decode cc pc = .ok (.if_icmp .eq off, 3)) (ht : (pc : Int) + off = (tgt : Int)) (kt : (x = y) → W p l e R s m args below meth c H locs cells slots Q (F0 m (tgt) ls (rest))) (kf : ¬ (x = y) → W p l e R s m args below meth c H locs cells slots Q (F0 m (pc + 3) ls (rest))) : W p l e R s m args below meth c H locs cells slots Q (F0 m (pc) ls (.int (zI y) :: .int (zI x) :: rest)) := lv_icmp_eq hexec hb hdg ht (fun h => kt ((zI_eq hx hy).mp h)) (fun h => kf (fun q => h ((zI_eq hx hy).mpr q)))
theorem gz_if_eq (hexec : p.tables.exec = Jvm.exec) (hb : c.code = cc) {x : Int} {off : Int} {tgt : Nat} (hx : rI x) (hdg : decode cc pc = .ok (.ifCond .eq off, 3)) (ht : (pc : Int) + off = (tgt : Int)) (kt : (x = 0) → W p l e R s m args below meth c H locs cells slots Q (F0 m (tgt) ls (rest))) (kf : ¬ (x = 0) → W p l e R s m args below meth c H locs cells slots Q (F0 m (pc + 3) ls (rest))) : W p l e R s m args below meth c H locs cells slots Q (F0 m (pc) ls (.int (zI x) :: rest)) := have z0 : rI 0 := by decide
  lv_if_eq hexec hb hdg ht (fun h => kt ((zI_eq hx z0).mp h)) (fun h => kf (fun q => h ((zI_eq hx z0).mpr q)))
theorem gz_icmp_ne (hexec : p.tables.exec = Jvm.exec) (hb : c.code = cc) {x y : Int} {off : Int} {tgt : Nat} (hx : rI x) (hy : rI y) (hdg : decode cc pc = .ok (.if_icmp .ne off, 3)) (ht : (pc : Int) + off = (tgt : Int)) (kt : (¬ x = y) → W p l e R s m args below meth c H locs cells slots Q (F0 m (tgt) ls (rest))) (kf : ¬ (¬ x = y) → W p l e R s m args below meth c H locs cells slots Q (F0 m (pc + 3) ls (rest))) : W p l e R s m args below meth c H locs cells slots Q (F0 m (pc) ls (.int (zI y) :: .int (zI x) :: rest)) := lv_icmp_ne hexec hb hdg ht (fun h => kt (fun q => h ((zI_eq hx hy).mpr q))) (fun h => kf (fun q => q ((zI_eq hx hy).mp h)))
theorem gz_if_ne (hexec : p.tables.exec = Jvm.exec) (hb : c.code = cc) {x : Int} {off : Int} {tgt : Nat} (hx : rI x) (hdg : decode cc pc = .ok (.ifCond .ne off, 3)) (ht : (pc : Int) + off = (tgt : Int)) (kt : (¬ x = 0) → W p l e R s m args below meth c H locs cells slots Q (F0 m (tgt) ls (rest))) (kf : ¬ (¬ x = 0) → W p l e R s m args below meth c H locs cells slots Q (F0 m (pc + 3) ls (rest))) : W p l e R s m args below meth c H locs cells slots Q (F0 m (pc) ls (.int (zI x) :: rest)) := have z0 : rI 0 := by decide
  lv_if_ne hexec hb hdg ht (fun h => kt (fun q => h ((zI_eq hx z0).mpr q))) (fun h => kf (fun q => q ((zI_eq hx z0).mp h)))
theorem gz_idiv (hexec : p.tables.exec = Jvm.exec) (hb : c.code = cc) {x : Int} (k d : Nat) (hx : x = k) (hk : k < 2147483648) (h0 : 0 < d) (hd : d < 2147483648) (hdg : decode cc pc = .ok (.idiv, 1)) (kk : W p l e R s m args below meth c H locs cells slots Q (F0 m (pc + 1) ls (.int (zI ((k / d : Nat) : Int)) :: rest))) : W p l e R s m args below meth c H locs cells slots Q (F0 m (pc) ls (.int (zI d) :: .int (zI x) :: rest)) := by
  refine lv_idiv hexec hb hdg (by rw [← zI_n]; exact nI_ne0 h0 (by omega)) ?_
  rw [hx, ← zI_n, ← zI_n, pk_div (by omega) h0 (by omega), zI_n]
  exact kk
theorem gz_irem (hexec : p.tables.exec = Jvm.exec) (hb : c.code = cc) {x : Int} (k d : Nat) (hx : x = k) (hk : k < 2147483648) (h0 : 0 < d) (hd : d < 2147483648) (hdg : decode cc pc = .ok (.irem, 1)) (kk : W p l e R s m args below meth c H locs cells slots Q (F0 m (pc + 1) ls (.int (zI ((k % d : Nat) : Int)) :: rest))) : W p l e R s m args below meth c H locs cells slots Q (F0 m (pc) ls (.int (zI d) :: .int (zI x) :: rest)) := by
  refine lv_irem hexec hb hdg (by rw [← zI_n]; exact nI_ne0 h0 (by omega)) ?_
  rw [hx, ← zI_n, ← zI_n, pk_rem (by omega) h0 (by omega), zI_n]
  exact kk
theorem zI_max {a b : Int} (ha : rI a) (hb : rI b) : (if zI a < zI b then zI b else zI a) = zI (max a b) := by
  by_cases h : a < b
  · rw [if_pos ((zI_lt ha hb).mpr h), show max a b = b by omega]
  · rw [if_neg (fun q => h ((zI_lt ha hb).mp q)), show max a b = a by omega]
theorem zI_min {a b : Int} (ha : rI a) (hb : rI b) : (if zI b < zI a then zI b else zI a) = zI (min a b) := by
  by_cases h : b < a
  · rw [if_pos ((zI_lt hb ha).mpr h), show min a b = b by omega]
  · rw [if_neg (fun q => h ((zI_lt hb ha).mp q)), show min a b = a by omega]
theorem gz_mmax (hexec : p.tables.exec = Jvm.exec) (hb0 : c.code = cc) (hml : c.maxLocals = ls.size) {own : String} {index : Nat} (hown : s.vm.findClass own = some m.cls) (hlink : (Cond.methodLink own index Lib.Math.max.name).before args s = true) (hstat : (Cond.static Lib.Math.max.name).before args s = true) (hini : (Cond.initialized "java/lang/Math").before args s = true) (hcode : (Cond.code Lib.Math.max.name Lib.Math.max.code 2 (some .int)).before args s = true)
    (hframes : 1 ≤ R.frames) (hlocals : (rest.map fun v => v.category).sum + 13 ≤ R.locals) (hc : cells ≤ R.cells) (hs : slots ≤ R.slots) {a b : Int} (ha : rI a) (hb : rI b) (hdg : decode cc pc = .ok (.invokestatic index, 3))
    (kk : W p l e R s m args below meth c H locs cells slots Q (F0 m (pc + 3) ls (.int (zI (max a b)) :: rest))) : W p l e R s m args below meth c H locs cells slots Q (F0 m (pc) ls (.int (zI b) :: .int (zI a) :: rest)) :=
  va_mmax hexec hb0 hml hown hlink hstat hini hcode hframes hlocals hc hs hdg (by rw [zI_max ha hb]; exact kk)
theorem gz_mmin (hexec : p.tables.exec = Jvm.exec) (hb0 : c.code = cc) (hml : c.maxLocals = ls.size) {own : String} {index : Nat} (hown : s.vm.findClass own = some m.cls) (hlink : (Cond.methodLink own index Lib.Math.min.name).before args s = true) (hstat : (Cond.static Lib.Math.min.name).before args s = true) (hini : (Cond.initialized "java/lang/Math").before args s = true) (hcode : (Cond.code Lib.Math.min.name Lib.Math.min.code 2 (some .int)).before args s = true)
    (hframes : 1 ≤ R.frames) (hlocals : (rest.map fun v => v.category).sum + 13 ≤ R.locals) (hc : cells ≤ R.cells) (hs : slots ≤ R.slots) {a b : Int} (ha : rI a) (hb : rI b) (hdg : decode cc pc = .ok (.invokestatic index, 3))
    (kk : W p l e R s m args below meth c H locs cells slots Q (F0 m (pc + 3) ls (.int (zI (min a b)) :: rest))) : W p l e R s m args below meth c H locs cells slots Q (F0 m (pc) ls (.int (zI b) :: .int (zI a) :: rest)) :=
  va_mmin hexec hb0 hml hown hlink hstat hini hcode hframes hlocals hc hs hdg (by rw [zI_min ha hb]; exact kk)
theorem gz_iand (hexec : p.tables.exec = Jvm.exec) (hb : c.code = cc) {x y : Int} (a b : Nat) (hx : x = a) (hy : y = b) (hdg : decode cc pc = .ok (.iand, 1)) (k : W p l e R s m args below meth c H locs cells slots Q (F0 m (pc + 1) ls (.int (zI ((a &&& b : Nat) : Int)) :: rest))) : W p l e R s m args below meth c H locs cells slots Q (F0 m (pc) ls (.int (zI y) :: .int (zI x) :: rest)) := lv_iand hexec hb hdg (by rw [hx, hy, zI_and]; exact k)
theorem gz_ior (hexec : p.tables.exec = Jvm.exec) (hb : c.code = cc) {x y : Int} (a b : Nat) (hx : x = a) (hy : y = b) (hdg : decode cc pc = .ok (.ior, 1)) (k : W p l e R s m args below meth c H locs cells slots Q (F0 m (pc + 1) ls (.int (zI ((a ||| b : Nat) : Int)) :: rest))) : W p l e R s m args below meth c H locs cells slots Q (F0 m (pc) ls (.int (zI y) :: .int (zI x) :: rest)) := lv_ior hexec hb hdg (by rw [hx, hy, zI_or]; exact k)
theorem gz_ixor (hexec : p.tables.exec = Jvm.exec) (hb : c.code = cc) {x y : Int} (a b : Nat) (hx : x = a) (hy : y = b) (hdg : decode cc pc = .ok (.ixor, 1)) (k : W p l e R s m args below meth c H locs cells slots Q (F0 m (pc + 1) ls (.int (zI ((a ^^^ b : Nat) : Int)) :: rest))) : W p l e R s m args below meth c H locs cells slots Q (F0 m (pc) ls (.int (zI y) :: .int (zI x) :: rest)) := lv_ixor hexec hb hdg (by rw [hx, hy, zI_xor]; exact k)
theorem gz_ishl (hexec : p.tables.exec = Jvm.exec) (hb : c.code = cc) {x y : Int} (k : Nat) (hx : x = 1) (hy : y = k) (hk : k < 31) (hdg : decode cc pc = .ok (.ishl, 1)) (kk : W p l e R s m args below meth c H locs cells slots Q (F0 m (pc + 1) ls (.int (zI ((2 ^ k : Nat) : Int)) :: rest))) : W p l e R s m args below meth c H locs cells slots Q (F0 m (pc) ls (.int (zI y) :: .int (zI x) :: rest)) := lv_ishl hexec hb hdg (by rw [hx, hy, zI_shl hk]; exact kk)
theorem gz_ishr (hexec : p.tables.exec = Jvm.exec) (hb : c.code = cc) {x y : Int} (a k : Nat) (hx : x = a) (ha : a < 2147483648) (hy : y = k) (hk : k < 31) (hdg : decode cc pc = .ok (.ishr, 1)) (kk : W p l e R s m args below meth c H locs cells slots Q (F0 m (pc + 1) ls (.int (zI ((a / 2 ^ k : Nat) : Int)) :: rest))) : W p l e R s m args below meth c H locs cells slots Q (F0 m (pc) ls (.int (zI y) :: .int (zI x) :: rest)) := lv_ishr hexec hb hdg (by rw [hx, hy, zI_shr ha hk]; exact kk)
theorem gz_mabs (hexec : p.tables.exec = Jvm.exec) (hb0 : c.code = cc) (hml : c.maxLocals = ls.size) {own : String} {index : Nat} (hown : s.vm.findClass own = some m.cls) (hlink : (Cond.methodLink own index Lib.Math.abs.name).before args s = true) (hstat : (Cond.static Lib.Math.abs.name).before args s = true) (hini : (Cond.initialized "java/lang/Math").before args s = true) (hcode : (Cond.code Lib.Math.abs.name Lib.Math.abs.code 1 (some .int)).before args s = true)
    (hframes : 1 ≤ R.frames) (hlocals : (rest.map fun v => v.category).sum + 13 ≤ R.locals) (hc : cells ≤ R.cells) (hs : slots ≤ R.slots) {a : Int} (ha : -1000000 ≤ a ∧ a ≤ 1000000) (hdg : decode cc pc = .ok (.invokestatic index, 3))
    (kk : W p l e R s m args below meth c H locs cells slots Q (F0 m (pc + 3) ls (.int (zI (if 0 ≤ a then a else -a)) :: rest))) : W p l e R s m args below meth c H locs cells slots Q (F0 m (pc) ls (.int (zI a) :: rest)) :=
  va_mabs hexec hb0 hml hown hlink hstat hini hcode hframes hlocals hc hs hdg (by rw [zI_abs ha]; exact kk)
theorem gz_iald (hexec : p.tables.exec = Jvm.exec) (hb : c.code = cc) (hX : gX G s H0) {n : Nat} {f : Nat → Int32} (he : gat G a (.inl (gI G, n, .inl f)) H) {z : Int} (k : Nat) (hz : z = k) (hk : k < n) (hn : n ≤ 2147483647) (hdg : decode cc pc = .ok (.iaload, 1)) (kk : W p l e R s m args below meth c H locs cells slots Q (F0 m (pc + 1) ls (.int (f k) :: rest))) : W p l e R s m args below meth c H locs cells slots Q (F0 m (pc) ls (.int (zI z) :: .ref a :: rest)) :=
  g_iald hexec hb hX he (zI_in hz hk hn) hdg (by rw [zI_clamp hz (by omega)]; exact kk)
theorem gz_zald (hexec : p.tables.exec = Jvm.exec) (hb : c.code = cc) (hX : gX G s H0) {n : Nat} {f : Nat → Int32} (he : gat G a (.inl (gZ G, n, .inl f)) H) {z : Int} (k : Nat) (hz : z = k) (hk : k < n) (hn : n ≤ 2147483647) (hdg : decode cc pc = .ok (.baload, 1)) (kk : W p l e R s m args below meth c H locs cells slots Q (F0 m (pc + 1) ls (.int (f k) :: rest))) : W p l e R s m args below meth c H locs cells slots Q (F0 m (pc) ls (.int (zI z) :: .ref a :: rest)) :=
  g_zald hexec hb hX he (zI_in hz hk hn) hdg (by rw [zI_clamp hz (by omega)]; exact kk)
theorem gz_lald (hexec : p.tables.exec = Jvm.exec) (hb : c.code = cc) (hX : gX G s H0) {n : Nat} {f : Nat → Int64} (he : gat G a (.inl (gJ G, n, .inr (.inl f))) H) {z : Int} (k : Nat) (hz : z = k) (hk : k < n) (hn : n ≤ 2147483647) (hdg : decode cc pc = .ok (.laload, 1)) (kk : W p l e R s m args below meth c H locs cells slots Q (F0 m (pc + 1) ls (.long (f k) :: rest))) : W p l e R s m args below meth c H locs cells slots Q (F0 m (pc) ls (.int (zI z) :: .ref a :: rest)) :=
  g_lald hexec hb hX he (zI_in hz hk hn) hdg (by rw [zI_clamp hz (by omega)]; exact kk)
theorem gz_aald (hexec : p.tables.exec = Jvm.exec) (hb : c.code = cc) (hX : gX G s H0) {n : Nat} {f : Nat → Option Nat} (he : gat G a (.inl (gT G, n, .inr (.inr (.inr (.inr f))))) H) {z : Int} (k : Nat) (hz : z = k) (hk : k < n) (hn : n ≤ 2147483647) (hdg : decode cc pc = .ok (.aaload, 1)) (kk : W p l e R s m args below meth c H locs cells slots Q (F0 m (pc + 1) ls (va_rf (f k) :: rest))) : W p l e R s m args below meth c H locs cells slots Q (F0 m (pc) ls (.int (zI z) :: .ref a :: rest)) :=
  g_aald hexec hb hX he (zI_in hz hk hn) hdg (by rw [zI_clamp hz (by omega)]; exact kk)
theorem gz_alenI (hexec : p.tables.exec = Jvm.exec) (hb : c.code = cc) (hX : gX G s H0) {n : Nat} {f : Nat → Int32} (he : gat G a (.inl (gI G, n, .inl f)) H) (hdg : decode cc pc = .ok (.arraylength, 1)) (kk : W p l e R s m args below meth c H locs cells slots Q (F0 m (pc + 1) ls (.int (zI n) :: rest))) : W p l e R s m args below meth c H locs cells slots Q (F0 m (pc) ls (.ref a :: rest)) :=
  g_alenI hexec hb hX he hdg (by rw [zI_n]; exact kk)
theorem gz_alenT (hexec : p.tables.exec = Jvm.exec) (hb : c.code = cc) (hX : gX G s H0) {n : Nat} {f : Nat → Option Nat} (he : gat G a (.inl (gT G, n, .inr (.inr (.inr (.inr f))))) H) (hdg : decode cc pc = .ok (.arraylength, 1)) (kk : W p l e R s m args below meth c H locs cells slots Q (F0 m (pc + 1) ls (.int (zI n) :: rest))) : W p l e R s m args below meth c H locs cells slots Q (F0 m (pc) ls (.ref a :: rest)) :=
  g_alenT hexec hb hX he hdg (by rw [zI_n]; exact kk)
theorem gz_iast (hexec : p.tables.exec = Jvm.exec) (hb : c.code = cc) (hX : gX G s H0) (hS : va_S (gA G) H0 H locs) {n : Nat} {f : Nat → Int32} (he : gat G a (.inl (gI G, n, .inl f)) H) (hga : gB G ≤ a) {z : Int} {x : Int32} (k : Nat) (hz : z = k) (hk : k < n) (hn : n ≤ 2147483647) (hdg : decode cc pc = .ok (.iastore, 1))
    (kk : ∀ (H1 : Heap) (locs1 : List Loc), gat G a (.inl (gI G, n, .inl (upd f k x))) H1 → gOnly [a] H H1 → va_S (gA G) H0 H1 locs1 → W p l e R s m args below meth c H1 locs1 cells slots Q (F0 m (pc + 1) ls (rest))) : W p l e R s m args below meth c H locs cells slots Q (F0 m (pc) ls (.int x :: .int (zI z) :: .ref a :: rest)) :=
  g_iast hexec hb hX hS he hga (zI_in hz hk hn) hdg (by rw [zI_clamp hz (by omega)]; exact kk)
theorem gz_zast (hexec : p.tables.exec = Jvm.exec) (hb : c.code = cc) (hX : gX G s H0) (hS : va_S (gA G) H0 H locs) {n : Nat} {f : Nat → Int32} (he : gat G a (.inl (gZ G, n, .inl f)) H) (hga : gB G ≤ a) {z : Int} {x : Int32} (k : Nat) (hz : z = k) (hk : k < n) (hn : n ≤ 2147483647) (hv : vp_nar .boolean x = x) (hdg : decode cc pc = .ok (.bastore, 1))
    (kk : ∀ (H1 : Heap) (locs1 : List Loc), gat G a (.inl (gZ G, n, .inl (upd f k x))) H1 → gOnly [a] H H1 → va_S (gA G) H0 H1 locs1 → W p l e R s m args below meth c H1 locs1 cells slots Q (F0 m (pc + 1) ls (rest))) : W p l e R s m args below meth c H locs cells slots Q (F0 m (pc) ls (.int x :: .int (zI z) :: .ref a :: rest)) :=
  g_zast hexec hb hX hS he hga (zI_in hz hk hn) hdg (by rw [zI_clamp hz (by omega), hv]; exact kk)
theorem gz_last (hexec : p.tables.exec = Jvm.exec) (hb : c.code = cc) (hX : gX G s H0) (hS : va_S (gA G) H0 H locs) {n : Nat} {f : Nat → Int64} (he : gat G a (.inl (gJ G, n, .inr (.inl f))) H) (hga : gB G ≤ a) {z : Int} {x : Int64} (k : Nat) (hz : z = k) (hk : k < n) (hn : n ≤ 2147483647) (hdg : decode cc pc = .ok (.lastore, 1))
    (kk : ∀ (H1 : Heap) (locs1 : List Loc), gat G a (.inl (gJ G, n, .inr (.inl (vp_updL f k x)))) H1 → gOnly [a] H H1 → va_S (gA G) H0 H1 locs1 → W p l e R s m args below meth c H1 locs1 cells slots Q (F0 m (pc + 1) ls (rest))) : W p l e R s m args below meth c H locs cells slots Q (F0 m (pc) ls (.long x :: .int (zI z) :: .ref a :: rest)) :=
  g_last hexec hb hX hS he hga (zI_in hz hk hn) hdg (by rw [zI_clamp hz (by omega)]; exact kk)
theorem gz_aast (hexec : p.tables.exec = Jvm.exec) (hb : c.code = cc) (hX : gX G s H0) (hS : va_S (gA G) H0 H locs) {n v : Nat} {vs : List Value} {f : Nat → Option Nat} (he : gat G a (.inl (gT G, n, .inr (.inr (.inr (.inr f))))) H) (hga : gB G ≤ a) (hv : gat G v (.inr (3, vs)) H) {z : Int} (k : Nat) (hz : z = k) (hk : k < n) (hn : n ≤ 2147483647) (hdg : decode cc pc = .ok (.aastore, 1))
    (kk : ∀ (H1 : Heap) (locs1 : List Loc), gat G a (.inl (gT G, n, .inr (.inr (.inr (.inr (va_up f k (some v))))))) H1 → gOnly [a] H H1 → va_S (gA G) H0 H1 locs1 → W p l e R s m args below meth c H1 locs1 cells slots Q (F0 m (pc + 1) ls (rest))) : W p l e R s m args below meth c H locs cells slots Q (F0 m (pc) ls (.ref v :: .int (zI z) :: .ref a :: rest)) :=
  g_aast hexec hb hX hS he hga hv (zI_in hz hk hn) hdg (by rw [zI_clamp hz (by omega)]; exact kk)
end GZ
end
section
theorem hd_X0_init : yX0_init.cls = RX0 ∧ yX0_init.cls ≠ "java/lang/invoke/MethodHandle" ∧ yX0_init.cls ≠ "java/lang/invoke/VarHandle" ∧ (parseMethodDescriptor yX0_init.desc).map (fun d => d.parameters.length) = some 0 := by decide +kernel
theorem hd_X0_admitTune : yX0_admitTune.cls = RX0 ∧ yX0_admitTune.cls ≠ "java/lang/invoke/MethodHandle" ∧ yX0_admitTune.cls ≠ "java/lang/invoke/VarHandle" ∧ (parseMethodDescriptor yX0_admitTune.desc).map (fun d => d.parameters.length) = some 0 := by decide +kernel
theorem hd_X0_areLinked : yX0_areLinked.cls = RX0 ∧ yX0_areLinked.cls ≠ "java/lang/invoke/MethodHandle" ∧ yX0_areLinked.cls ≠ "java/lang/invoke/VarHandle" ∧ (parseMethodDescriptor yX0_areLinked.desc).map (fun d => d.parameters.length) = some 2 := by decide +kernel
theorem hd_X0_toggle : yX0_toggle.cls = RX0 ∧ yX0_toggle.cls ≠ "java/lang/invoke/MethodHandle" ∧ yX0_toggle.cls ≠ "java/lang/invoke/VarHandle" ∧ (parseMethodDescriptor yX0_toggle.desc).map (fun d => d.parameters.length) = some 2 := by decide +kernel
theorem hd_X0_countFamilies : yX0_countFamilies.cls = RX0 ∧ yX0_countFamilies.cls ≠ "java/lang/invoke/MethodHandle" ∧ yX0_countFamilies.cls ≠ "java/lang/invoke/VarHandle" ∧ (parseMethodDescriptor yX0_countFamilies.desc).map (fun d => d.parameters.length) = some 0 := by decide +kernel
theorem hd_X0_lowestOfFamily : yX0_lowestOfFamily.cls = RX0 ∧ yX0_lowestOfFamily.cls ≠ "java/lang/invoke/MethodHandle" ∧ yX0_lowestOfFamily.cls ≠ "java/lang/invoke/VarHandle" ∧ (parseMethodDescriptor yX0_lowestOfFamily.desc).map (fun d => d.parameters.length) = some 1 := by decide +kernel
theorem hd_X0_withPartners : yX0_withPartners.cls = RX0 ∧ yX0_withPartners.cls ≠ "java/lang/invoke/MethodHandle" ∧ yX0_withPartners.cls ≠ "java/lang/invoke/VarHandle" ∧ (parseMethodDescriptor yX0_withPartners.desc).map (fun d => d.parameters.length) = some 1 := by decide +kernel
theorem hd_X0_setOf : yX0_setOf.cls = RX0 ∧ yX0_setOf.cls ≠ "java/lang/invoke/MethodHandle" ∧ yX0_setOf.cls ≠ "java/lang/invoke/VarHandle" ∧ (parseMethodDescriptor yX0_setOf.desc).map (fun d => d.parameters.length) = some 1 := by decide +kernel
theorem hd_X1_init : yX1_init.cls = RX1 ∧ yX1_init.cls ≠ "java/lang/invoke/MethodHandle" ∧ yX1_init.cls ≠ "java/lang/invoke/VarHandle" ∧ (parseMethodDescriptor yX1_init.desc).map (fun d => d.parameters.length) = some 1 := by decide +kernel
theorem hd_X1_cheapestByTable : yX1_cheapestByTable.cls = RX1 ∧ yX1_cheapestByTable.cls ≠ "java/lang/invoke/MethodHandle" ∧ yX1_cheapestByTable.cls ≠ "java/lang/invoke/VarHandle" ∧ (parseMethodDescriptor yX1_cheapestByTable.desc).map (fun d => d.parameters.length) = some 1 := by decide +kernel
theorem hd_X1_cheapestByTrying : yX1_cheapestByTrying.cls = RX1 ∧ yX1_cheapestByTrying.cls ≠ "java/lang/invoke/MethodHandle" ∧ yX1_cheapestByTrying.cls ≠ "java/lang/invoke/VarHandle" ∧ (parseMethodDescriptor yX1_cheapestByTrying.desc).map (fun d => d.parameters.length) = some 1 := by decide +kernel
theorem hd_X1_tableAt : yX1_tableAt.cls = RX1 ∧ yX1_tableAt.cls ≠ "java/lang/invoke/MethodHandle" ∧ yX1_tableAt.cls ≠ "java/lang/invoke/VarHandle" ∧ (parseMethodDescriptor yX1_tableAt.desc).map (fun d => d.parameters.length) = some 2 := by decide +kernel
theorem hd_X1_setTableAt : yX1_setTableAt.cls = RX1 ∧ yX1_setTableAt.cls ≠ "java/lang/invoke/MethodHandle" ∧ yX1_setTableAt.cls ≠ "java/lang/invoke/VarHandle" ∧ (parseMethodDescriptor yX1_setTableAt.desc).map (fun d => d.parameters.length) = some 3 := by decide +kernel
theorem hd_X1_cheapestTo : yX1_cheapestTo.cls = RX1 ∧ yX1_cheapestTo.cls ≠ "java/lang/invoke/MethodHandle" ∧ yX1_cheapestTo.cls ≠ "java/lang/invoke/VarHandle" ∧ (parseMethodDescriptor yX1_cheapestTo.desc).map (fun d => d.parameters.length) = some 3 := by decide +kernel
theorem hd_X1_costBy : yX1_costBy.cls = RX1 ∧ yX1_costBy.cls ≠ "java/lang/invoke/MethodHandle" ∧ yX1_costBy.cls ≠ "java/lang/invoke/VarHandle" ∧ (parseMethodDescriptor yX1_costBy.desc).map (fun d => d.parameters.length) = some 5 := by decide +kernel
theorem hd_X1_cheapestOnward : yX1_cheapestOnward.cls = RX1 ∧ yX1_cheapestOnward.cls ≠ "java/lang/invoke/MethodHandle" ∧ yX1_cheapestOnward.cls ≠ "java/lang/invoke/VarHandle" ∧ (parseMethodDescriptor yX1_cheapestOnward.desc).map (fun d => d.parameters.length) = some 4 := by decide +kernel
theorem hd_X1_costOnwardBy : yX1_costOnwardBy.cls = RX1 ∧ yX1_costOnwardBy.cls ≠ "java/lang/invoke/MethodHandle" ∧ yX1_costOnwardBy.cls ≠ "java/lang/invoke/VarHandle" ∧ (parseMethodDescriptor yX1_costOnwardBy.desc).map (fun d => d.parameters.length) = some 6 := by decide +kernel
theorem hd_X1_costOfMove : yX1_costOfMove.cls = RX1 ∧ yX1_costOfMove.cls ≠ "java/lang/invoke/MethodHandle" ∧ yX1_costOfMove.cls ≠ "java/lang/invoke/VarHandle" ∧ (parseMethodDescriptor yX1_costOfMove.desc).map (fun d => d.parameters.length) = some 5 := by decide +kernel
theorem hd_X1_cheaper : yX1_cheaper.cls = RX1 ∧ yX1_cheaper.cls ≠ "java/lang/invoke/MethodHandle" ∧ yX1_cheaper.cls ≠ "java/lang/invoke/VarHandle" ∧ (parseMethodDescriptor yX1_cheaper.desc).map (fun d => d.parameters.length) = some 2 := by decide +kernel
theorem hd_X2_init : yX2_init.cls = RX2 ∧ yX2_init.cls ≠ "java/lang/invoke/MethodHandle" ∧ yX2_init.cls ≠ "java/lang/invoke/VarHandle" ∧ (parseMethodDescriptor yX2_init.desc).map (fun d => d.parameters.length) = some 1 := by decide +kernel
theorem hd_X2_size : yX2_size.cls = RX2 ∧ yX2_size.cls ≠ "java/lang/invoke/MethodHandle" ∧ yX2_size.cls ≠ "java/lang/invoke/VarHandle" ∧ (parseMethodDescriptor yX2_size.desc).map (fun d => d.parameters.length) = some 0 := by decide +kernel
theorem hd_X2_isFull : yX2_isFull.cls = RX2 ∧ yX2_isFull.cls ≠ "java/lang/invoke/MethodHandle" ∧ yX2_isFull.cls ≠ "java/lang/invoke/VarHandle" ∧ (parseMethodDescriptor yX2_isFull.desc).map (fun d => d.parameters.length) = some 0 := by decide +kernel
theorem hd_X2_at : yX2_at.cls = RX2 ∧ yX2_at.cls ≠ "java/lang/invoke/MethodHandle" ∧ yX2_at.cls ≠ "java/lang/invoke/VarHandle" ∧ (parseMethodDescriptor yX2_at.desc).map (fun d => d.parameters.length) = some 1 := by decide +kernel
theorem hd_X2_put : yX2_put.cls = RX2 ∧ yX2_put.cls ≠ "java/lang/invoke/MethodHandle" ∧ yX2_put.cls ≠ "java/lang/invoke/VarHandle" ∧ (parseMethodDescriptor yX2_put.desc).map (fun d => d.parameters.length) = some 2 := by decide +kernel
theorem hd_X2_append : yX2_append.cls = RX2 ∧ yX2_append.cls ≠ "java/lang/invoke/MethodHandle" ∧ yX2_append.cls ≠ "java/lang/invoke/VarHandle" ∧ (parseMethodDescriptor yX2_append.desc).map (fun d => d.parameters.length) = some 1 := by decide +kernel
theorem hd_X2_clear : yX2_clear.cls = RX2 ∧ yX2_clear.cls ≠ "java/lang/invoke/MethodHandle" ∧ yX2_clear.cls ≠ "java/lang/invoke/VarHandle" ∧ (parseMethodDescriptor yX2_clear.desc).map (fun d => d.parameters.length) = some 0 := by decide +kernel
theorem hd_X2_stepFrom : yX2_stepFrom.cls = RX2 ∧ yX2_stepFrom.cls ≠ "java/lang/invoke/MethodHandle" ∧ yX2_stepFrom.cls ≠ "java/lang/invoke/VarHandle" ∧ (parseMethodDescriptor yX2_stepFrom.desc).map (fun d => d.parameters.length) = some 1 := by decide +kernel
theorem hd_X2_stepsInCommon : yX2_stepsInCommon.cls = RX2 ∧ yX2_stepsInCommon.cls ≠ "java/lang/invoke/MethodHandle" ∧ yX2_stepsInCommon.cls ≠ "java/lang/invoke/VarHandle" ∧ (parseMethodDescriptor yX2_stepsInCommon.desc).map (fun d => d.parameters.length) = some 3 := by decide +kernel
theorem hd_X2_beginsWithContourOf : yX2_beginsWithContourOf.cls = RX2 ∧ yX2_beginsWithContourOf.cls ≠ "java/lang/invoke/MethodHandle" ∧ yX2_beginsWithContourOf.cls ≠ "java/lang/invoke/VarHandle" ∧ (parseMethodDescriptor yX2_beginsWithContourOf.desc).map (fun d => d.parameters.length) = some 1 := by decide +kernel
theorem hd_X2_direction : yX2_direction.cls = RX2 ∧ yX2_direction.cls ≠ "java/lang/invoke/MethodHandle" ∧ yX2_direction.cls ≠ "java/lang/invoke/VarHandle" ∧ (parseMethodDescriptor yX2_direction.desc).map (fun d => d.parameters.length) = some 1 := by decide +kernel
theorem hd_X3_init : yX3_init.cls = RX3 ∧ yX3_init.cls ≠ "java/lang/invoke/MethodHandle" ∧ yX3_init.cls ≠ "java/lang/invoke/VarHandle" ∧ (parseMethodDescriptor yX3_init.desc).map (fun d => d.parameters.length) = some 0 := by decide +kernel
theorem hd_X3_size : yX3_size.cls = RX3 ∧ yX3_size.cls ≠ "java/lang/invoke/MethodHandle" ∧ yX3_size.cls ≠ "java/lang/invoke/VarHandle" ∧ (parseMethodDescriptor yX3_size.desc).map (fun d => d.parameters.length) = some 0 := by decide +kernel
theorem hd_X3_append : yX3_append.cls = RX3 ∧ yX3_append.cls ≠ "java/lang/invoke/MethodHandle" ∧ yX3_append.cls ≠ "java/lang/invoke/VarHandle" ∧ (parseMethodDescriptor yX3_append.desc).map (fun d => d.parameters.length) = some 2 := by decide +kernel
theorem hd_X4_init : yX4_init.cls = RX4 ∧ yX4_init.cls ≠ "java/lang/invoke/MethodHandle" ∧ yX4_init.cls ≠ "java/lang/invoke/VarHandle" ∧ (parseMethodDescriptor yX4_init.desc).map (fun d => d.parameters.length) = some 0 := by decide +kernel
theorem hd_X4_add : yX4_add.cls = RX4 ∧ yX4_add.cls ≠ "java/lang/invoke/MethodHandle" ∧ yX4_add.cls ≠ "java/lang/invoke/VarHandle" ∧ (parseMethodDescriptor yX4_add.desc).map (fun d => d.parameters.length) = some 2 := by decide +kernel
theorem hd_X4_note : yX4_note.cls = RX4 ∧ yX4_note.cls ≠ "java/lang/invoke/MethodHandle" ∧ yX4_note.cls ≠ "java/lang/invoke/VarHandle" ∧ (parseMethodDescriptor yX4_note.desc).map (fun d => d.parameters.length) = some 3 := by decide +kernel
theorem hd_X4_correct : yX4_correct.cls = RX4 ∧ yX4_correct.cls ≠ "java/lang/invoke/MethodHandle" ∧ yX4_correct.cls ≠ "java/lang/invoke/VarHandle" ∧ (parseMethodDescriptor yX4_correct.desc).map (fun d => d.parameters.length) = some 4 := by decide +kernel
theorem hd_X4_shift : yX4_shift.cls = RX4 ∧ yX4_shift.cls ≠ "java/lang/invoke/MethodHandle" ∧ yX4_shift.cls ≠ "java/lang/invoke/VarHandle" ∧ (parseMethodDescriptor yX4_shift.desc).map (fun d => d.parameters.length) = some 2 := by decide +kernel
theorem hd_X4_retire : yX4_retire.cls = RX4 ∧ yX4_retire.cls ≠ "java/lang/invoke/MethodHandle" ∧ yX4_retire.cls ≠ "java/lang/invoke/VarHandle" ∧ (parseMethodDescriptor yX4_retire.desc).map (fun d => d.parameters.length) = some 1 := by decide +kernel
theorem hd_X4_tunes : yX4_tunes.cls = RX4 ∧ yX4_tunes.cls ≠ "java/lang/invoke/MethodHandle" ∧ yX4_tunes.cls ≠ "java/lang/invoke/VarHandle" ∧ (parseMethodDescriptor yX4_tunes.desc).map (fun d => d.parameters.length) = some 0 := by decide +kernel
theorem hd_X4_notes : yX4_notes.cls = RX4 ∧ yX4_notes.cls ≠ "java/lang/invoke/MethodHandle" ∧ yX4_notes.cls ≠ "java/lang/invoke/VarHandle" ∧ (parseMethodDescriptor yX4_notes.desc).map (fun d => d.parameters.length) = some 1 := by decide +kernel
theorem hd_X4_step : yX4_step.cls = RX4 ∧ yX4_step.cls ≠ "java/lang/invoke/MethodHandle" ∧ yX4_step.cls ≠ "java/lang/invoke/VarHandle" ∧ (parseMethodDescriptor yX4_step.desc).map (fun d => d.parameters.length) = some 2 := by decide +kernel
theorem hd_X4_shared : yX4_shared.cls = RX4 ∧ yX4_shared.cls ≠ "java/lang/invoke/MethodHandle" ∧ yX4_shared.cls ≠ "java/lang/invoke/VarHandle" ∧ (parseMethodDescriptor yX4_shared.desc).map (fun d => d.parameters.length) = some 2 := by decide +kernel
theorem hd_X4_hum : yX4_hum.cls = RX4 ∧ yX4_hum.cls ≠ "java/lang/invoke/MethodHandle" ∧ yX4_hum.cls ≠ "java/lang/invoke/VarHandle" ∧ (parseMethodDescriptor yX4_hum.desc).map (fun d => d.parameters.length) = some 1 := by decide +kernel
theorem hd_X4_hush : yX4_hush.cls = RX4 ∧ yX4_hush.cls ≠ "java/lang/invoke/MethodHandle" ∧ yX4_hush.cls ≠ "java/lang/invoke/VarHandle" ∧ (parseMethodDescriptor yX4_hush.desc).map (fun d => d.parameters.length) = some 0 := by decide +kernel
theorem hd_X4_hummed : yX4_hummed.cls = RX4 ∧ yX4_hummed.cls ≠ "java/lang/invoke/MethodHandle" ∧ yX4_hummed.cls ≠ "java/lang/invoke/VarHandle" ∧ (parseMethodDescriptor yX4_hummed.desc).map (fun d => d.parameters.length) = some 0 := by decide +kernel
theorem hd_X4_setCosts : yX4_setCosts.cls = RX4 ∧ yX4_setCosts.cls ≠ "java/lang/invoke/MethodHandle" ∧ yX4_setCosts.cls ≠ "java/lang/invoke/VarHandle" ∧ (parseMethodDescriptor yX4_setCosts.desc).map (fun d => d.parameters.length) = some 3 := by decide +kernel
theorem hd_X4_cost : yX4_cost.cls = RX4 ∧ yX4_cost.cls ≠ "java/lang/invoke/MethodHandle" ∧ yX4_cost.cls ≠ "java/lang/invoke/VarHandle" ∧ (parseMethodDescriptor yX4_cost.desc).map (fun d => d.parameters.length) = some 1 := by decide +kernel
theorem hd_X4_costByAll : yX4_costByAll.cls = RX4 ∧ yX4_costByAll.cls ≠ "java/lang/invoke/MethodHandle" ∧ yX4_costByAll.cls ≠ "java/lang/invoke/VarHandle" ∧ (parseMethodDescriptor yX4_costByAll.desc).map (fun d => d.parameters.length) = some 1 := by decide +kernel
theorem hd_X4_matches : yX4_matches.cls = RX4 ∧ yX4_matches.cls ≠ "java/lang/invoke/MethodHandle" ∧ yX4_matches.cls ≠ "java/lang/invoke/VarHandle" ∧ (parseMethodDescriptor yX4_matches.desc).map (fun d => d.parameters.length) = some 0 := by decide +kernel
theorem hd_X4_found : yX4_found.cls = RX4 ∧ yX4_found.cls ≠ "java/lang/invoke/MethodHandle" ∧ yX4_found.cls ≠ "java/lang/invoke/VarHandle" ∧ (parseMethodDescriptor yX4_found.desc).map (fun d => d.parameters.length) = some 1 := by decide +kernel
theorem hd_X4_likeContour : yX4_likeContour.cls = RX4 ∧ yX4_likeContour.cls ≠ "java/lang/invoke/MethodHandle" ∧ yX4_likeContour.cls ≠ "java/lang/invoke/VarHandle" ∧ (parseMethodDescriptor yX4_likeContour.desc).map (fun d => d.parameters.length) = some 0 := by decide +kernel
theorem hd_X4_places : yX4_places.cls = RX4 ∧ yX4_places.cls ≠ "java/lang/invoke/MethodHandle" ∧ yX4_places.cls ≠ "java/lang/invoke/VarHandle" ∧ (parseMethodDescriptor yX4_places.desc).map (fun d => d.parameters.length) = some 1 := by decide +kernel
theorem hd_X4_place : yX4_place.cls = RX4 ∧ yX4_place.cls ≠ "java/lang/invoke/MethodHandle" ∧ yX4_place.cls ≠ "java/lang/invoke/VarHandle" ∧ (parseMethodDescriptor yX4_place.desc).map (fun d => d.parameters.length) = some 2 := by decide +kernel
theorem hd_X4_link : yX4_link.cls = RX4 ∧ yX4_link.cls ≠ "java/lang/invoke/MethodHandle" ∧ yX4_link.cls ≠ "java/lang/invoke/VarHandle" ∧ (parseMethodDescriptor yX4_link.desc).map (fun d => d.parameters.length) = some 2 := by decide +kernel
theorem hd_X4_cut : yX4_cut.cls = RX4 ∧ yX4_cut.cls ≠ "java/lang/invoke/MethodHandle" ∧ yX4_cut.cls ≠ "java/lang/invoke/VarHandle" ∧ (parseMethodDescriptor yX4_cut.desc).map (fun d => d.parameters.length) = some 2 := by decide +kernel
theorem hd_X4_family : yX4_family.cls = RX4 ∧ yX4_family.cls ≠ "java/lang/invoke/MethodHandle" ∧ yX4_family.cls ≠ "java/lang/invoke/VarHandle" ∧ (parseMethodDescriptor yX4_family.desc).map (fun d => d.parameters.length) = some 1 := by decide +kernel
theorem hd_X4_families : yX4_families.cls = RX4 ∧ yX4_families.cls ≠ "java/lang/invoke/MethodHandle" ∧ yX4_families.cls ≠ "java/lang/invoke/VarHandle" ∧ (parseMethodDescriptor yX4_families.desc).map (fun d => d.parameters.length) = some 0 := by decide +kernel
theorem hd_X4_isWithin : yX4_isWithin.cls = RX4 ∧ yX4_isWithin.cls ≠ "java/lang/invoke/MethodHandle" ∧ yX4_isWithin.cls ≠ "java/lang/invoke/VarHandle" ∧ (parseMethodDescriptor yX4_isWithin.desc).map (fun d => d.parameters.length) = some 3 := by decide +kernel
theorem hd_X4_refuseUnlessWithin : yX4_refuseUnlessWithin.cls = RX4 ∧ yX4_refuseUnlessWithin.cls ≠ "java/lang/invoke/MethodHandle" ∧ yX4_refuseUnlessWithin.cls ≠ "java/lang/invoke/VarHandle" ∧ (parseMethodDescriptor yX4_refuseUnlessWithin.desc).map (fun d => d.parameters.length) = some 3 := by decide +kernel
theorem hd_X4_refuseUnlessNote : yX4_refuseUnlessNote.cls = RX4 ∧ yX4_refuseUnlessNote.cls ≠ "java/lang/invoke/MethodHandle" ∧ yX4_refuseUnlessNote.cls ≠ "java/lang/invoke/VarHandle" ∧ (parseMethodDescriptor yX4_refuseUnlessNote.desc).map (fun d => d.parameters.length) = some 2 := by decide +kernel
theorem hd_X4_refuseUnlessRunOfHum : yX4_refuseUnlessRunOfHum.cls = RX4 ∧ yX4_refuseUnlessRunOfHum.cls ≠ "java/lang/invoke/MethodHandle" ∧ yX4_refuseUnlessRunOfHum.cls ≠ "java/lang/invoke/VarHandle" ∧ (parseMethodDescriptor yX4_refuseUnlessRunOfHum.desc).map (fun d => d.parameters.length) = some 1 := by decide +kernel
theorem hd_X4_refuseUnlessEntered : yX4_refuseUnlessEntered.cls = RX4 ∧ yX4_refuseUnlessEntered.cls ≠ "java/lang/invoke/MethodHandle" ∧ yX4_refuseUnlessEntered.cls ≠ "java/lang/invoke/VarHandle" ∧ (parseMethodDescriptor yX4_refuseUnlessEntered.desc).map (fun d => d.parameters.length) = some 2 := by decide +kernel
theorem hd_X4_enteredOrNull : yX4_enteredOrNull.cls = RX4 ∧ yX4_enteredOrNull.cls ≠ "java/lang/invoke/MethodHandle" ∧ yX4_enteredOrNull.cls ≠ "java/lang/invoke/VarHandle" ∧ (parseMethodDescriptor yX4_enteredOrNull.desc).map (fun d => d.parameters.length) = some 1 := by decide +kernel
theorem hd_X4_knownOrNull : yX4_knownOrNull.cls = RX4 ∧ yX4_knownOrNull.cls ≠ "java/lang/invoke/MethodHandle" ∧ yX4_knownOrNull.cls ≠ "java/lang/invoke/VarHandle" ∧ (parseMethodDescriptor yX4_knownOrNull.desc).map (fun d => d.parameters.length) = some 1 := by decide +kernel
theorem hd_X4_enteredOrThrow : yX4_enteredOrThrow.cls = RX4 ∧ yX4_enteredOrThrow.cls ≠ "java/lang/invoke/MethodHandle" ∧ yX4_enteredOrThrow.cls ≠ "java/lang/invoke/VarHandle" ∧ (parseMethodDescriptor yX4_enteredOrThrow.desc).map (fun d => d.parameters.length) = some 1 := by decide +kernel
theorem hd_X4_knownOrThrow : yX4_knownOrThrow.cls = RX4 ∧ yX4_knownOrThrow.cls ≠ "java/lang/invoke/MethodHandle" ∧ yX4_knownOrThrow.cls ≠ "java/lang/invoke/VarHandle" ∧ (parseMethodDescriptor yX4_knownOrThrow.desc).map (fun d => d.parameters.length) = some 1 := by decide +kernel
theorem hd_X4_priceTunes : yX4_priceTunes.cls = RX4 ∧ yX4_priceTunes.cls ≠ "java/lang/invoke/MethodHandle" ∧ yX4_priceTunes.cls ≠ "java/lang/invoke/VarHandle" ∧ (parseMethodDescriptor yX4_priceTunes.desc).map (fun d => d.parameters.length) = some 0 := by decide +kernel
theorem hd_X4_rankByPrice : yX4_rankByPrice.cls = RX4 ∧ yX4_rankByPrice.cls ≠ "java/lang/invoke/MethodHandle" ∧ yX4_rankByPrice.cls ≠ "java/lang/invoke/VarHandle" ∧ (parseMethodDescriptor yX4_rankByPrice.desc).map (fun d => d.parameters.length) = some 1 := by decide +kernel
theorem hd_X4_collectPlaces : yX4_collectPlaces.cls = RX4 ∧ yX4_collectPlaces.cls ≠ "java/lang/invoke/MethodHandle" ∧ yX4_collectPlaces.cls ≠ "java/lang/invoke/VarHandle" ∧ (parseMethodDescriptor yX4_collectPlaces.desc).map (fun d => d.parameters.length) = some 1 := by decide +kernel
theorem hd_X4_collectPlacesOf : yX4_collectPlacesOf.cls = RX4 ∧ yX4_collectPlacesOf.cls ≠ "java/lang/invoke/MethodHandle" ∧ yX4_collectPlacesOf.cls ≠ "java/lang/invoke/VarHandle" ∧ (parseMethodDescriptor yX4_collectPlacesOf.desc).map (fun d => d.parameters.length) = some 3 := by decide +kernel
theorem hd_X5_init : yX5_init.cls = RX5 ∧ yX5_init.cls ≠ "java/lang/invoke/MethodHandle" ∧ yX5_init.cls ≠ "java/lang/invoke/VarHandle" ∧ (parseMethodDescriptor yX5_init.desc).map (fun d => d.parameters.length) = some 0 := by decide +kernel
theorem hd_X5_thrown : yX5_thrown.cls = RX5 ∧ yX5_thrown.cls ≠ "java/lang/invoke/MethodHandle" ∧ yX5_thrown.cls ≠ "java/lang/invoke/VarHandle" ∧ (parseMethodDescriptor yX5_thrown.desc).map (fun d => d.parameters.length) = some 0 := by decide +kernel
theorem hd_X5_holds : yX5_holds.cls = RX5 ∧ yX5_holds.cls ≠ "java/lang/invoke/MethodHandle" ∧ yX5_holds.cls ≠ "java/lang/invoke/VarHandle" ∧ (parseMethodDescriptor yX5_holds.desc).map (fun d => d.parameters.length) = some 1 := by decide +kernel
theorem hd_X5_in : yX5_in.cls = RX5 ∧ yX5_in.cls ≠ "java/lang/invoke/MethodHandle" ∧ yX5_in.cls ≠ "java/lang/invoke/VarHandle" ∧ (parseMethodDescriptor yX5_in.desc).map (fun d => d.parameters.length) = some 3 := by decide +kernel
theorem hd_X5_isTune : yX5_isTune.cls = RX5 ∧ yX5_isTune.cls ≠ "java/lang/invoke/MethodHandle" ∧ yX5_isTune.cls ≠ "java/lang/invoke/VarHandle" ∧ (parseMethodDescriptor yX5_isTune.desc).map (fun d => d.parameters.length) = some 1 := by decide +kernel
theorem hd_X5_isKnown : yX5_isKnown.cls = RX5 ∧ yX5_isKnown.cls ≠ "java/lang/invoke/MethodHandle" ∧ yX5_isKnown.cls ≠ "java/lang/invoke/VarHandle" ∧ (parseMethodDescriptor yX5_isKnown.desc).map (fun d => d.parameters.length) = some 1 := by decide +kernel
theorem hd_X5_isNote : yX5_isNote.cls = RX5 ∧ yX5_isNote.cls ≠ "java/lang/invoke/MethodHandle" ∧ yX5_isNote.cls ≠ "java/lang/invoke/VarHandle" ∧ (parseMethodDescriptor yX5_isNote.desc).map (fun d => d.parameters.length) = some 2 := by decide +kernel
theorem hd_X5_sets : yX5_sets.cls = RX5 ∧ yX5_sets.cls ≠ "java/lang/invoke/MethodHandle" ∧ yX5_sets.cls ≠ "java/lang/invoke/VarHandle" ∧ (parseMethodDescriptor yX5_sets.desc).map (fun d => d.parameters.length) = some 4 := by decide +kernel
theorem hd_X5_add : yX5_add.cls = RX5 ∧ yX5_add.cls ≠ "java/lang/invoke/MethodHandle" ∧ yX5_add.cls ≠ "java/lang/invoke/VarHandle" ∧ (parseMethodDescriptor yX5_add.desc).map (fun d => d.parameters.length) = some 2 := by decide +kernel
theorem hd_X5_note : yX5_note.cls = RX5 ∧ yX5_note.cls ≠ "java/lang/invoke/MethodHandle" ∧ yX5_note.cls ≠ "java/lang/invoke/VarHandle" ∧ (parseMethodDescriptor yX5_note.desc).map (fun d => d.parameters.length) = some 3 := by decide +kernel
theorem hd_X5_correct : yX5_correct.cls = RX5 ∧ yX5_correct.cls ≠ "java/lang/invoke/MethodHandle" ∧ yX5_correct.cls ≠ "java/lang/invoke/VarHandle" ∧ (parseMethodDescriptor yX5_correct.desc).map (fun d => d.parameters.length) = some 4 := by decide +kernel
theorem hd_X5_mayShift : yX5_mayShift.cls = RX5 ∧ yX5_mayShift.cls ≠ "java/lang/invoke/MethodHandle" ∧ yX5_mayShift.cls ≠ "java/lang/invoke/VarHandle" ∧ (parseMethodDescriptor yX5_mayShift.desc).map (fun d => d.parameters.length) = some 2 := by decide +kernel
theorem hd_X5_shift : yX5_shift.cls = RX5 ∧ yX5_shift.cls ≠ "java/lang/invoke/MethodHandle" ∧ yX5_shift.cls ≠ "java/lang/invoke/VarHandle" ∧ (parseMethodDescriptor yX5_shift.desc).map (fun d => d.parameters.length) = some 2 := by decide +kernel
theorem hd_X5_retire : yX5_retire.cls = RX5 ∧ yX5_retire.cls ≠ "java/lang/invoke/MethodHandle" ∧ yX5_retire.cls ≠ "java/lang/invoke/VarHandle" ∧ (parseMethodDescriptor yX5_retire.desc).map (fun d => d.parameters.length) = some 1 := by decide +kernel
theorem hd_X5_tunes : yX5_tunes.cls = RX5 ∧ yX5_tunes.cls ≠ "java/lang/invoke/MethodHandle" ∧ yX5_tunes.cls ≠ "java/lang/invoke/VarHandle" ∧ (parseMethodDescriptor yX5_tunes.desc).map (fun d => d.parameters.length) = some 0 := by decide +kernel
theorem hd_X5_notes : yX5_notes.cls = RX5 ∧ yX5_notes.cls ≠ "java/lang/invoke/MethodHandle" ∧ yX5_notes.cls ≠ "java/lang/invoke/VarHandle" ∧ (parseMethodDescriptor yX5_notes.desc).map (fun d => d.parameters.length) = some 1 := by decide +kernel
theorem hd_X5_stepOf : yX5_stepOf.cls = RX5 ∧ yX5_stepOf.cls ≠ "java/lang/invoke/MethodHandle" ∧ yX5_stepOf.cls ≠ "java/lang/invoke/VarHandle" ∧ (parseMethodDescriptor yX5_stepOf.desc).map (fun d => d.parameters.length) = some 2 := by decide +kernel
theorem hd_X5_step : yX5_step.cls = RX5 ∧ yX5_step.cls ≠ "java/lang/invoke/MethodHandle" ∧ yX5_step.cls ≠ "java/lang/invoke/VarHandle" ∧ (parseMethodDescriptor yX5_step.desc).map (fun d => d.parameters.length) = some 2 := by decide +kernel
theorem hd_X5_alike : yX5_alike.cls = RX5 ∧ yX5_alike.cls ≠ "java/lang/invoke/MethodHandle" ∧ yX5_alike.cls ≠ "java/lang/invoke/VarHandle" ∧ (parseMethodDescriptor yX5_alike.desc).map (fun d => d.parameters.length) = some 4 := by decide +kernel
theorem hd_X5_shared : yX5_shared.cls = RX5 ∧ yX5_shared.cls ≠ "java/lang/invoke/MethodHandle" ∧ yX5_shared.cls ≠ "java/lang/invoke/VarHandle" ∧ (parseMethodDescriptor yX5_shared.desc).map (fun d => d.parameters.length) = some 2 := by decide +kernel
theorem hd_X5_hum : yX5_hum.cls = RX5 ∧ yX5_hum.cls ≠ "java/lang/invoke/MethodHandle" ∧ yX5_hum.cls ≠ "java/lang/invoke/VarHandle" ∧ (parseMethodDescriptor yX5_hum.desc).map (fun d => d.parameters.length) = some 1 := by decide +kernel
theorem hd_X5_hush : yX5_hush.cls = RX5 ∧ yX5_hush.cls ≠ "java/lang/invoke/MethodHandle" ∧ yX5_hush.cls ≠ "java/lang/invoke/VarHandle" ∧ (parseMethodDescriptor yX5_hush.desc).map (fun d => d.parameters.length) = some 0 := by decide +kernel
theorem hd_X5_hummed : yX5_hummed.cls = RX5 ∧ yX5_hummed.cls ≠ "java/lang/invoke/MethodHandle" ∧ yX5_hummed.cls ≠ "java/lang/invoke/VarHandle" ∧ (parseMethodDescriptor yX5_hummed.desc).map (fun d => d.parameters.length) = some 0 := by decide +kernel
theorem hd_X5_setCosts : yX5_setCosts.cls = RX5 ∧ yX5_setCosts.cls ≠ "java/lang/invoke/MethodHandle" ∧ yX5_setCosts.cls ≠ "java/lang/invoke/VarHandle" ∧ (parseMethodDescriptor yX5_setCosts.desc).map (fun d => d.parameters.length) = some 3 := by decide +kernel
theorem hd_X5_costOfNotes : yX5_costOfNotes.cls = RX5 ∧ yX5_costOfNotes.cls ≠ "java/lang/invoke/MethodHandle" ∧ yX5_costOfNotes.cls ≠ "java/lang/invoke/VarHandle" ∧ (parseMethodDescriptor yX5_costOfNotes.desc).map (fun d => d.parameters.length) = some 3 := by decide +kernel
theorem hd_X5_costOfPitches : yX5_costOfPitches.cls = RX5 ∧ yX5_costOfPitches.cls ≠ "java/lang/invoke/MethodHandle" ∧ yX5_costOfPitches.cls ≠ "java/lang/invoke/VarHandle" ∧ (parseMethodDescriptor yX5_costOfPitches.desc).map (fun d => d.parameters.length) = some 2 := by decide +kernel
theorem hd_X5_laid : yX5_laid.cls = RX5 ∧ yX5_laid.cls ≠ "java/lang/invoke/MethodHandle" ∧ yX5_laid.cls ≠ "java/lang/invoke/VarHandle" ∧ (parseMethodDescriptor yX5_laid.desc).map (fun d => d.parameters.length) = some 5 := by decide +kernel
theorem hd_X5_least : yX5_least.cls = RX5 ∧ yX5_least.cls ≠ "java/lang/invoke/MethodHandle" ∧ yX5_least.cls ≠ "java/lang/invoke/VarHandle" ∧ (parseMethodDescriptor yX5_least.desc).map (fun d => d.parameters.length) = some 2 := by decide +kernel
theorem hd_X5_costOf : yX5_costOf.cls = RX5 ∧ yX5_costOf.cls ≠ "java/lang/invoke/MethodHandle" ∧ yX5_costOf.cls ≠ "java/lang/invoke/VarHandle" ∧ (parseMethodDescriptor yX5_costOf.desc).map (fun d => d.parameters.length) = some 1 := by decide +kernel
theorem hd_X5_cost : yX5_cost.cls = RX5 ∧ yX5_cost.cls ≠ "java/lang/invoke/MethodHandle" ∧ yX5_cost.cls ≠ "java/lang/invoke/VarHandle" ∧ (parseMethodDescriptor yX5_cost.desc).map (fun d => d.parameters.length) = some 1 := by decide +kernel
theorem hd_X5_costByAll : yX5_costByAll.cls = RX5 ∧ yX5_costByAll.cls ≠ "java/lang/invoke/MethodHandle" ∧ yX5_costByAll.cls ≠ "java/lang/invoke/VarHandle" ∧ (parseMethodDescriptor yX5_costByAll.desc).map (fun d => d.parameters.length) = some 1 := by decide +kernel
theorem hd_X5_many : yX5_many.cls = RX5 ∧ yX5_many.cls ≠ "java/lang/invoke/MethodHandle" ∧ yX5_many.cls ≠ "java/lang/invoke/VarHandle" ∧ (parseMethodDescriptor yX5_many.desc).map (fun d => d.parameters.length) = some 0 := by decide +kernel
theorem hd_X5_matches : yX5_matches.cls = RX5 ∧ yX5_matches.cls ≠ "java/lang/invoke/MethodHandle" ∧ yX5_matches.cls ≠ "java/lang/invoke/VarHandle" ∧ (parseMethodDescriptor yX5_matches.desc).map (fun d => d.parameters.length) = some 0 := by decide +kernel
theorem hd_X5_rank : yX5_rank.cls = RX5 ∧ yX5_rank.cls ≠ "java/lang/invoke/MethodHandle" ∧ yX5_rank.cls ≠ "java/lang/invoke/VarHandle" ∧ (parseMethodDescriptor yX5_rank.desc).map (fun d => d.parameters.length) = some 1 := by decide +kernel
theorem hd_X5_found : yX5_found.cls = RX5 ∧ yX5_found.cls ≠ "java/lang/invoke/MethodHandle" ∧ yX5_found.cls ≠ "java/lang/invoke/VarHandle" ∧ (parseMethodDescriptor yX5_found.desc).map (fun d => d.parameters.length) = some 1 := by decide +kernel
theorem hd_X5_sign : yX5_sign.cls = RX5 ∧ yX5_sign.cls ≠ "java/lang/invoke/MethodHandle" ∧ yX5_sign.cls ≠ "java/lang/invoke/VarHandle" ∧ (parseMethodDescriptor yX5_sign.desc).map (fun d => d.parameters.length) = some 1 := by decide +kernel
theorem hd_X5_isLike : yX5_isLike.cls = RX5 ∧ yX5_isLike.cls ≠ "java/lang/invoke/MethodHandle" ∧ yX5_isLike.cls ≠ "java/lang/invoke/VarHandle" ∧ (parseMethodDescriptor yX5_isLike.desc).map (fun d => d.parameters.length) = some 1 := by decide +kernel
theorem hd_X5_likeContour : yX5_likeContour.cls = RX5 ∧ yX5_likeContour.cls ≠ "java/lang/invoke/MethodHandle" ∧ yX5_likeContour.cls ≠ "java/lang/invoke/VarHandle" ∧ (parseMethodDescriptor yX5_likeContour.desc).map (fun d => d.parameters.length) = some 0 := by decide +kernel
theorem hd_X5_isRun : yX5_isRun.cls = RX5 ∧ yX5_isRun.cls ≠ "java/lang/invoke/MethodHandle" ∧ yX5_isRun.cls ≠ "java/lang/invoke/VarHandle" ∧ (parseMethodDescriptor yX5_isRun.desc).map (fun d => d.parameters.length) = some 3 := by decide +kernel
theorem hd_X5_errorOfRun : yX5_errorOfRun.cls = RX5 ∧ yX5_errorOfRun.cls ≠ "java/lang/invoke/MethodHandle" ∧ yX5_errorOfRun.cls ≠ "java/lang/invoke/VarHandle" ∧ (parseMethodDescriptor yX5_errorOfRun.desc).map (fun d => d.parameters.length) = some 1 := by decide +kernel
theorem hd_X5_placesOf : yX5_placesOf.cls = RX5 ∧ yX5_placesOf.cls ≠ "java/lang/invoke/MethodHandle" ∧ yX5_placesOf.cls ≠ "java/lang/invoke/VarHandle" ∧ (parseMethodDescriptor yX5_placesOf.desc).map (fun d => d.parameters.length) = some 1 := by decide +kernel
theorem hd_X5_places : yX5_places.cls = RX5 ∧ yX5_places.cls ≠ "java/lang/invoke/MethodHandle" ∧ yX5_places.cls ≠ "java/lang/invoke/VarHandle" ∧ (parseMethodDescriptor yX5_places.desc).map (fun d => d.parameters.length) = some 1 := by decide +kernel
theorem hd_X5_place : yX5_place.cls = RX5 ∧ yX5_place.cls ≠ "java/lang/invoke/MethodHandle" ∧ yX5_place.cls ≠ "java/lang/invoke/VarHandle" ∧ (parseMethodDescriptor yX5_place.desc).map (fun d => d.parameters.length) = some 2 := by decide +kernel
theorem hd_X5_familyOf : yX5_familyOf.cls = RX5 ∧ yX5_familyOf.cls ≠ "java/lang/invoke/MethodHandle" ∧ yX5_familyOf.cls ≠ "java/lang/invoke/VarHandle" ∧ (parseMethodDescriptor yX5_familyOf.desc).map (fun d => d.parameters.length) = some 1 := by decide +kernel
theorem hd_X5_lowest : yX5_lowest.cls = RX5 ∧ yX5_lowest.cls ≠ "java/lang/invoke/MethodHandle" ∧ yX5_lowest.cls ≠ "java/lang/invoke/VarHandle" ∧ (parseMethodDescriptor yX5_lowest.desc).map (fun d => d.parameters.length) = some 1 := by decide +kernel
theorem hd_X5_familiesOf : yX5_familiesOf.cls = RX5 ∧ yX5_familiesOf.cls ≠ "java/lang/invoke/MethodHandle" ∧ yX5_familiesOf.cls ≠ "java/lang/invoke/VarHandle" ∧ (parseMethodDescriptor yX5_familiesOf.desc).map (fun d => d.parameters.length) = some 0 := by decide +kernel
theorem hd_X5_areLinked : yX5_areLinked.cls = RX5 ∧ yX5_areLinked.cls ≠ "java/lang/invoke/MethodHandle" ∧ yX5_areLinked.cls ≠ "java/lang/invoke/VarHandle" ∧ (parseMethodDescriptor yX5_areLinked.desc).map (fun d => d.parameters.length) = some 2 := by decide +kernel
theorem hd_X5_link : yX5_link.cls = RX5 ∧ yX5_link.cls ≠ "java/lang/invoke/MethodHandle" ∧ yX5_link.cls ≠ "java/lang/invoke/VarHandle" ∧ (parseMethodDescriptor yX5_link.desc).map (fun d => d.parameters.length) = some 2 := by decide +kernel
theorem hd_X5_cut : yX5_cut.cls = RX5 ∧ yX5_cut.cls ≠ "java/lang/invoke/MethodHandle" ∧ yX5_cut.cls ≠ "java/lang/invoke/VarHandle" ∧ (parseMethodDescriptor yX5_cut.desc).map (fun d => d.parameters.length) = some 2 := by decide +kernel
theorem hd_X5_family : yX5_family.cls = RX5 ∧ yX5_family.cls ≠ "java/lang/invoke/MethodHandle" ∧ yX5_family.cls ≠ "java/lang/invoke/VarHandle" ∧ (parseMethodDescriptor yX5_family.desc).map (fun d => d.parameters.length) = some 1 := by decide +kernel
theorem hd_X5_families : yX5_families.cls = RX5 ∧ yX5_families.cls ≠ "java/lang/invoke/MethodHandle" ∧ yX5_families.cls ≠ "java/lang/invoke/VarHandle" ∧ (parseMethodDescriptor yX5_families.desc).map (fun d => d.parameters.length) = some 0 := by decide +kernel
theorem hd_L_add : yL_add.cls = RL ∧ yL_add.cls ≠ "java/lang/invoke/MethodHandle" ∧ yL_add.cls ≠ "java/lang/invoke/VarHandle" ∧ (parseMethodDescriptor yL_add.desc).map (fun d => d.parameters.length) = some 4 := by decide +kernel
theorem hd_L_note : yL_note.cls = RL ∧ yL_note.cls ≠ "java/lang/invoke/MethodHandle" ∧ yL_note.cls ≠ "java/lang/invoke/VarHandle" ∧ (parseMethodDescriptor yL_note.desc).map (fun d => d.parameters.length) = some 5 := by decide +kernel
theorem hd_L_correct : yL_correct.cls = RL ∧ yL_correct.cls ≠ "java/lang/invoke/MethodHandle" ∧ yL_correct.cls ≠ "java/lang/invoke/VarHandle" ∧ (parseMethodDescriptor yL_correct.desc).map (fun d => d.parameters.length) = some 6 := by decide +kernel
theorem hd_L_shift : yL_shift.cls = RL ∧ yL_shift.cls ≠ "java/lang/invoke/MethodHandle" ∧ yL_shift.cls ≠ "java/lang/invoke/VarHandle" ∧ (parseMethodDescriptor yL_shift.desc).map (fun d => d.parameters.length) = some 3 := by decide +kernel
theorem hd_L_retire : yL_retire.cls = RL ∧ yL_retire.cls ≠ "java/lang/invoke/MethodHandle" ∧ yL_retire.cls ≠ "java/lang/invoke/VarHandle" ∧ (parseMethodDescriptor yL_retire.desc).map (fun d => d.parameters.length) = some 3 := by decide +kernel
theorem hd_L_notes : yL_notes.cls = RL ∧ yL_notes.cls ≠ "java/lang/invoke/MethodHandle" ∧ yL_notes.cls ≠ "java/lang/invoke/VarHandle" ∧ (parseMethodDescriptor yL_notes.desc).map (fun d => d.parameters.length) = some 3 := by decide +kernel
theorem hd_L_step : yL_step.cls = RL ∧ yL_step.cls ≠ "java/lang/invoke/MethodHandle" ∧ yL_step.cls ≠ "java/lang/invoke/VarHandle" ∧ (parseMethodDescriptor yL_step.desc).map (fun d => d.parameters.length) = some 4 := by decide +kernel
theorem hd_L_shared : yL_shared.cls = RL ∧ yL_shared.cls ≠ "java/lang/invoke/MethodHandle" ∧ yL_shared.cls ≠ "java/lang/invoke/VarHandle" ∧ (parseMethodDescriptor yL_shared.desc).map (fun d => d.parameters.length) = some 4 := by decide +kernel
theorem hd_L_hum : yL_hum.cls = RL ∧ yL_hum.cls ≠ "java/lang/invoke/MethodHandle" ∧ yL_hum.cls ≠ "java/lang/invoke/VarHandle" ∧ (parseMethodDescriptor yL_hum.desc).map (fun d => d.parameters.length) = some 3 := by decide +kernel
theorem hd_L_setCosts : yL_setCosts.cls = RL ∧ yL_setCosts.cls ≠ "java/lang/invoke/MethodHandle" ∧ yL_setCosts.cls ≠ "java/lang/invoke/VarHandle" ∧ (parseMethodDescriptor yL_setCosts.desc).map (fun d => d.parameters.length) = some 4 := by decide +kernel
theorem hd_L_cost : yL_cost.cls = RL ∧ yL_cost.cls ≠ "java/lang/invoke/MethodHandle" ∧ yL_cost.cls ≠ "java/lang/invoke/VarHandle" ∧ (parseMethodDescriptor yL_cost.desc).map (fun d => d.parameters.length) = some 3 := by decide +kernel
theorem hd_L_costByAll : yL_costByAll.cls = RL ∧ yL_costByAll.cls ≠ "java/lang/invoke/MethodHandle" ∧ yL_costByAll.cls ≠ "java/lang/invoke/VarHandle" ∧ (parseMethodDescriptor yL_costByAll.desc).map (fun d => d.parameters.length) = some 3 := by decide +kernel
theorem hd_L_found : yL_found.cls = RL ∧ yL_found.cls ≠ "java/lang/invoke/MethodHandle" ∧ yL_found.cls ≠ "java/lang/invoke/VarHandle" ∧ (parseMethodDescriptor yL_found.desc).map (fun d => d.parameters.length) = some 3 := by decide +kernel
theorem hd_L_places : yL_places.cls = RL ∧ yL_places.cls ≠ "java/lang/invoke/MethodHandle" ∧ yL_places.cls ≠ "java/lang/invoke/VarHandle" ∧ (parseMethodDescriptor yL_places.desc).map (fun d => d.parameters.length) = some 3 := by decide +kernel
theorem hd_L_place : yL_place.cls = RL ∧ yL_place.cls ≠ "java/lang/invoke/MethodHandle" ∧ yL_place.cls ≠ "java/lang/invoke/VarHandle" ∧ (parseMethodDescriptor yL_place.desc).map (fun d => d.parameters.length) = some 4 := by decide +kernel
theorem hd_L_link : yL_link.cls = RL ∧ yL_link.cls ≠ "java/lang/invoke/MethodHandle" ∧ yL_link.cls ≠ "java/lang/invoke/VarHandle" ∧ (parseMethodDescriptor yL_link.desc).map (fun d => d.parameters.length) = some 4 := by decide +kernel
theorem hd_L_cut : yL_cut.cls = RL ∧ yL_cut.cls ≠ "java/lang/invoke/MethodHandle" ∧ yL_cut.cls ≠ "java/lang/invoke/VarHandle" ∧ (parseMethodDescriptor yL_cut.desc).map (fun d => d.parameters.length) = some 4 := by decide +kernel
theorem hd_L_family : yL_family.cls = RL ∧ yL_family.cls ≠ "java/lang/invoke/MethodHandle" ∧ yL_family.cls ≠ "java/lang/invoke/VarHandle" ∧ (parseMethodDescriptor yL_family.desc).map (fun d => d.parameters.length) = some 3 := by decide +kernel
theorem hd_L_law : yL_law.cls = RL ∧ yL_law.cls ≠ "java/lang/invoke/MethodHandle" ∧ yL_law.cls ≠ "java/lang/invoke/VarHandle" ∧ (parseMethodDescriptor yL_law.desc).map (fun d => d.parameters.length) = some 1 := by decide +kernel
theorem ha_X4_refuseUnlessWithin_188 {args : Array Value} {s : State} {G : gG} {H0 : Heap} (hX : gX G s H0) (hts : ∀ w ∈ wsX4_refuseUnlessWithin, w.before args s = true) : ∀ w ∈ vx_atS RX4 188 "java/lang/IllegalArgumentException" ["java/lang/RuntimeException", "java/lang/Exception"], w.before args s = true := vx_hat (B := gFc) (fun w h => hts w (List.mem_cons_of_mem _ (List.mem_append_right _ h))) (by decide +kernel) (fun w h => va_Nw.use (gFc_ok w h).2 (hX.1.2.2.2.2.2.1 w h))
theorem ha_X4_add_62 {args : Array Value} {s : State} {G : gG} {H0 : Heap} (hX : gX G s H0) (hts : ∀ w ∈ wsX4_add, w.before args s = true) : ∀ w ∈ vx_atS RX4 62 "java/lang/IllegalStateException" ["java/lang/RuntimeException", "java/lang/Exception"], w.before args s = true := vx_hat (B := gFc) (fun w h => hts w (List.mem_cons_of_mem _ (List.mem_append_left _ (List.mem_append_right _ h)))) (by decide +kernel) (fun w h => va_Nw.use (gFc_ok w h).2 (hX.1.2.2.2.2.2.1 w h))
theorem ha_X4_knownOrThrow_93 {args : Array Value} {s : State} {G : gG} {H0 : Heap} (hX : gX G s H0) (hts : ∀ w ∈ wsX4_knownOrThrow, w.before args s = true) : ∀ w ∈ vx_atS RX4 93 "java/lang/IndexOutOfBoundsException" ["java/lang/RuntimeException", "java/lang/Exception"], w.before args s = true := vx_hat (B := gFc) (fun w h => hts w (List.mem_cons_of_mem _ (List.mem_append_right _ h))) (by decide +kernel) (fun w h => va_Nw.use (gFc_ok w h).2 (hX.1.2.2.2.2.2.1 w h))
theorem ha_X4_note_62 {args : Array Value} {s : State} {G : gG} {H0 : Heap} (hX : gX G s H0) (hts : ∀ w ∈ wsX4_note, w.before args s = true) : ∀ w ∈ vx_atS RX4 62 "java/lang/IllegalStateException" ["java/lang/RuntimeException", "java/lang/Exception"], w.before args s = true := vx_hat (B := gFc) (fun w h => hts w (List.mem_cons_of_mem _ (List.mem_append_left _ (List.mem_append_left _ (List.mem_append_right _ h))))) (by decide +kernel) (fun w h => va_Nw.use (gFc_ok w h).2 (hX.1.2.2.2.2.2.1 w h))
theorem ha_X4_correct_93 {args : Array Value} {s : State} {G : gG} {H0 : Heap} (hX : gX G s H0) (hts : ∀ w ∈ wsX4_correct, w.before args s = true) : ∀ w ∈ vx_atS RX4 93 "java/lang/IndexOutOfBoundsException" ["java/lang/RuntimeException", "java/lang/Exception"], w.before args s = true := vx_hat (B := gFc) (fun w h => hts w (List.mem_cons_of_mem _ (List.mem_append_left _ (List.mem_append_right _ h)))) (by decide +kernel) (fun w h => va_Nw.use (gFc_ok w h).2 (hX.1.2.2.2.2.2.1 w h))
theorem ha_X4_shift_62 {args : Array Value} {s : State} {G : gG} {H0 : Heap} (hX : gX G s H0) (hts : ∀ w ∈ wsX4_shift, w.before args s = true) : ∀ w ∈ vx_atS RX4 62 "java/lang/IllegalStateException" ["java/lang/RuntimeException", "java/lang/Exception"], w.before args s = true := vx_hat (B := gFc) (fun w h => hts w (List.mem_cons_of_mem _ (List.mem_append_left _ (List.mem_append_left _ (List.mem_append_right _ h))))) (by decide +kernel) (fun w h => va_Nw.use (gFc_ok w h).2 (hX.1.2.2.2.2.2.1 w h))
theorem ha_X4_enteredOrThrow_93 {args : Array Value} {s : State} {G : gG} {H0 : Heap} (hX : gX G s H0) (hts : ∀ w ∈ wsX4_enteredOrThrow, w.before args s = true) : ∀ w ∈ vx_atS RX4 93 "java/lang/IndexOutOfBoundsException" ["java/lang/RuntimeException", "java/lang/Exception"], w.before args s = true := vx_hat (B := gFc) (fun w h => hts w (List.mem_cons_of_mem _ (List.mem_append_right _ h))) (by decide +kernel) (fun w h => va_Nw.use (gFc_ok w h).2 (hX.1.2.2.2.2.2.1 w h))
theorem ha_X4_step_93 {args : Array Value} {s : State} {G : gG} {H0 : Heap} (hX : gX G s H0) (hts : ∀ w ∈ wsX4_step, w.before args s = true) : ∀ w ∈ vx_atS RX4 93 "java/lang/IndexOutOfBoundsException" ["java/lang/RuntimeException", "java/lang/Exception"], w.before args s = true := vx_hat (B := gFc) (fun w h => hts w (List.mem_cons_of_mem _ (List.mem_append_right _ h))) (by decide +kernel) (fun w h => va_Nw.use (gFc_ok w h).2 (hX.1.2.2.2.2.2.1 w h))
theorem ha_X4_hum_62 {args : Array Value} {s : State} {G : gG} {H0 : Heap} (hX : gX G s H0) (hts : ∀ w ∈ wsX4_hum, w.before args s = true) : ∀ w ∈ vx_atS RX4 62 "java/lang/IllegalStateException" ["java/lang/RuntimeException", "java/lang/Exception"], w.before args s = true := vx_hat (B := gFc) (fun w h => hts w (List.mem_cons_of_mem _ (List.mem_append_left _ (List.mem_append_right _ h)))) (by decide +kernel) (fun w h => va_Nw.use (gFc_ok w h).2 (hX.1.2.2.2.2.2.1 w h))
theorem ha_X4_costByAll_62 {args : Array Value} {s : State} {G : gG} {H0 : Heap} (hX : gX G s H0) (hts : ∀ w ∈ wsX4_costByAll, w.before args s = true) : ∀ w ∈ vx_atS RX4 62 "java/lang/IllegalStateException" ["java/lang/RuntimeException", "java/lang/Exception"], w.before args s = true := vx_hat (B := gFc) (fun w h => hts w (List.mem_cons_of_mem _ (List.mem_append_left _ (List.mem_append_right _ h)))) (by decide +kernel) (fun w h => va_Nw.use (gFc_ok w h).2 (hX.1.2.2.2.2.2.1 w h))
theorem ha_X4_found_93 {args : Array Value} {s : State} {G : gG} {H0 : Heap} (hX : gX G s H0) (hts : ∀ w ∈ wsX4_found, w.before args s = true) : ∀ w ∈ vx_atS RX4 93 "java/lang/IndexOutOfBoundsException" ["java/lang/RuntimeException", "java/lang/Exception"], w.before args s = true := vx_hat (B := gFc) (fun w h => hts w (List.mem_cons_of_mem _ (List.mem_append_right _ h))) (by decide +kernel) (fun w h => va_Nw.use (gFc_ok w h).2 (hX.1.2.2.2.2.2.1 w h))
theorem ha_X4_refuseUnlessRunOfHum_62 {args : Array Value} {s : State} {G : gG} {H0 : Heap} (hX : gX G s H0) (hts : ∀ w ∈ wsX4_refuseUnlessRunOfHum, w.before args s = true) : ∀ w ∈ vx_atS RX4 62 "java/lang/IllegalStateException" ["java/lang/RuntimeException", "java/lang/Exception"], w.before args s = true := vx_hat (B := gFc) (fun w h => hts w (List.mem_cons_of_mem _ (List.mem_append_left _ (List.mem_append_right _ h)))) (by decide +kernel) (fun w h => va_Nw.use (gFc_ok w h).2 (hX.1.2.2.2.2.2.1 w h))
theorem ha_X4_place_93 {args : Array Value} {s : State} {G : gG} {H0 : Heap} (hX : gX G s H0) (hts : ∀ w ∈ wsX4_place, w.before args s = true) : ∀ w ∈ vx_atS RX4 93 "java/lang/IndexOutOfBoundsException" ["java/lang/RuntimeException", "java/lang/Exception"], w.before args s = true := vx_hat (B := gFc) (fun w h => hts w (List.mem_cons_of_mem _ (List.mem_append_left _ (List.mem_append_left _ (List.mem_append_right _ h))))) (by decide +kernel) (fun w h => va_Nw.use (gFc_ok w h).2 (hX.1.2.2.2.2.2.1 w h))
theorem ha_X4_link_62 {args : Array Value} {s : State} {G : gG} {H0 : Heap} (hX : gX G s H0) (hts : ∀ w ∈ wsX4_link, w.before args s = true) : ∀ w ∈ vx_atS RX4 62 "java/lang/IllegalStateException" ["java/lang/RuntimeException", "java/lang/Exception"], w.before args s = true := vx_hat (B := gFc) (fun w h => hts w (List.mem_cons_of_mem _ (List.mem_append_left _ (List.mem_append_right _ h)))) (by decide +kernel) (fun w h => va_Nw.use (gFc_ok w h).2 (hX.1.2.2.2.2.2.1 w h))
theorem ha_X4_link_188 {args : Array Value} {s : State} {G : gG} {H0 : Heap} (hX : gX G s H0) (hts : ∀ w ∈ wsX4_link, w.before args s = true) : ∀ w ∈ vx_atS RX4 188 "java/lang/IllegalArgumentException" ["java/lang/RuntimeException", "java/lang/Exception"], w.before args s = true := vx_hat (B := gFc) (fun w h => hts w (List.mem_cons_of_mem _ (List.mem_append_left _ (List.mem_append_left _ (List.mem_append_right _ h))))) (by decide +kernel) (fun w h => va_Nw.use (gFc_ok w h).2 (hX.1.2.2.2.2.2.1 w h))
theorem ha_X4_cut_62 {args : Array Value} {s : State} {G : gG} {H0 : Heap} (hX : gX G s H0) (hts : ∀ w ∈ wsX4_cut, w.before args s = true) : ∀ w ∈ vx_atS RX4 62 "java/lang/IllegalStateException" ["java/lang/RuntimeException", "java/lang/Exception"], w.before args s = true := vx_hat (B := gFc) (fun w h => hts w (List.mem_cons_of_mem _ (List.mem_append_left _ (List.mem_append_right _ h)))) (by decide +kernel) (fun w h => va_Nw.use (gFc_ok w h).2 (hX.1.2.2.2.2.2.1 w h))
abbrev rm_X0_init : Room := { frames := 9, cells := 2, slots := 18, locals := 221 }
abbrev rm_X0_admitTune : Room := { frames := 9, cells := 0, slots := 0, locals := 221 }
abbrev rm_X0_areLinked : Room := { frames := 9, cells := 0, slots := 0, locals := 221 }
abbrev rm_X0_toggle : Room := { frames := 9, cells := 0, slots := 0, locals := 222 }
abbrev rm_X0_countFamilies : Room := { frames := 11, cells := 0, slots := 0, locals := 267 }
abbrev rm_X0_lowestOfFamily : Room := { frames := 10, cells := 0, slots := 0, locals := 244 }
abbrev rm_X0_withPartners : Room := { frames := 9, cells := 0, slots := 0, locals := 221 }
abbrev rm_X0_setOf : Room := { frames := 8, cells := 0, slots := 0, locals := 200 }
abbrev rm_X1_init : Room := { frames := 8, cells := 1, slots := 288, locals := 200 }
abbrev rm_X1_cheapestByTable : Room := { frames := 12, cells := 0, slots := 0, locals := 302 }
abbrev rm_X1_cheapestByTrying : Room := { frames := 60, cells := 0, slots := 0, locals := 3000 }
abbrev rm_X1_tableAt : Room := { frames := 9, cells := 0, slots := 0, locals := 222 }
abbrev rm_X1_setTableAt : Room := { frames := 8, cells := 0, slots := 0, locals := 200 }
abbrev rm_X1_cheapestTo : Room := { frames := 11, cells := 0, slots := 0, locals := 277 }
abbrev rm_X1_costBy : Room := { frames := 10, cells := 0, slots := 0, locals := 251 }
abbrev rm_X1_costOfMove : Room := { frames := 9, cells := 0, slots := 0, locals := 221 }
abbrev rm_X1_cheaper : Room := { frames := 8, cells := 0, slots := 0, locals := 200 }
abbrev rm_X2_init : Room := { frames := 8, cells := 1, slots := 384, locals := 200 }
abbrev rm_X2_size : Room := { frames := 8, cells := 0, slots := 0, locals := 200 }
abbrev rm_X2_isFull : Room := { frames := 8, cells := 0, slots := 0, locals := 200 }
abbrev rm_X2_at : Room := { frames := 8, cells := 0, slots := 0, locals := 200 }
abbrev rm_X2_put : Room := { frames := 8, cells := 0, slots := 0, locals := 200 }
abbrev rm_X2_append : Room := { frames := 8, cells := 0, slots := 0, locals := 200 }
abbrev rm_X2_clear : Room := { frames := 8, cells := 0, slots := 0, locals := 200 }
abbrev rm_X2_stepFrom : Room := { frames := 9, cells := 0, slots := 0, locals := 221 }
abbrev rm_X2_stepsInCommon : Room := { frames := 10, cells := 0, slots := 0, locals := 242 }
abbrev rm_X2_beginsWithContourOf : Room := { frames := 10, cells := 0, slots := 0, locals := 242 }
abbrev rm_X2_direction : Room := { frames := 8, cells := 0, slots := 0, locals := 200 }
abbrev rm_X3_init : Room := { frames := 9, cells := 4, slots := 48, locals := 221 }
abbrev rm_X3_size : Room := { frames := 9, cells := 0, slots := 0, locals := 220 }
abbrev rm_X3_append : Room := { frames := 9, cells := 0, slots := 0, locals := 221 }
abbrev rm_X4_init : Room := { frames := 10, cells := 12, slots := 1160, locals := 241 }
abbrev rm_X4_add : Room := { frames := 11, cells := 12, slots := 120, locals := 265 }
abbrev rm_X4_note : Room := { frames := 11, cells := 6, slots := 60, locals := 265 }
abbrev rm_X4_correct : Room := { frames := 11, cells := 6, slots := 60, locals := 265 }
abbrev rm_X4_shift : Room := { frames := 11, cells := 6, slots := 60, locals := 265 }
abbrev rm_X4_retire : Room := { frames := 11, cells := 6, slots := 60, locals := 265 }
abbrev rm_X4_tunes : Room := { frames := 8, cells := 0, slots := 0, locals := 200 }
abbrev rm_X4_notes : Room := { frames := 10, cells := 6, slots := 60, locals := 243 }
abbrev rm_X4_step : Room := { frames := 10, cells := 6, slots := 60, locals := 243 }
abbrev rm_X4_shared : Room := { frames := 11, cells := 6, slots := 60, locals := 267 }
abbrev rm_X4_hum : Room := { frames := 10, cells := 6, slots := 60, locals := 244 }
abbrev rm_X4_hush : Room := { frames := 9, cells := 0, slots := 0, locals := 220 }
abbrev rm_X4_hummed : Room := { frames := 9, cells := 0, slots := 0, locals := 220 }
abbrev rm_X4_setCosts : Room := { frames := 10, cells := 6, slots := 60, locals := 244 }
abbrev rm_X4_cost : Room := { frames := 13, cells := 6, slots := 60, locals := 325 }
abbrev rm_X4_costByAll : Room := { frames := 61, cells := 6, slots := 60, locals := 3021 }
abbrev rm_X4_matches : Room := { frames := 14, cells := 0, slots := 0, locals := 347 }
abbrev rm_X4_found : Room := { frames := 14, cells := 6, slots := 60, locals := 347 }
abbrev rm_X4_likeContour : Room := { frames := 11, cells := 0, slots := 0, locals := 264 }
abbrev rm_X4_places : Room := { frames := 13, cells := 6, slots := 60, locals := 315 }
abbrev rm_X4_place : Room := { frames := 13, cells := 6, slots := 60, locals := 315 }
abbrev rm_X4_link : Room := { frames := 12, cells := 6, slots := 60, locals := 289 }
abbrev rm_X4_cut : Room := { frames := 12, cells := 6, slots := 60, locals := 289 }
abbrev rm_X4_family : Room := { frames := 11, cells := 6, slots := 60, locals := 267 }
abbrev rm_X4_families : Room := { frames := 12, cells := 0, slots := 0, locals := 289 }
abbrev rm_X4_isWithin : Room := { frames := 8, cells := 0, slots := 0, locals := 200 }
abbrev rm_X4_refuseUnlessWithin : Room := { frames := 9, cells := 1, slots := 6, locals := 222 }
abbrev rm_X4_refuseUnlessNote : Room := { frames := 10, cells := 2, slots := 12, locals := 244 }
abbrev rm_X4_refuseUnlessRunOfHum : Room := { frames := 10, cells := 2, slots := 12, locals := 244 }
abbrev rm_X4_refuseUnlessEntered : Room := { frames := 10, cells := 2, slots := 12, locals := 243 }
abbrev rm_X4_enteredOrNull : Room := { frames := 8, cells := 0, slots := 0, locals := 200 }
abbrev rm_X4_knownOrNull : Room := { frames := 9, cells := 0, slots := 0, locals := 221 }
abbrev rm_X4_enteredOrThrow : Room := { frames := 9, cells := 1, slots := 6, locals := 221 }
abbrev rm_X4_knownOrThrow : Room := { frames := 10, cells := 1, slots := 6, locals := 243 }
abbrev rm_X4_priceTunes : Room := { frames := 13, cells := 0, slots := 0, locals := 325 }
abbrev rm_X4_rankByPrice : Room := { frames := 9, cells := 0, slots := 0, locals := 221 }
abbrev rm_X4_collectPlaces : Room := { frames := 12, cells := 0, slots := 0, locals := 292 }
abbrev rm_X4_collectPlacesOf : Room := { frames := 11, cells := 0, slots := 0, locals := 267 }
abbrev rm_X5_init : Room := { frames := 8, cells := 8, slots := 1124, locals := 200 }
abbrev rm_X5_thrown : Room := { frames := 8, cells := 0, slots := 0, locals := 200 }
abbrev rm_X5_holds : Room := { frames := 8, cells := 0, slots := 0, locals := 200 }
abbrev rm_X5_in : Room := { frames := 8, cells := 0, slots := 0, locals := 200 }
abbrev rm_X5_isTune : Room := { frames := 9, cells := 0, slots := 0, locals := 222 }
abbrev rm_X5_isKnown : Room := { frames := 10, cells := 0, slots := 0, locals := 243 }
abbrev rm_X5_isNote : Room := { frames := 9, cells := 0, slots := 0, locals := 222 }
abbrev rm_X5_sets : Room := { frames := 8, cells := 0, slots := 0, locals := 200 }
abbrev rm_X5_add : Room := { frames := 10, cells := 0, slots := 0, locals := 243 }
abbrev rm_X5_note : Room := { frames := 11, cells := 0, slots := 0, locals := 264 }
abbrev rm_X5_correct : Room := { frames := 11, cells := 0, slots := 0, locals := 264 }
abbrev rm_X5_mayShift : Room := { frames := 9, cells := 0, slots := 0, locals := 222 }
abbrev rm_X5_shift : Room := { frames := 11, cells := 0, slots := 0, locals := 264 }
abbrev rm_X5_retire : Room := { frames := 11, cells := 0, slots := 0, locals := 264 }
abbrev rm_X5_tunes : Room := { frames := 8, cells := 0, slots := 0, locals := 200 }
abbrev rm_X5_notes : Room := { frames := 10, cells := 0, slots := 0, locals := 243 }
abbrev rm_X5_stepOf : Room := { frames := 8, cells := 0, slots := 0, locals := 200 }
abbrev rm_X5_step : Room := { frames := 10, cells := 0, slots := 0, locals := 243 }
abbrev rm_X5_alike : Room := { frames := 9, cells := 0, slots := 0, locals := 222 }
abbrev rm_X5_shared : Room := { frames := 10, cells := 0, slots := 0, locals := 247 }
abbrev rm_X5_hum : Room := { frames := 9, cells := 0, slots := 0, locals := 222 }
abbrev rm_X5_hush : Room := { frames := 8, cells := 0, slots := 0, locals := 200 }
abbrev rm_X5_hummed : Room := { frames := 8, cells := 0, slots := 0, locals := 200 }
abbrev rm_X5_setCosts : Room := { frames := 9, cells := 0, slots := 0, locals := 222 }
abbrev rm_X5_costOfNotes : Room := { frames := 8, cells := 0, slots := 0, locals := 200 }
abbrev rm_X5_costOfPitches : Room := { frames := 8, cells := 0, slots := 0, locals := 200 }
abbrev rm_X5_laid : Room := { frames := 9, cells := 0, slots := 0, locals := 225 }
abbrev rm_X5_least : Room := { frames := 8, cells := 0, slots := 0, locals := 200 }
abbrev rm_X5_costOf : Room := { frames := 10, cells := 0, slots := 0, locals := 251 }
abbrev rm_X5_cost : Room := { frames := 11, cells := 0, slots := 0, locals := 277 }
abbrev rm_X5_costByAll : Room := { frames := 11, cells := 0, slots := 0, locals := 277 }
abbrev rm_X5_many : Room := { frames := 11, cells := 0, slots := 0, locals := 277 }
abbrev rm_X5_matches : Room := { frames := 12, cells := 0, slots := 0, locals := 299 }
abbrev rm_X5_rank : Room := { frames := 11, cells := 0, slots := 0, locals := 277 }
abbrev rm_X5_found : Room := { frames := 12, cells := 0, slots := 0, locals := 302 }
abbrev rm_X5_sign : Room := { frames := 8, cells := 0, slots := 0, locals := 200 }
abbrev rm_X5_isLike : Room := { frames := 9, cells := 0, slots := 0, locals := 222 }
abbrev rm_X5_likeContour : Room := { frames := 11, cells := 0, slots := 0, locals := 264 }
abbrev rm_X5_isRun : Room := { frames := 9, cells := 0, slots := 0, locals := 222 }
abbrev rm_X5_errorOfRun : Room := { frames := 9, cells := 0, slots := 0, locals := 222 }
abbrev rm_X5_placesOf : Room := { frames := 10, cells := 0, slots := 0, locals := 247 }
abbrev rm_X5_places : Room := { frames := 11, cells := 0, slots := 0, locals := 270 }
abbrev rm_X5_place : Room := { frames := 11, cells := 0, slots := 0, locals := 270 }
abbrev rm_X5_familyOf : Room := { frames := 8, cells := 0, slots := 0, locals := 200 }
abbrev rm_X5_lowest : Room := { frames := 9, cells := 0, slots := 0, locals := 224 }
abbrev rm_X5_familiesOf : Room := { frames := 10, cells := 0, slots := 0, locals := 247 }
abbrev rm_X5_areLinked : Room := { frames := 8, cells := 0, slots := 0, locals := 200 }
abbrev rm_X5_link : Room := { frames := 11, cells := 0, slots := 0, locals := 269 }
abbrev rm_X5_cut : Room := { frames := 11, cells := 0, slots := 0, locals := 269 }
abbrev rm_X5_family : Room := { frames := 10, cells := 0, slots := 0, locals := 247 }
abbrev rm_X5_families : Room := { frames := 11, cells := 0, slots := 0, locals := 269 }
abbrev rm_L_add : Room := { frames := 12, cells := 12, slots := 120, locals := 288 }
abbrev rm_L_note : Room := { frames := 12, cells := 6, slots := 60, locals := 289 }
abbrev rm_L_correct : Room := { frames := 12, cells := 6, slots := 60, locals := 291 }
abbrev rm_L_shift : Room := { frames := 12, cells := 6, slots := 60, locals := 289 }
abbrev rm_L_retire : Room := { frames := 12, cells := 6, slots := 60, locals := 288 }
abbrev rm_L_notes : Room := { frames := 11, cells := 6, slots := 60, locals := 264 }
abbrev rm_L_step : Room := { frames := 11, cells := 6, slots := 60, locals := 266 }
abbrev rm_L_shared : Room := { frames := 12, cells := 6, slots := 60, locals := 294 }
abbrev rm_L_hum : Room := { frames := 11, cells := 6, slots := 60, locals := 265 }
abbrev rm_L_setCosts : Room := { frames := 11, cells := 6, slots := 60, locals := 267 }
abbrev rm_L_cost : Room := { frames := 14, cells := 6, slots := 60, locals := 346 }
abbrev rm_L_costByAll : Room := { frames := 62, cells := 6, slots := 60, locals := 3043 }
abbrev rm_L_found : Room := { frames := 15, cells := 6, slots := 60, locals := 369 }
abbrev rm_L_places : Room := { frames := 14, cells := 6, slots := 60, locals := 336 }
abbrev rm_L_place : Room := { frames := 14, cells := 6, slots := 60, locals := 337 }
abbrev rm_L_link : Room := { frames := 13, cells := 6, slots := 60, locals := 311 }
abbrev rm_L_cut : Room := { frames := 13, cells := 6, slots := 60, locals := 311 }
abbrev rm_L_family : Room := { frames := 12, cells := 6, slots := 60, locals := 288 }
end
section
/-! ===== TuneCatalogue.Row: a row of numbers in a room that does not grow ===== -/
def gRow (G : gG) (a b cap n : Nat) (f : Nat → Int32) (H : Heap) : Prop := gat G a (.inr (2, [.ref b, .int (zI n)])) H ∧ gat G b (.inl (gI G, cap, .inl f)) H ∧ n ≤ cap ∧ cap ≤ 384 ∧ gB G ≤ a ∧ gB G ≤ b ∧ a ≠ b
theorem gRow.ext {G : gG} {a b cap n : Nat} {f : Nat → Int32} {H H1 : Heap} (h : gRow G a b cap n f H) (x : gExt H H1) : gRow G a b cap n f H1 := ⟨h.1.ext x, h.2.1.ext x, h.2.2⟩
theorem gRow.only {G : gG} {a b cap n : Nat} {f : Nat → Int32} {L : List Nat} {H H1 : Heap} (h : gRow G a b cap n f H) (x : gOnly L H H1) (n1 : a ∉ L) (n2 : b ∉ L) : gRow G a b cap n f H1 := ⟨h.1.only x n1, h.2.1.only x n2, h.2.2⟩
/-- how many steps are the same from i of f and from j of g on, of at most L -/
def cmn (f g : Nat → Int32) : Nat → Nat → Nat → Nat
  | _, _, 0 => 0
  | i, j, L + 1 => if f (i + 1) - f i = g (j + 1) - g j then cmn f g (i + 1) (j + 1) L + 1 else 0
def dirI (x : Int32) : Int := if 0 < x then 1 else if x < 0 then -1 else 0
theorem dirI_rng (x : Int32) : -1 ≤ dirI x ∧ dirI x ≤ 1 := by unfold dirI; split <;> (try split) <;> omega
set_option maxHeartbeats 4000000 in
set_option maxRecDepth 100000 in
theorem k_size (l : Launch) (G : gG) (a b cap n : Nat) (f : Nat → Int32) (H : Heap) (hR : gRow G a b cap n f H) : gM l yX2_size wsX2_size rm_X2_size [.ref a] G H (gi (fun r H1 => zI n = r ∧ H = H1)) (gNo) 0 0 := by
  obtain ⟨ho, hq, hn, hc, ga, gb, hab⟩ := hR
  refine g_start (cc := cX2_size) (maxL := 1) (ret := (some .int)) (by decide +kernel) rfl (Nat.le_of_ble_eq_true rfl) ?_
  intro p e s m args below meth c F ls hl
  obtain ⟨hx, hb, hml, hr, hts, hown, hlocks, hxt, hH, hX, hin⟩ := F
  have hown : s.vm.findClass RX2 = some m.cls := hown
  have hS : va_S (gA G) s.heap H [] := by rw [hH]; exact va_S.rf
  have hl : lv_has ls 1 [(0, .ref a)] := hl
  refine lv_aload_n hx hb dX2_size_0 rfl (lv_at hl 0 rfl) ?_
  refine g_get hx hb hX hts (fun w h => (List.mem_cons_of_mem _ (List.mem_append_right _ h))) hown ho rfl 1 (by decide) (hts (.fieldLink RX2 19 "TuneCatalogue$Row" "size" "I") (List.mem_cons_of_mem _ (List.mem_append_left _ (List.mem_of_getElem? (i := 0) rfl)))) rfl dX2_size_1 ?_
  exact g_reti hx hb hr hlocks hS rfl (⟨rfl, rfl⟩) (Nat.le_of_ble_eq_true rfl) (Nat.le_of_ble_eq_true rfl) dX2_size_4
set_option maxHeartbeats 4000000 in
set_option maxRecDepth 100000 in
theorem k_isFull (l : Launch) (G : gG) (a b cap n : Nat) (f : Nat → Int32) (H : Heap) (hR : gRow G a b cap n f H) : gM l yX2_isFull wsX2_isFull rm_X2_isFull [.ref a] G H (gi (fun r H1 => (if cap ≤ n then (1 : Int32) else 0) = r ∧ H = H1)) (gNo) 0 0 := by
  obtain ⟨ho, hq, hn, hc, ga, gb, hab⟩ := hR
  refine g_start (cc := cX2_isFull) (maxL := 1) (ret := (some .boolean)) (by decide +kernel) rfl (Nat.le_of_ble_eq_true rfl) ?_
  intro p e s m args below meth c F ls hl
  obtain ⟨hx, hb, hml, hr, hts, hown, hlocks, hxt, hH, hX, hin⟩ := F
  have hown : s.vm.findClass RX2 = some m.cls := hown
  have hS : va_S (gA G) s.heap H [] := by rw [hH]; exact va_S.rf
  have hl : lv_has ls 1 [(0, .ref a)] := hl
  refine lv_aload_n hx hb dX2_isFull_0 rfl (lv_at hl 0 rfl) ?_
  refine g_get hx hb hX hts (fun w h => (List.mem_cons_of_mem _ (List.mem_append_right _ h))) hown ho rfl 1 (by decide) (hts (.fieldLink RX2 19 "TuneCatalogue$Row" "size" "I") (List.mem_cons_of_mem _ (List.mem_append_left _ (List.mem_of_getElem? (i := 0) rfl)))) rfl dX2_isFull_1 ?_
  refine lv_aload_n hx hb dX2_isFull_4 rfl (lv_at hl 0 rfl) ?_
  refine g_get hx hb hX hts (fun w h => (List.mem_cons_of_mem _ (List.mem_append_right _ h))) hown ho rfl 0 (by decide) (hts (.fieldLink RX2 13 "TuneCatalogue$Row" "numbers" "[I") (List.mem_cons_of_mem _ (List.mem_append_left _ (List.mem_of_getElem? (i := 1) rfl)))) rfl dX2_isFull_5 ?_
  refine gz_alenI hx hb hX hq dX2_isFull_8 ?_
  refine gz_icmp_lt (tgt := 16) hx hb ⟨by omega, by omega⟩ ⟨by omega, by omega⟩ dX2_isFull_9 (by decide) (fun c_9 => ?_) (fun c_9 => ?_)
  · refine lv_iconst (v := zI 0) hx hb dX2_isFull_16 rfl ?_
    exact g_reti hx hb hr hlocks hS rfl (⟨by first | (rw [if_pos (by omega)]; rfl) | (rw [if_neg (by omega)]; rfl), rfl⟩) (Nat.le_of_ble_eq_true rfl) (Nat.le_of_ble_eq_true rfl) dX2_isFull_17
  · refine lv_iconst (v := zI 1) hx hb dX2_isFull_12 rfl ?_
    refine lv_goto (tgt := 17) hx hb dX2_isFull_13 (by decide) ?_
    exact g_reti hx hb hr hlocks hS rfl (⟨by first | (rw [if_pos (by omega)]; rfl) | (rw [if_neg (by omega)]; rfl), rfl⟩) (Nat.le_of_ble_eq_true rfl) (Nat.le_of_ble_eq_true rfl) dX2_isFull_17
set_option maxHeartbeats 4000000 in
set_option maxRecDepth 100000 in
theorem k_at (l : Launch) (G : gG) (a b cap n : Nat) (f : Nat → Int32) (H : Heap) (hR : gRow G a b cap n f H) (z : Int) (k : Nat) (hz : z = k) (hk : k < n) : gM l yX2_at wsX2_at rm_X2_at [.ref a, .int (zI z)] G H (gi (fun r H1 => f k = r ∧ H = H1)) (gNo) 0 0 := by
  obtain ⟨ho, hq, hn, hc, ga, gb, hab⟩ := hR
  refine g_start (cc := cX2_at) (maxL := 2) (ret := (some .int)) (by decide +kernel) rfl (Nat.le_of_ble_eq_true rfl) ?_
  intro p e s m args below meth c F ls hl
  obtain ⟨hx, hb, hml, hr, hts, hown, hlocks, hxt, hH, hX, hin⟩ := F
  have hown : s.vm.findClass RX2 = some m.cls := hown
  have hS : va_S (gA G) s.heap H [] := by rw [hH]; exact va_S.rf
  have hl : lv_has ls 2 [(0, .ref a), (1, .int (zI z))] := hl
  refine lv_iload_n hx hb dX2_at_0 rfl (lv_at hl 1 rfl) ?_
  refine gz_if_lt (tgt := 30) hx hb ⟨by omega, by omega⟩ dX2_at_1 (by decide) (fun c_1 => ?_) (fun c_1 => ?_)
  · omega
  · refine lv_iload_n hx hb dX2_at_4 rfl (lv_at hl 1 rfl) ?_
    refine lv_aload_n hx hb dX2_at_5 rfl (lv_at hl 0 rfl) ?_
    refine g_get hx hb hX hts (fun w h => (List.mem_cons_of_mem _ (List.mem_append_right _ h))) hown ho rfl 1 (by decide) (hts (.fieldLink RX2 19 "TuneCatalogue$Row" "size" "I") (List.mem_cons_of_mem _ (List.mem_append_left _ (List.mem_of_getElem? (i := 0) rfl)))) rfl dX2_at_6 ?_
    refine gz_icmp_ge (tgt := 30) hx hb ⟨by omega, by omega⟩ ⟨by omega, by omega⟩ dX2_at_9 (by decide) (fun c_9 => ?_) (fun c_9 => ?_)
    · omega
    · refine lv_iload_n hx hb dX2_at_12 rfl (lv_at hl 1 rfl) ?_
      refine lv_aload_n hx hb dX2_at_13 rfl (lv_at hl 0 rfl) ?_
      refine g_get hx hb hX hts (fun w h => (List.mem_cons_of_mem _ (List.mem_append_right _ h))) hown ho rfl 0 (by decide) (hts (.fieldLink RX2 13 "TuneCatalogue$Row" "numbers" "[I") (List.mem_cons_of_mem _ (List.mem_append_left _ (List.mem_of_getElem? (i := 1) rfl)))) rfl dX2_at_14 ?_
      refine gz_alenI hx hb hX hq dX2_at_17 ?_
      refine gz_icmp_ge (tgt := 30) hx hb ⟨by omega, by omega⟩ ⟨by omega, by omega⟩ dX2_at_18 (by decide) (fun c_18 => ?_) (fun c_18 => ?_)
      · omega
      · refine lv_aload_n hx hb dX2_at_21 rfl (lv_at hl 0 rfl) ?_
        refine g_get hx hb hX hts (fun w h => (List.mem_cons_of_mem _ (List.mem_append_right _ h))) hown ho rfl 0 (by decide) (hts (.fieldLink RX2 13 "TuneCatalogue$Row" "numbers" "[I") (List.mem_cons_of_mem _ (List.mem_append_left _ (List.mem_of_getElem? (i := 1) rfl)))) rfl dX2_at_22 ?_
        refine lv_iload_n hx hb dX2_at_25 rfl (lv_at hl 1 rfl) ?_
        refine gz_iald hx hb hX hq k (by omega) (by omega) (by omega) dX2_at_26 ?_
        refine lv_goto (tgt := 31) hx hb dX2_at_27 (by decide) ?_
        exact g_reti hx hb hr hlocks hS rfl (⟨rfl, rfl⟩) (Nat.le_of_ble_eq_true rfl) (Nat.le_of_ble_eq_true rfl) dX2_at_31
set_option maxHeartbeats 4000000 in
set_option maxRecDepth 100000 in
theorem k_put (l : Launch) (G : gG) (a b cap n : Nat) (f : Nat → Int32) (H : Heap) (hR : gRow G a b cap n f H) (z : Int) (k : Nat) (x : Int32) (hz : z = k) (hk : k < n) : gM l yX2_put wsX2_put rm_X2_put [.ref a, .int (zI z), .int x] G H (gv (fun H1 => gRow G a b cap n (upd f k x) H1 ∧ gOnly [b] H H1)) (gNo) 0 0 := by
  obtain ⟨ho, hq, hn, hc, ga, gb, hab⟩ := hR
  refine g_start (cc := cX2_put) (maxL := 3) (ret := none) (by decide +kernel) rfl (Nat.le_of_ble_eq_true rfl) ?_
  intro p e s m args below meth c F ls hl
  obtain ⟨hx, hb, hml, hr, hts, hown, hlocks, hxt, hH, hX, hin⟩ := F
  have hown : s.vm.findClass RX2 = some m.cls := hown
  have hS : va_S (gA G) s.heap H [] := by rw [hH]; exact va_S.rf
  have hl : lv_has ls 3 [(0, .ref a), (1, .int (zI z)), (2, .int x)] := hl
  refine lv_iload_n hx hb dX2_put_0 rfl (lv_at hl 1 rfl) ?_
  refine gz_if_lt (tgt := 28) hx hb ⟨by omega, by omega⟩ dX2_put_1 (by decide) (fun c_1 => ?_) (fun c_1 => ?_)
  · omega
  · refine lv_iload_n hx hb dX2_put_4 rfl (lv_at hl 1 rfl) ?_
    refine lv_aload_n hx hb dX2_put_5 rfl (lv_at hl 0 rfl) ?_
    refine g_get hx hb hX hts (fun w h => (List.mem_cons_of_mem _ (List.mem_append_right _ h))) hown ho rfl 1 (by decide) (hts (.fieldLink RX2 19 "TuneCatalogue$Row" "size" "I") (List.mem_cons_of_mem _ (List.mem_append_left _ (List.mem_of_getElem? (i := 0) rfl)))) rfl dX2_put_6 ?_
    refine gz_icmp_ge (tgt := 28) hx hb ⟨by omega, by omega⟩ ⟨by omega, by omega⟩ dX2_put_9 (by decide) (fun c_9 => ?_) (fun c_9 => ?_)
    · omega
    · refine lv_iload_n hx hb dX2_put_12 rfl (lv_at hl 1 rfl) ?_
      refine lv_aload_n hx hb dX2_put_13 rfl (lv_at hl 0 rfl) ?_
      refine g_get hx hb hX hts (fun w h => (List.mem_cons_of_mem _ (List.mem_append_right _ h))) hown ho rfl 0 (by decide) (hts (.fieldLink RX2 13 "TuneCatalogue$Row" "numbers" "[I") (List.mem_cons_of_mem _ (List.mem_append_left _ (List.mem_of_getElem? (i := 1) rfl)))) rfl dX2_put_14 ?_
      refine gz_alenI hx hb hX hq dX2_put_17 ?_
      refine gz_icmp_ge (tgt := 28) hx hb ⟨by omega, by omega⟩ ⟨by omega, by omega⟩ dX2_put_18 (by decide) (fun c_18 => ?_) (fun c_18 => ?_)
      · omega
      · refine lv_aload_n hx hb dX2_put_21 rfl (lv_at hl 0 rfl) ?_
        refine g_get hx hb hX hts (fun w h => (List.mem_cons_of_mem _ (List.mem_append_right _ h))) hown ho rfl 0 (by decide) (hts (.fieldLink RX2 13 "TuneCatalogue$Row" "numbers" "[I") (List.mem_cons_of_mem _ (List.mem_append_left _ (List.mem_of_getElem? (i := 1) rfl)))) rfl dX2_put_22 ?_
        refine lv_iload_n hx hb dX2_put_25 rfl (lv_at hl 1 rfl) ?_
        refine lv_iload_n hx hb dX2_put_26 rfl (lv_at hl 2 rfl) ?_
        refine gz_iast hx hb hX hS hq gb k (by omega) (by omega) (by omega) dX2_put_27 (fun H_27 locs h_n hO hS => ?_)
        have ho := gat.only1 ho hO hab
        have hq : gat G b (.inl (gI G, cap, .inl (upd f k x))) H_27 := h_n
        exact g_retv hx hb hr hlocks hS (⟨⟨ho, hq, hn, hc, ga, gb, hab⟩, hO⟩) (Nat.le_of_ble_eq_true rfl) (Nat.le_of_ble_eq_true rfl) dX2_put_28
set_option maxHeartbeats 4000000 in
set_option maxRecDepth 100000 in
theorem k_append (l : Launch) (G : gG) (a b cap n : Nat) (f : Nat → Int32) (H : Heap) (hR : gRow G a b cap n f H) (x : Int32) (hk : n < cap) : gM l yX2_append wsX2_append rm_X2_append [.ref a, .int x] G H (gv (fun H1 => gRow G a b cap (n + 1) (upd f n x) H1 ∧ gOnly [a, b] H H1)) (gNo) 0 0 := by
  obtain ⟨ho, hq, hn, hc, ga, gb, hab⟩ := hR
  refine g_start (cc := cX2_append) (maxL := 2) (ret := none) (by decide +kernel) rfl (Nat.le_of_ble_eq_true rfl) ?_
  intro p e s m args below meth c F ls hl
  obtain ⟨hx, hb, hml, hr, hts, hown, hlocks, hxt, hH, hX, hin⟩ := F
  have hown : s.vm.findClass RX2 = some m.cls := hown
  have hS : va_S (gA G) s.heap H [] := by rw [hH]; exact va_S.rf
  have hl : lv_has ls 2 [(0, .ref a), (1, .int x)] := hl
  refine lv_aload_n hx hb dX2_append_0 rfl (lv_at hl 0 rfl) ?_
  refine g_get hx hb hX hts (fun w h => (List.mem_cons_of_mem _ (List.mem_append_right _ h))) hown ho rfl 1 (by decide) (hts (.fieldLink RX2 19 "TuneCatalogue$Row" "size" "I") (List.mem_cons_of_mem _ (List.mem_append_left _ (List.mem_of_getElem? (i := 0) rfl)))) rfl dX2_append_1 ?_
  refine gz_if_lt (tgt := 39) hx hb ⟨by omega, by omega⟩ dX2_append_4 (by decide) (fun c_4 => ?_) (fun c_4 => ?_)
  · omega
  · refine lv_aload_n hx hb dX2_append_7 rfl (lv_at hl 0 rfl) ?_
    refine g_get hx hb hX hts (fun w h => (List.mem_cons_of_mem _ (List.mem_append_right _ h))) hown ho rfl 1 (by decide) (hts (.fieldLink RX2 19 "TuneCatalogue$Row" "size" "I") (List.mem_cons_of_mem _ (List.mem_append_left _ (List.mem_of_getElem? (i := 0) rfl)))) rfl dX2_append_8 ?_
    refine lv_aload_n hx hb dX2_append_11 rfl (lv_at hl 0 rfl) ?_
    refine g_get hx hb hX hts (fun w h => (List.mem_cons_of_mem _ (List.mem_append_right _ h))) hown ho rfl 0 (by decide) (hts (.fieldLink RX2 13 "TuneCatalogue$Row" "numbers" "[I") (List.mem_cons_of_mem _ (List.mem_append_left _ (List.mem_of_getElem? (i := 1) rfl)))) rfl dX2_append_12 ?_
    refine gz_alenI hx hb hX hq dX2_append_15 ?_
    refine gz_icmp_ge (tgt := 39) hx hb ⟨by omega, by omega⟩ ⟨by omega, by omega⟩ dX2_append_16 (by decide) (fun c_16 => ?_) (fun c_16 => ?_)
    · omega
    · refine lv_aload_n hx hb dX2_append_19 rfl (lv_at hl 0 rfl) ?_
      refine g_get hx hb hX hts (fun w h => (List.mem_cons_of_mem _ (List.mem_append_right _ h))) hown ho rfl 0 (by decide) (hts (.fieldLink RX2 13 "TuneCatalogue$Row" "numbers" "[I") (List.mem_cons_of_mem _ (List.mem_append_left _ (List.mem_of_getElem? (i := 1) rfl)))) rfl dX2_append_20 ?_
      refine lv_aload_n hx hb dX2_append_23 rfl (lv_at hl 0 rfl) ?_
      refine g_get hx hb hX hts (fun w h => (List.mem_cons_of_mem _ (List.mem_append_right _ h))) hown ho rfl 1 (by decide) (hts (.fieldLink RX2 19 "TuneCatalogue$Row" "size" "I") (List.mem_cons_of_mem _ (List.mem_append_left _ (List.mem_of_getElem? (i := 0) rfl)))) rfl dX2_append_24 ?_
      refine lv_iload_n hx hb dX2_append_27 rfl (lv_at hl 1 rfl) ?_
      refine gz_iast hx hb hX hS hq gb n rfl (by omega) (by omega) dX2_append_28 (fun H_28 locs h_n hO hS => ?_)
      have ho := gat.only1 ho hO hab
      have hq : gat G b (.inl (gI G, cap, .inl (upd f n x))) H_28 := h_n
      have hO1 := hO
      refine lv_aload_n hx hb dX2_append_29 rfl (lv_at hl 0 rfl) ?_
      refine lv_dup hx hb dX2_append_30 rfl ?_
      refine g_get hx hb hX hts (fun w h => (List.mem_cons_of_mem _ (List.mem_append_right _ h))) hown ho rfl 1 (by decide) (hts (.fieldLink RX2 19 "TuneCatalogue$Row" "size" "I") (List.mem_cons_of_mem _ (List.mem_append_left _ (List.mem_of_getElem? (i := 0) rfl)))) rfl dX2_append_31 ?_
      refine lv_iconst (v := zI 1) hx hb dX2_append_34 rfl ?_
      refine gz_iadd hx hb dX2_append_35 ?_
      refine g_put hx hb hX hts (fun w h => (List.mem_cons_of_mem _ (List.mem_append_right _ h))) tyX2 tyX2_ok nmX2 hown hS ho ga rfl 1 (by decide) (hts (.fieldLink RX2 19 "TuneCatalogue$Row" "size" "I") (List.mem_cons_of_mem _ (List.mem_append_left _ (List.mem_of_getElem? (i := 0) rfl)))) rfl (ty := tyX2 1) rfl rfl rfl (Nat.le_of_ble_eq_true rfl) dX2_append_36 (fun H_36 locs h_n hO hS => ?_)
      have hq := gat.only1 hq hO hab.symm
      have ho : gat G a (.inr (2, [.ref b, .int (zI ((n : Int) + 1))])) H_36 := h_n
      exact g_retv hx hb hr hlocks hS (⟨⟨ho, hq, by omega, hc, ga, gb, hab⟩, hO.1.trans hO1.1, fun q hq2 => by
          simp only [List.mem_cons, List.not_mem_nil, or_false, not_or] at hq2
          exact (hO.2 q (by simp [hq2.1])).trans (hO1.2 q (by simp [hq2.2]))⟩) (Nat.le_of_ble_eq_true rfl) (Nat.le_of_ble_eq_true rfl) dX2_append_39
set_option maxHeartbeats 4000000 in
set_option maxRecDepth 100000 in
theorem k_clear (l : Launch) (G : gG) (a b cap n : Nat) (f : Nat → Int32) (H : Heap) (hR : gRow G a b cap n f H) : gM l yX2_clear wsX2_clear rm_X2_clear [.ref a] G H (gv (fun H1 => gRow G a b cap 0 f H1 ∧ gOnly [a] H H1)) (gNo) 0 0 := by
  obtain ⟨ho, hq, hn, hc, ga, gb, hab⟩ := hR
  refine g_start (cc := cX2_clear) (maxL := 1) (ret := none) (by decide +kernel) rfl (Nat.le_of_ble_eq_true rfl) ?_
  intro p e s m args below meth c F ls hl
  obtain ⟨hx, hb, hml, hr, hts, hown, hlocks, hxt, hH, hX, hin⟩ := F
  have hown : s.vm.findClass RX2 = some m.cls := hown
  have hS : va_S (gA G) s.heap H [] := by rw [hH]; exact va_S.rf
  have hl : lv_has ls 1 [(0, .ref a)] := hl
  refine lv_aload_n hx hb dX2_clear_0 rfl (lv_at hl 0 rfl) ?_
  refine lv_iconst (v := zI 0) hx hb dX2_clear_1 rfl ?_
  refine g_put hx hb hX hts (fun w h => (List.mem_cons_of_mem _ (List.mem_append_right _ h))) tyX2 tyX2_ok nmX2 hown hS ho ga rfl 1 (by decide) (hts (.fieldLink RX2 19 "TuneCatalogue$Row" "size" "I") (List.mem_cons_of_mem _ (List.mem_append_left _ (List.mem_of_getElem? (i := 0) rfl)))) rfl (ty := tyX2 1) rfl rfl rfl (Nat.le_of_ble_eq_true rfl) dX2_clear_2 (fun H_2 locs h_n hO hS => ?_)
  have hq := gat.only1 hq hO hab.symm
  have ho : gat G a (.inr (2, [.ref b, .int (zI 0)])) H_2 := h_n
  exact g_retv hx hb hr hlocks hS (⟨⟨ho, hq, by omega, hc, ga, gb, hab⟩, hO⟩) (Nat.le_of_ble_eq_true rfl) (Nat.le_of_ble_eq_true rfl) dX2_clear_5
set_option maxHeartbeats 4000000 in
set_option maxRecDepth 100000 in
theorem k_stepFrom (l : Launch) (G : gG) (a b cap n : Nat) (f : Nat → Int32) (H : Heap) (hR : gRow G a b cap n f H) (z : Int) (k : Nat) (hz : z = k) (hk : k + 1 < n) : gM l yX2_stepFrom wsX2_stepFrom rm_X2_stepFrom [.ref a, .int (zI z)] G H (gi (fun r H1 => f (k + 1) - f k = r ∧ H = H1)) (gNo) 0 0 := by
  obtain ⟨ho, hq, hn, hc, ga, gb, hab⟩ := hR
  refine g_start (cc := cX2_stepFrom) (maxL := 2) (ret := (some .int)) (by decide +kernel) rfl (Nat.le_of_ble_eq_true rfl) ?_
  intro p e s m args below meth c F ls hl
  obtain ⟨hx, hb, hml, hr, hts, hown, hlocks, hxt, hH, hX, hin⟩ := F
  have hown : s.vm.findClass RX2 = some m.cls := hown
  have hS : va_S (gA G) s.heap H [] := by rw [hH]; exact va_S.rf
  have hl : lv_has ls 2 [(0, .ref a), (1, .int (zI z))] := hl
  refine lv_aload_n hx hb dX2_stepFrom_0 rfl (lv_at hl 0 rfl) ?_
  refine lv_iload_n hx hb dX2_stepFrom_1 rfl (lv_at hl 1 rfl) ?_
  refine lv_iconst (v := zI 1) hx hb dX2_stepFrom_2 rfl ?_
  refine gz_iadd hx hb dX2_stepFrom_3 ?_
  refine g_goi (vx_runV (As := [.int (zI (z + 1))]) (rest := []) ⟨hx, hb, hml, hown, hts⟩ (k_at l G a b cap n f H ⟨ho, hq, hn, hc, ga, gb, hab⟩ (z + 1) (k + 1) (by omega) (by omega)) (cwV 1 hts gX2_stepFrom_X2_at rfl rfl rfl hd_X2_at ⟨(Nat.le_of_ble_eq_true rfl), (Nat.le_of_ble_eq_true rfl)⟩) (g_preV hX hS (ci := 2) rfl ho) rfl rfl hl.1 rfl (lv_room (Nat.le_of_ble_eq_true rfl)) dX2_stepFrom_4 ⟨(Nat.le_of_ble_eq_true rfl), (Nat.le_of_ble_eq_true rfl)⟩) hS (fun r_4 H_4 locs hp hS => ?_)
  obtain ⟨rfl, rfl⟩ := hp
  refine lv_aload_n hx hb dX2_stepFrom_7 rfl (lv_at hl 0 rfl) ?_
  refine lv_iload_n hx hb dX2_stepFrom_8 rfl (lv_at hl 1 rfl) ?_
  refine g_goi (vx_runV (As := [.int (zI z)]) (rest := [.int (f (k + 1))]) ⟨hx, hb, hml, hown, hts⟩ (k_at l G a b cap n f H ⟨ho, hq, hn, hc, ga, gb, hab⟩ z k (by omega) (by omega)) (cwV 1 hts gX2_stepFrom_X2_at rfl rfl rfl hd_X2_at ⟨(Nat.le_of_ble_eq_true rfl), (Nat.le_of_ble_eq_true rfl)⟩) (g_preV hX hS (ci := 2) rfl ho) rfl rfl hl.1 rfl (lv_room (Nat.le_of_ble_eq_true rfl)) dX2_stepFrom_9 ⟨(Nat.le_of_ble_eq_true rfl), (Nat.le_of_ble_eq_true rfl)⟩) hS (fun r_9 H_9 locs hp hS => ?_)
  obtain ⟨rfl, rfl⟩ := hp
  refine lv_isub hx hb dX2_stepFrom_12 ?_
  exact g_reti hx hb hr hlocks hS rfl (⟨rfl, rfl⟩) (Nat.le_of_ble_eq_true rfl) (Nat.le_of_ble_eq_true rfl) dX2_stepFrom_13
set_option maxHeartbeats 4000000 in
set_option maxRecDepth 100000 in
theorem k_direction (l : Launch) (G : gG) (H : Heap) (x : Int32) : gM l yX2_direction wsX2_direction rm_X2_direction [.int x] G H (gi (fun r H1 => zI (dirI x) = r ∧ H = H1)) (gNo) 0 0 := by
  refine g_start (cc := cX2_direction) (maxL := 1) (ret := (some .int)) (by decide +kernel) rfl (Nat.le_of_ble_eq_true rfl) ?_
  intro p e s m args below meth c F ls hl
  obtain ⟨hx, hb, hml, hr, hts, hown, hlocks, hxt, hH, hX, hin⟩ := F
  have hown : s.vm.findClass RX2 = some m.cls := hown
  have hS : va_S (gA G) s.heap H [] := by rw [hH]; exact va_S.rf
  have hl : lv_has ls 1 [(0, .int x)] := hl
  refine lv_iload_n hx hb dX2_direction_0 rfl (lv_at hl 0 rfl) ?_
  refine lv_if_le (tgt := 8) hx hb dX2_direction_1 (by decide) (fun c_1 => ?_) (fun c_1 => ?_)
  · refine lv_iload_n hx hb dX2_direction_8 rfl (lv_at hl 0 rfl) ?_
    refine lv_if_ge (tgt := 16) hx hb dX2_direction_9 (by decide) (fun c_9 => ?_) (fun c_9 => ?_)
    · refine lv_iconst (v := zI 0) hx hb dX2_direction_16 rfl ?_
      exact g_reti hx hb hr hlocks hS rfl (⟨by unfold dirI; first | (rw [if_pos (Int32.not_le.mp c_1)]) | (rw [if_neg (Int32.not_lt.mpr c_1)]; first | rw [if_pos (Int32.not_le.mp c_9)] | rw [if_neg (Int32.not_lt.mpr c_9)]), rfl⟩) (Nat.le_of_ble_eq_true rfl) (Nat.le_of_ble_eq_true rfl) dX2_direction_17
    · refine lv_iconst (v := zI (-1)) hx hb dX2_direction_12 rfl ?_
      refine lv_goto (tgt := 17) hx hb dX2_direction_13 (by decide) ?_
      exact g_reti hx hb hr hlocks hS rfl (⟨by unfold dirI; first | (rw [if_pos (Int32.not_le.mp c_1)]) | (rw [if_neg (Int32.not_lt.mpr c_1)]; first | rw [if_pos (Int32.not_le.mp c_9)] | rw [if_neg (Int32.not_lt.mpr c_9)]), rfl⟩) (Nat.le_of_ble_eq_true rfl) (Nat.le_of_ble_eq_true rfl) dX2_direction_17
  · refine lv_iconst (v := zI 1) hx hb dX2_direction_4 rfl ?_
    refine lv_goto (tgt := 17) hx hb dX2_direction_5 (by decide) ?_
    exact g_reti hx hb hr hlocks hS rfl (⟨by unfold dirI; first | (rw [if_pos (Int32.not_le.mp c_1)]) | (rw [if_neg (Int32.not_lt.mpr c_1)]; first | rw [if_pos (Int32.not_le.mp c_9)] | rw [if_neg (Int32.not_lt.mpr c_9)]), rfl⟩) (Nat.le_of_ble_eq_true rfl) (Nat.le_of_ble_eq_true rfl) dX2_direction_17
theorem cmn_le (f g : Nat → Int32) : ∀ (L i j : Nat), cmn f g i j L ≤ L
  | 0, _, _ => Nat.le_refl _
  | L + 1, i, j => by
    unfold cmn
    have := cmn_le f g L (i + 1) (j + 1)
    split <;> omega
set_option maxHeartbeats 4000000 in
set_option maxRecDepth 100000 in
theorem k_stepsInCommon (l : Launch) (G : gG) (a b cap n : Nat) (f : Nat → Int32) (H : Heap) (hR : gRow G a b cap n f H) (a2 b2 cap2 n2 : Nat) (f2 : Nat → Int32) (hR2 : gRow G a2 b2 cap2 n2 f2 H) (zi zj : Int) (i j : Nat) (hi : zi = i) (hj : zj = j) (hin0 : i < n) (hjn : j < n2) : gM l yX2_stepsInCommon wsX2_stepsInCommon rm_X2_stepsInCommon [.ref a, .int (zI zi), .ref a2, .int (zI zj)] G H (gi (fun r H1 => zI (cmn f f2 i j (Nat.min (n - i) (n2 - j) - 1) : Nat) = r ∧ H = H1)) (gNo) 0 0 := by
  have hR0 := hR
  have hR20 := hR2
  obtain ⟨ho, hq, hn, hc, ga, gb, hab⟩ := hR
  obtain ⟨ho2, hq2, hn2, hc2, ga2, gb2, hab2⟩ := hR2
  refine g_start (cc := cX2_stepsInCommon) (maxL := 6) (ret := (some .int)) (by decide +kernel) rfl (Nat.le_of_ble_eq_true rfl) ?_
  intro p e s m args below meth c F ls hl
  obtain ⟨hx, hb, hml, hr, hts, hown, hlocks, hxt, hH, hX, hin⟩ := F
  have hown : s.vm.findClass RX2 = some m.cls := hown
  have hS : va_S (gA G) s.heap H [] := by rw [hH]; exact va_S.rf
  have hl : lv_has ls 6 [(0, .ref a), (1, .int (zI zi)), (2, .ref a2), (3, .int (zI zj))] := hl
  refine lv_aload_n hx hb dX2_stepsInCommon_0 rfl (lv_at hl 0 rfl) ?_
  refine g_get hx hb hX hts (fun w h => (List.mem_cons_of_mem _ (List.mem_append_right _ h))) hown ho rfl 1 (by decide) (hts (.fieldLink RX2 19 "TuneCatalogue$Row" "size" "I") (List.mem_cons_of_mem _ (List.mem_append_left _ (List.mem_of_getElem? (i := 0) rfl)))) rfl dX2_stepsInCommon_1 ?_
  refine lv_iload_n hx hb dX2_stepsInCommon_4 rfl (lv_at hl 1 rfl) ?_
  refine gz_isub hx hb dX2_stepsInCommon_5 ?_
  refine lv_aload_n hx hb dX2_stepsInCommon_6 rfl (lv_at hl 2 rfl) ?_
  refine g_get hx hb hX hts (fun w h => (List.mem_cons_of_mem _ (List.mem_append_right _ h))) hown ho2 rfl 1 (by decide) (hts (.fieldLink RX2 19 "TuneCatalogue$Row" "size" "I") (List.mem_cons_of_mem _ (List.mem_append_left _ (List.mem_of_getElem? (i := 0) rfl)))) rfl dX2_stepsInCommon_7 ?_
  refine lv_iload_n hx hb dX2_stepsInCommon_10 rfl (lv_at hl 3 rfl) ?_
  refine gz_isub hx hb dX2_stepsInCommon_11 ?_
  refine gz_mmin hx hb (hml.trans hl.1.symm) hown (hts (.methodLink RX2 27 Lib.Math.min.name) (List.mem_cons_of_mem _ (List.mem_append_left _ (List.mem_of_getElem? (i := 1) rfl)))) (hts (.static Lib.Math.min.name) (List.mem_cons_of_mem _ (List.mem_append_left _ (List.mem_of_getElem? (i := 2) rfl)))) (hts (.initialized "java/lang/Math") (List.mem_cons_of_mem _ (List.mem_append_left _ (List.mem_of_getElem? (i := 3) rfl)))) (hts (.code Lib.Math.min.name Lib.Math.min.code 2 (some .int)) (List.mem_cons_of_mem _ (List.mem_append_left _ (List.mem_of_getElem? (i := 4) rfl)))) (Nat.le_of_ble_eq_true rfl) (Nat.le_of_ble_eq_true rfl) (Nat.le_of_ble_eq_true rfl) (Nat.le_of_ble_eq_true rfl) ⟨by omega, by omega⟩ ⟨by omega, by omega⟩ dX2_stepsInCommon_12 ?_
  refine lv_iconst (v := zI 1) hx hb dX2_stepsInCommon_15 rfl ?_
  refine gz_isub hx hb dX2_stepsInCommon_16 ?_
  refine lv_istore (lv' := [(4, .int (zI ((min ((n : Int) - zi) ((n2 : Int) - zj)) - 1))), (0, .ref a), (1, .int (zI zi)), (2, .ref a2), (3, .int (zI zj))]) hx hb dX2_stepsInCommon_17 hl (by decide) rfl (fun ls hl => ?_)
  refine lv_iconst (v := zI 0) hx hb dX2_stepsInCommon_19 rfl ?_
  refine lv_istore (lv' := [(5, .int (zI 0)), (4, .int (zI ((min ((n : Int) - zi) ((n2 : Int) - zj)) - 1))), (0, .ref a), (1, .int (zI zi)), (2, .ref a2), (3, .int (zI zj))]) hx hb dX2_stepsInCommon_20 hl (by decide) rfl (fun ls hl => ?_)
  obtain ⟨zL, hzL⟩ : ∃ zL : Int, zL = min ((n : Int) - zi) ((n2 : Int) - zj) - 1 := ⟨_, rfl⟩
  rw [← hzL] at hl
  have hL0 : zL = ((Nat.min (n - i) (n2 - j) - 1) : Nat) := by rw [hzL]; have : Nat.min (n - i) (n2 - j) = min (n - i) (n2 - j) := rfl; omega
  have loop_22 : ∀ (M_ : Nat) (y : Int) (k : Nat) (locs : List Loc), (Nat.min (n - i) (n2 - j) - 1) - k < M_ → (y = k) → (k ≤ (Nat.min (n - i) (n2 - j) - 1)) → (cmn f f2 i j (Nat.min (n - i) (n2 - j) - 1) = k + cmn f f2 (i + k) (j + k) ((Nat.min (n - i) (n2 - j) - 1) - k)) → va_S (gA G) s.heap H locs → ∀ (ls : Array Slot), lv_has ls 6 [(5, .int (zI y)), (4, .int (zI zL)), (0, .ref a), (1, .int (zI zi)), (2, .ref a2), (3, .int (zI zj))] → W p l e rm_X2_stepsInCommon s m args below meth c H locs (0) (0) (vx_MQ below (gQ G (gi (fun r H1 => zI (cmn f f2 i j (Nat.min (n - i) (n2 - j) - 1) : Nat) = r ∧ H = H1))) (gXC G (gNo)) args s 0 0 (gA G)) (F0 m 22 ls []) := by
    intro M_
    induction M_ with
    | zero => intro y k locs_0 h_0; exact absurd h_0 (Nat.not_lt_zero _)
    | succ M_ ih_22 =>
      intro y k locs hM_22 hy hkL hc9 hS ls hl
      refine lv_iload hx hb dX2_stepsInCommon_22 (lv_at hl 0 rfl) ?_
      refine lv_iload hx hb dX2_stepsInCommon_24 (lv_at hl 1 rfl) ?_
      refine gz_icmp_ge (tgt := 54) hx hb ⟨by omega, by omega⟩ ⟨by omega, by omega⟩ dX2_stepsInCommon_26 (by decide) (fun c_26 => ?_) (fun c_26 => ?_)
      · refine lv_iload hx hb dX2_stepsInCommon_54 (lv_at hl 0 rfl) ?_
        exact g_reti hx hb hr hlocks hS rfl (⟨by
            rw [hc9]
            first
            | (rw [show (Nat.min (n - i) (n2 - j) - 1) - k = 0 by omega, cmn]; congr 1; omega)
            | (rw [show (Nat.min (n - i) (n2 - j) - 1) - k = ((Nat.min (n - i) (n2 - j) - 1) - (k + 1)) + 1 by omega, cmn, if_neg c_45]; congr 1; omega), rfl⟩) (Nat.le_of_ble_eq_true rfl) (Nat.le_of_ble_eq_true rfl) dX2_stepsInCommon_56
      · refine lv_aload_n hx hb dX2_stepsInCommon_29 rfl (lv_at hl 2 rfl) ?_
        refine lv_iload_n hx hb dX2_stepsInCommon_30 rfl (lv_at hl 3 rfl) ?_
        refine lv_iload hx hb dX2_stepsInCommon_31 (lv_at hl 0 rfl) ?_
        refine gz_iadd hx hb dX2_stepsInCommon_33 ?_
        refine g_goi (vx_runV (As := [.int (zI (zi + y))]) (rest := []) ⟨hx, hb, hml, hown, hts⟩ (k_stepFrom l G a b cap n f H hR0 (zi + y) (i + k) (by omega) (by omega)) (cwV 1 hts gX2_stepsInCommon_X2_stepFrom rfl rfl rfl hd_X2_stepFrom ⟨(Nat.le_of_ble_eq_true rfl), (Nat.le_of_ble_eq_true rfl)⟩) (g_preV hX hS (ci := 2) rfl ho) rfl rfl hl.1 rfl (lv_room (Nat.le_of_ble_eq_true rfl)) dX2_stepsInCommon_34 ⟨(Nat.le_of_ble_eq_true rfl), (Nat.le_of_ble_eq_true rfl)⟩) hS (fun r_34 H_34 locs hp hS => ?_)
        obtain ⟨rfl, rfl⟩ := hp
        refine lv_aload_n hx hb dX2_stepsInCommon_37 rfl (lv_at hl 4 rfl) ?_
        refine lv_iload_n hx hb dX2_stepsInCommon_38 rfl (lv_at hl 5 rfl) ?_
        refine lv_iload hx hb dX2_stepsInCommon_39 (lv_at hl 0 rfl) ?_
        refine gz_iadd hx hb dX2_stepsInCommon_41 ?_
        refine g_goi (vx_runV (As := [.int (zI (zj + y))]) (rest := [.int (f ((i + k) + 1) - f (i + k))]) ⟨hx, hb, hml, hown, hts⟩ (k_stepFrom l G a2 b2 cap2 n2 f2 H hR20 (zj + y) (j + k) (by omega) (by omega)) (cwV 1 hts gX2_stepsInCommon_X2_stepFrom rfl rfl rfl hd_X2_stepFrom ⟨(Nat.le_of_ble_eq_true rfl), (Nat.le_of_ble_eq_true rfl)⟩) (g_preV hX hS (ci := 2) rfl ho2) rfl rfl hl.1 rfl (lv_room (Nat.le_of_ble_eq_true rfl)) dX2_stepsInCommon_42 ⟨(Nat.le_of_ble_eq_true rfl), (Nat.le_of_ble_eq_true rfl)⟩) hS (fun r_42 H_42 locs hp hS => ?_)
        obtain ⟨rfl, rfl⟩ := hp
        refine lv_icmp_ne (tgt := 54) hx hb dX2_stepsInCommon_45 (by decide) (fun c_45 => ?_) (fun c_45 => ?_)
        · refine lv_iload hx hb dX2_stepsInCommon_54 (lv_at hl 0 rfl) ?_
          exact g_reti hx hb hr hlocks hS rfl (⟨by
              rw [hc9]
              first
              | (rw [show (Nat.min (n - i) (n2 - j) - 1) - k = 0 by omega, cmn]; congr 1; omega)
              | (rw [show (Nat.min (n - i) (n2 - j) - 1) - k = ((Nat.min (n - i) (n2 - j) - 1) - (k + 1)) + 1 by omega, cmn, if_neg c_45]; congr 1; omega), rfl⟩) (Nat.le_of_ble_eq_true rfl) (Nat.le_of_ble_eq_true rfl) dX2_stepsInCommon_56
        · have hc10 : cmn f f2 i j (Nat.min (n - i) (n2 - j) - 1) = (k + 1) + cmn f f2 (i + (k + 1)) (j + (k + 1)) ((Nat.min (n - i) (n2 - j) - 1) - (k + 1)) := by
            rw [hc9, show (Nat.min (n - i) (n2 - j) - 1) - k = ((Nat.min (n - i) (n2 - j) - 1) - (k + 1)) + 1 by omega]
            rw [cmn, if_pos (by first | exact Classical.not_not.mp c_45 | exact c_45), show i + k + 1 = i + (k + 1) by omega, show j + k + 1 = j + (k + 1) by omega]; omega
          refine lv_iinc (v := zI (y + 1)) (lv' := [(5, .int (zI (y + 1))), (4, .int (zI zL)), (0, .ref a), (1, .int (zI zi)), (2, .ref a2), (3, .int (zI zj))]) hx hb dX2_stepsInCommon_48 hl (k := 0) rfl (zI_add _ _) (by decide) rfl (fun ls hl => ?_)
          refine lv_goto (tgt := 22) hx hb dX2_stepsInCommon_51 (by decide) ?_
          exact ih_22 (y + 1) (k + 1) _ (by omega) (by omega) (by omega) hc10 hS ls (lv_sub hl [0, 1, 2, 3, 4, 5] rfl)
  exact loop_22 _ 0 0 _ (Nat.lt_succ_self _) rfl (Nat.zero_le _) (by rw [Nat.zero_add]; rfl) hS ls (lv_sub hl [0, 1, 2, 3, 4, 5] rfl)
def bwc (n : Nat) (f : Nat → Int32) (n2 : Nat) (f2 : Nat → Int32) : Prop := n2 ≤ n ∧ ∀ q, q + 1 < n2 → dirI (f (q + 1) - f q) = dirI (f2 (q + 1) - f2 q)
set_option maxHeartbeats 4000000 in
set_option maxRecDepth 100000 in
theorem k_beginsWithContourOf (l : Launch) (G : gG) (a b cap n : Nat) (f : Nat → Int32) (H : Heap) (hR : gRow G a b cap n f H) (a2 b2 cap2 n2 : Nat) (f2 : Nat → Int32) (hR2 : gRow G a2 b2 cap2 n2 f2 H) : gM l yX2_beginsWithContourOf wsX2_beginsWithContourOf rm_X2_beginsWithContourOf [.ref a, .ref a2] G H (gi (fun r H1 => ((bwc n f n2 f2 ∧ r = zI 1) ∨ (¬ bwc n f n2 f2 ∧ r = zI 0)) ∧ H = H1)) (gNo) 0 0 := by
  have hR0 := hR
  have hR20 := hR2
  obtain ⟨ho, hq, hn, hc, ga, gb, hab⟩ := hR
  obtain ⟨ho2, hq2, hn2, hc2, ga2, gb2, hab2⟩ := hR2
  refine g_start (cc := cX2_beginsWithContourOf) (maxL := 3) (ret := (some .boolean)) (by decide +kernel) rfl (Nat.le_of_ble_eq_true rfl) ?_
  intro p e s m args below meth c F ls hl
  obtain ⟨hx, hb, hml, hr, hts, hown, hlocks, hxt, hH, hX, hin⟩ := F
  have hown : s.vm.findClass RX2 = some m.cls := hown
  have hS : va_S (gA G) s.heap H [] := by rw [hH]; exact va_S.rf
  have hl : lv_has ls 3 [(0, .ref a), (1, .ref a2)] := hl
  refine lv_aload_n hx hb dX2_beginsWithContourOf_0 rfl (lv_at hl 1 rfl) ?_
  refine g_get hx hb hX hts (fun w h => (List.mem_cons_of_mem _ (List.mem_append_right _ h))) hown ho2 rfl 1 (by decide) (hts (.fieldLink RX2 19 "TuneCatalogue$Row" "size" "I") (List.mem_cons_of_mem _ (List.mem_append_left _ (List.mem_of_getElem? (i := 0) rfl)))) rfl dX2_beginsWithContourOf_1 ?_
  refine lv_aload_n hx hb dX2_beginsWithContourOf_4 rfl (lv_at hl 0 rfl) ?_
  refine g_get hx hb hX hts (fun w h => (List.mem_cons_of_mem _ (List.mem_append_right _ h))) hown ho rfl 1 (by decide) (hts (.fieldLink RX2 19 "TuneCatalogue$Row" "size" "I") (List.mem_cons_of_mem _ (List.mem_append_left _ (List.mem_of_getElem? (i := 0) rfl)))) rfl dX2_beginsWithContourOf_5 ?_
  refine gz_icmp_le (tgt := 13) hx hb ⟨by omega, by omega⟩ ⟨by omega, by omega⟩ dX2_beginsWithContourOf_8 (by decide) (fun c_8 => ?_) (fun c_8 => ?_)
  · refine lv_iconst (v := zI 0) hx hb dX2_beginsWithContourOf_13 rfl ?_
    refine lv_istore_n (lv' := [(2, .int (zI 0)), (0, .ref a), (1, .ref a2)]) hx hb dX2_beginsWithContourOf_14 rfl hl (by decide) rfl (fun ls hl => ?_)
    have loop_15 : ∀ (M_ : Nat) (y : Int) (k : Nat) (locs : List Loc), n2 - k < M_ → (y = k) → (k ≤ n2) → (∀ q, q < k → q + 1 < n2 → dirI (f (q + 1) - f q) = dirI (f2 (q + 1) - f2 q)) → va_S (gA G) s.heap H locs → ∀ (ls : Array Slot), lv_has ls 3 [(2, .int (zI y)), (0, .ref a), (1, .ref a2)] → W p l e rm_X2_beginsWithContourOf s m args below meth c H locs (0) (0) (vx_MQ below (gQ G (gi (fun r H1 => ((bwc n f n2 f2 ∧ r = zI 1) ∨ (¬ bwc n f n2 f2 ∧ r = zI 0)) ∧ H = H1))) (gXC G (gNo)) args s 0 0 (gA G)) (F0 m 15 ls []) := by
      intro M_
      induction M_ with
      | zero => intro y k locs_0 h_0; exact absurd h_0 (Nat.not_lt_zero _)
      | succ M_ ih_15 =>
        intro y k locs hM_15 hy hkn hbf hS ls hl
        refine lv_iload_n hx hb dX2_beginsWithContourOf_15 rfl (lv_at hl 0 rfl) ?_
        refine lv_aload_n hx hb dX2_beginsWithContourOf_16 rfl (lv_at hl 2 rfl) ?_
        refine g_get hx hb hX hts (fun w h => (List.mem_cons_of_mem _ (List.mem_append_right _ h))) hown ho2 rfl 1 (by decide) (hts (.fieldLink RX2 19 "TuneCatalogue$Row" "size" "I") (List.mem_cons_of_mem _ (List.mem_append_left _ (List.mem_of_getElem? (i := 0) rfl)))) rfl dX2_beginsWithContourOf_17 ?_
        refine lv_iconst (v := zI 1) hx hb dX2_beginsWithContourOf_20 rfl ?_
        refine gz_isub hx hb dX2_beginsWithContourOf_21 ?_
        refine gz_icmp_ge (tgt := 52) hx hb ⟨by omega, by omega⟩ ⟨by omega, by omega⟩ dX2_beginsWithContourOf_22 (by decide) (fun c_22 => ?_) (fun c_22 => ?_)
        · refine lv_iconst (v := zI 1) hx hb dX2_beginsWithContourOf_52 rfl ?_
          exact g_reti hx hb hr hlocks hS rfl (⟨Or.inl ⟨⟨by omega, fun q h => hbf q (by omega) h⟩, rfl⟩, rfl⟩) (Nat.le_of_ble_eq_true rfl) (Nat.le_of_ble_eq_true rfl) dX2_beginsWithContourOf_53
        · refine lv_aload_n hx hb dX2_beginsWithContourOf_25 rfl (lv_at hl 1 rfl) ?_
          refine lv_iload_n hx hb dX2_beginsWithContourOf_26 rfl (lv_at hl 0 rfl) ?_
          refine g_goi (vx_runV (As := [.int (zI y)]) (rest := []) ⟨hx, hb, hml, hown, hts⟩ (k_stepFrom l G a b cap n f H hR0 y k (by omega) (by omega)) (cwV 1 hts gX2_beginsWithContourOf_X2_stepFrom rfl rfl rfl hd_X2_stepFrom ⟨(Nat.le_of_ble_eq_true rfl), (Nat.le_of_ble_eq_true rfl)⟩) (g_preV hX hS (ci := 2) rfl ho) rfl rfl hl.1 rfl (lv_room (Nat.le_of_ble_eq_true rfl)) dX2_beginsWithContourOf_27 ⟨(Nat.le_of_ble_eq_true rfl), (Nat.le_of_ble_eq_true rfl)⟩) hS (fun r_27 H_27 locs hp hS => ?_)
          obtain ⟨rfl, rfl⟩ := hp
          refine g_goi (vx_runS (As := [.int (f (k + 1) - f k)]) (rest := []) ⟨hx, hb, hml, hown, hts⟩ (k_direction l G H (f (k + 1) - f k)) (va_cwS 1 hts gX2_beginsWithContourOf_X2_direction rfl rfl rfl hd_X2_direction.2 ⟨(Nat.le_of_ble_eq_true rfl), (Nat.le_of_ble_eq_true rfl)⟩) (g_pre hX hS) rfl rfl hl.1 rfl (lv_room (Nat.le_of_ble_eq_true rfl)) dX2_beginsWithContourOf_30 ⟨(Nat.le_of_ble_eq_true rfl), (Nat.le_of_ble_eq_true rfl)⟩) hS (fun r_30 H_30 locs hp hS => ?_)
          obtain ⟨rfl, rfl⟩ := hp
          refine lv_aload_n hx hb dX2_beginsWithContourOf_33 rfl (lv_at hl 2 rfl) ?_
          refine lv_iload_n hx hb dX2_beginsWithContourOf_34 rfl (lv_at hl 0 rfl) ?_
          refine g_goi (vx_runV (As := [.int (zI y)]) (rest := [.int (zI (dirI (f (k + 1) - f k)))]) ⟨hx, hb, hml, hown, hts⟩ (k_stepFrom l G a2 b2 cap2 n2 f2 H hR20 y k (by omega) (by omega)) (cwV 1 hts gX2_beginsWithContourOf_X2_stepFrom rfl rfl rfl hd_X2_stepFrom ⟨(Nat.le_of_ble_eq_true rfl), (Nat.le_of_ble_eq_true rfl)⟩) (g_preV hX hS (ci := 2) rfl ho2) rfl rfl hl.1 rfl (lv_room (Nat.le_of_ble_eq_true rfl)) dX2_beginsWithContourOf_35 ⟨(Nat.le_of_ble_eq_true rfl), (Nat.le_of_ble_eq_true rfl)⟩) hS (fun r_35 H_35 locs hp hS => ?_)
          obtain ⟨rfl, rfl⟩ := hp
          refine g_goi (vx_runS (As := [.int (f2 (k + 1) - f2 k)]) (rest := [.int (zI (dirI (f (k + 1) - f k)))]) ⟨hx, hb, hml, hown, hts⟩ (k_direction l G H (f2 (k + 1) - f2 k)) (va_cwS 1 hts gX2_beginsWithContourOf_X2_direction rfl rfl rfl hd_X2_direction.2 ⟨(Nat.le_of_ble_eq_true rfl), (Nat.le_of_ble_eq_true rfl)⟩) (g_pre hX hS) rfl rfl hl.1 rfl (lv_room (Nat.le_of_ble_eq_true rfl)) dX2_beginsWithContourOf_38 ⟨(Nat.le_of_ble_eq_true rfl), (Nat.le_of_ble_eq_true rfl)⟩) hS (fun r_38 H_38 locs hp hS => ?_)
          obtain ⟨rfl, rfl⟩ := hp
          refine gz_icmp_eq (tgt := 46) hx hb (by have h1 := dirI_rng (f (k + 1) - f k); have h2 := dirI_rng (f2 (k + 1) - f2 k); exact ⟨by omega, by omega⟩) (by have h1 := dirI_rng (f (k + 1) - f k); have h2 := dirI_rng (f2 (k + 1) - f2 k); exact ⟨by omega, by omega⟩) dX2_beginsWithContourOf_41 (by decide) (fun c_41 => ?_) (fun c_41 => ?_)
          · refine lv_iinc (v := zI (y + 1)) (lv' := [(2, .int (zI (y + 1))), (0, .ref a), (1, .ref a2)]) hx hb dX2_beginsWithContourOf_46 hl (k := 0) rfl (zI_add _ _) (by decide) rfl (fun ls hl => ?_)
            refine lv_goto (tgt := 15) hx hb dX2_beginsWithContourOf_49 (by decide) ?_
            exact ih_15 (y + 1) (k + 1) _ (by omega) (by omega) (by omega) (fun q h h1 => by rcases Nat.lt_or_ge q k with g | g; exact hbf q g h1; rw [show q = k by omega]; exact c_41) hS ls (lv_sub hl [0, 1, 2] rfl)
          · refine lv_iconst (v := zI 0) hx hb dX2_beginsWithContourOf_44 rfl ?_
            exact g_reti hx hb hr hlocks hS rfl (⟨Or.inr ⟨fun h => by first | exact absurd h.1 (by omega) | exact c_41 (h.2 k (by omega)), rfl⟩, rfl⟩) (Nat.le_of_ble_eq_true rfl) (Nat.le_of_ble_eq_true rfl) dX2_beginsWithContourOf_45
    exact loop_15 _ 0 0 _ (Nat.lt_succ_self _) rfl (Nat.zero_le _) (fun q h => absurd h (Nat.not_lt_zero _)) hS ls (lv_sub hl [0, 1, 2] rfl)
  · refine lv_iconst (v := zI 0) hx hb dX2_beginsWithContourOf_11 rfl ?_
    exact g_reti hx hb hr hlocks hS rfl (⟨Or.inr ⟨fun h => by first | exact absurd h.1 (by omega) | exact c_41 (h.2 k (by omega)), rfl⟩, rfl⟩) (Nat.le_of_ble_eq_true rfl) (Nat.le_of_ble_eq_true rfl) dX2_beginsWithContourOf_12
theorem gRow.grow {G : gG} {a b cap n : Nat} {f : Nat → Int32} {L : List Nat} {H H1 : Heap} (h : gRow G a b cap n f H) (x : gGrow L H H1) (n1 : a ∉ L) (n2 : b ∉ L) : gRow G a b cap n f H1 := ⟨h.1.grow x n1, h.2.1.grow x n2, h.2.2⟩
theorem zI_nlt0 {z : Int} (h : 0 ≤ z) (hr : rI z) : ¬ zI z < 0 := fun q => by
  have := (zI_lt hr (by decide : rI 0)).mp q
  omega
set_option maxHeartbeats 4000000 in
set_option maxRecDepth 100000 in
theorem k_Row_init (l : Launch) (G : gG) (a cap : Nat) (z : Int) (H : Heap) (ho : gat G a (.inr (2, [.null, .int (zI 0)])) H) (ga : gB G ≤ a) (hz : z = cap) (hc : cap ≤ 384) : gM l yX2_init wsX2_init rm_X2_init [.ref a, .int (zI z)] G H (gv (fun H1 => ∃ b, H.size ≤ b ∧ b < H1.size ∧ gRow G a b cap 0 (fun _ => 0) H1 ∧ gGrow [a] H H1)) (gNo) 1 384 := by
  have ha_lt : a < H.size := va_at.lt ho
  refine g_start (cc := cX2_init) (maxL := 2) (ret := none) (by decide +kernel) rfl (Nat.le_of_ble_eq_true rfl) ?_
  intro p e s m args below meth c F ls hl
  obtain ⟨hx, hb, hml, hr, hts, hown, hlocks, hxt, hH, hX, hin⟩ := F
  have hown : s.vm.findClass RX2 = some m.cls := hown
  have hS : va_S (gA G) s.heap H [] := by rw [hH]; exact va_S.rf
  have hl : lv_has ls 2 [(0, .ref a), (1, .int (zI z))] := hl
  refine lv_aload_n hx hb dX2_init_0 rfl (lv_at hl 0 rfl) ?_
  refine W.objInit hx hb hown (hts (.methodLink RX2 1 objectInit) (List.mem_cons_of_mem _ (List.mem_append_left _ (List.mem_of_getElem? (i := 0) rfl)))) (hts (.instanceMethod objectInit) (List.mem_cons_of_mem _ (List.mem_append_left _ (List.mem_of_getElem? (i := 1) rfl)))) (hts _ (List.mem_cons_of_mem _ (List.mem_append_left _ (List.mem_of_getElem? (i := 2) rfl)))) rfl (by rw [hml]; exact hl.1) rfl dX2_init_1 (Nat.le_of_ble_eq_true rfl) (Nat.le_of_ble_eq_true rfl) ?_
  refine W.eq (g2 := F0 m 4 ls []) rfl ?_
  refine lv_aload_n hx hb dX2_init_4 rfl (lv_at hl 0 rfl) ?_
  refine lv_iload_n hx hb dX2_init_5 rfl (lv_at hl 1 rfl) ?_
  refine lv_iconst (v := zI 0) hx hb dX2_init_6 rfl ?_
  refine gz_mmax hx hb (hml.trans hl.1.symm) hown (hts (.methodLink RX2 7 Lib.Math.max.name) (List.mem_cons_of_mem _ (List.mem_append_left _ (List.mem_of_getElem? (i := 3) rfl)))) (hts (.static Lib.Math.max.name) (List.mem_cons_of_mem _ (List.mem_append_left _ (List.mem_of_getElem? (i := 4) rfl)))) (hts (.initialized "java/lang/Math") (List.mem_cons_of_mem _ (List.mem_append_left _ (List.mem_of_getElem? (i := 5) rfl)))) (hts (.code Lib.Math.max.name Lib.Math.max.code 2 (some .int)) (List.mem_cons_of_mem _ (List.mem_append_left _ (List.mem_of_getElem? (i := 6) rfl)))) (Nat.le_of_ble_eq_true rfl) (Nat.le_of_ble_eq_true rfl) (Nat.le_of_ble_eq_true rfl) (Nat.le_of_ble_eq_true rfl) ⟨by omega, by omega⟩ (by decide) dX2_init_7 ?_
  rw [show max z 0 = z by omega]
  refine g_newa (atype := .int) hx hb hX (hts (.arrayClass .int) (List.mem_cons_of_mem _ (List.mem_append_left _ (List.mem_of_getElem? (i := 7) rfl)))) (cX := gI G) (hX.1.1.2 0 _ rfl).2 hS (N' := cap) (a0 := (cap, .inl (fun _ => 0))) (by rw [vp_cell_i]; rfl) (zI_nlt0 (by omega) ⟨by omega, by omega⟩) (zI_clamp hz (by omega)) (by show cap * 4 ≤ 536870912; omega) (Nat.le_of_ble_eq_true rfl) (by show 0 + cap ≤ 384; omega) dX2_init_10 (fun H_10 q_10 eq_10 hq_10 gq_10 zq_10 hE hS => ?_)
  have ho := gat.ext ho hE
  have hE1 := hE
  refine g_putF hx hb hX hts (fun w h => (List.mem_cons_of_mem _ (List.mem_append_right _ h))) tyX2 tyX2_ok nmX2 hown hS ho ga rfl 0 (by decide) (hts (.fieldLink RX2 13 "TuneCatalogue$Row" "numbers" "[I") (List.mem_cons_of_mem _ (List.mem_append_left _ (List.mem_of_getElem? (i := 8) rfl)))) rfl hin rfl (ty := tyX2 0) rfl rfl rfl (Nat.le_of_ble_eq_true rfl) dX2_init_12 (fun H_12 locs h_n hO hS => ?_)
  have hq_10 := gat.only1 hq_10 hO (by omega)
  have ho : gat G a (.inr (2, [.ref q_10, .int (zI 0)])) H_12 := h_n
  exact g_retv hx hb hr hlocks hS (⟨q_10, by omega, by rw [hO.1]; omega, ⟨ho, hq_10, Nat.zero_le _, hc, ga, gq_10, by omega⟩, by rw [hO.1]; exact hE1.1, fun q h1 h2 => (hO.2 q h2).trans (hE1.2 q h1)⟩) (by show _ ≤ _; omega) (by show _ ≤ _; omega) dX2_init_15
end

section
-- ===== PART A: goes FIRST, ahead of the names: the tables' words, and 'selects' of the private methods out of them =====
/-- a private method of a class that the tables say can be made, by its rows of tables_1 -/
def lw_okq (q : MethodName × Nat) : Prop := (q.1.cls ≠ "java/lang/invoke/MethodHandle" ∧ q.1.cls ≠ "java/lang/invoke/VarHandle") ∧ Cond.instantiable q.1.cls q.2 ∈ tables_1 ∧ Cond.privateMethod q.1 ∈ tables_1 ∧ Cond.instanceMethod q.1 ∈ tables_1
theorem lw_p0 : lw_okq (⟨"GlacierHut", "recorded", "(I)I"⟩, 7) := ⟨⟨by decide +kernel, by decide +kernel⟩, List.mem_of_getElem? (i := 12) (by decide +kernel), List.mem_of_getElem? (i := 289) (by decide +kernel), List.mem_of_getElem? (i := 290) (by decide +kernel)⟩
theorem lw_p1 : lw_okq (⟨"GlacierHut$Stores", "addLot", "(III)V"⟩, 11) := ⟨⟨by decide +kernel, by decide +kernel⟩, List.mem_of_getElem? (i := 26) (by decide +kernel), List.mem_of_getElem? (i := 313) (by decide +kernel), List.mem_of_getElem? (i := 314) (by decide +kernel)⟩
theorem lw_p2 : lw_okq (⟨"GlacierHut$Hut", "rationFor", "(II)I"⟩, 10) := ⟨⟨by decide +kernel, by decide +kernel⟩, List.mem_of_getElem? (i := 20) (by decide +kernel), List.mem_of_getElem? (i := 363) (by decide +kernel), List.mem_of_getElem? (i := 364) (by decide +kernel)⟩
theorem lw_p3 : lw_okq (⟨"GlacierHut$Hut", "gasFor", "(IZ)I"⟩, 10) := ⟨⟨by decide +kernel, by decide +kernel⟩, List.mem_of_getElem? (i := 20) (by decide +kernel), List.mem_of_getElem? (i := 374) (by decide +kernel), List.mem_of_getElem? (i := 375) (by decide +kernel)⟩
theorem lw_p4 : lw_okq (⟨"GlacierHut$Text", "at", "(I)C"⟩, 5) := ⟨⟨by decide +kernel, by decide +kernel⟩, List.mem_of_getElem? (i := 171) (by decide +kernel), List.mem_of_getElem? (i := 557) (by decide +kernel), List.mem_of_getElem? (i := 558) (by decide +kernel)⟩
theorem lw_p5 : lw_okq (⟨"GlacierHut$Text", "numbersOf", "(C)I"⟩, 5) := ⟨⟨by decide +kernel, by decide +kernel⟩, List.mem_of_getElem? (i := 171) (by decide +kernel), List.mem_of_getElem? (i := 561) (by decide +kernel), List.mem_of_getElem? (i := 562) (by decide +kernel)⟩
theorem lw_p6 : lw_okq (⟨"GlacierHut$Text", "passes", "(C)Z"⟩, 5) := ⟨⟨by decide +kernel, by decide +kernel⟩, List.mem_of_getElem? (i := 171) (by decide +kernel), List.mem_of_getElem? (i := 565) (by decide +kernel), List.mem_of_getElem? (i := 566) (by decide +kernel)⟩
theorem lw_p7 : lw_okq (⟨"GlacierHut$Text", "readNumber", "()I"⟩, 5) := ⟨⟨by decide +kernel, by decide +kernel⟩, List.mem_of_getElem? (i := 171) (by decide +kernel), List.mem_of_getElem? (i := 569) (by decide +kernel), List.mem_of_getElem? (i := 570) (by decide +kernel)⟩
theorem lw_p8 : lw_okq (⟨"GlacierHut$Rehearsal", "obey", "(C[I)I"⟩, 6) := ⟨⟨by decide +kernel, by decide +kernel⟩, List.mem_of_getElem? (i := 199) (by decide +kernel), List.mem_of_getElem? (i := 574) (by decide +kernel), List.mem_of_getElem? (i := 575) (by decide +kernel)⟩
theorem lw_p9 : lw_okq (⟨"GlacierHutModel", "begins", "()V"⟩, 14) := ⟨⟨by decide +kernel, by decide +kernel⟩, List.mem_of_getElem? (i := 588) (by decide +kernel), List.mem_of_getElem? (i := 641) (by decide +kernel), List.mem_of_getElem? (i := 642) (by decide +kernel)⟩
theorem lw_p10 : lw_okq (⟨"GlacierHutModel", "loads", "(III)I"⟩, 14) := ⟨⟨by decide +kernel, by decide +kernel⟩, List.mem_of_getElem? (i := 588) (by decide +kernel), List.mem_of_getElem? (i := 645) (by decide +kernel), List.mem_of_getElem? (i := 646) (by decide +kernel)⟩
theorem lw_p11 : lw_okq (⟨"GlacierHutModel", "acted", "(I)I"⟩, 14) := ⟨⟨by decide +kernel, by decide +kernel⟩, List.mem_of_getElem? (i := 588) (by decide +kernel), List.mem_of_getElem? (i := 652) (by decide +kernel), List.mem_of_getElem? (i := 653) (by decide +kernel)⟩
theorem lw_p12 : lw_okq (⟨"GlacierHutModel", "returns", "()V"⟩, 14) := ⟨⟨by decide +kernel, by decide +kernel⟩, List.mem_of_getElem? (i := 588) (by decide +kernel), List.mem_of_getElem? (i := 656) (by decide +kernel), List.mem_of_getElem? (i := 657) (by decide +kernel)⟩
theorem lw_p13 : lw_okq (⟨"GlacierHutModel", "flies", "()I"⟩, 14) := ⟨⟨by decide +kernel, by decide +kernel⟩, List.mem_of_getElem? (i := 588) (by decide +kernel), List.mem_of_getElem? (i := 664) (by decide +kernel), List.mem_of_getElem? (i := 665) (by decide +kernel)⟩
theorem lw_p14 : lw_okq (⟨"GlacierHutModel", "isStorm", "(I)Z"⟩, 14) := ⟨⟨by decide +kernel, by decide +kernel⟩, List.mem_of_getElem? (i := 588) (by decide +kernel), List.mem_of_getElem? (i := 668) (by decide +kernel), List.mem_of_getElem? (i := 669) (by decide +kernel)⟩
theorem lw_p15 : lw_okq (⟨"GlacierHutModel", "comes", "(III)V"⟩, 14) := ⟨⟨by decide +kernel, by decide +kernel⟩, List.mem_of_getElem? (i := 588) (by decide +kernel), List.mem_of_getElem? (i := 672) (by decide +kernel), List.mem_of_getElem? (i := 673) (by decide +kernel)⟩
def lw_privs_1 : List (MethodName × Nat) := [(⟨"GlacierHut", "recorded", "(I)I"⟩, 7), (⟨"GlacierHut$Stores", "addLot", "(III)V"⟩, 11), (⟨"GlacierHut$Hut", "rationFor", "(II)I"⟩, 10), (⟨"GlacierHut$Hut", "gasFor", "(IZ)I"⟩, 10), (⟨"GlacierHut$Text", "at", "(I)C"⟩, 5), (⟨"GlacierHut$Text", "numbersOf", "(C)I"⟩, 5), (⟨"GlacierHut$Text", "passes", "(C)Z"⟩, 5), (⟨"GlacierHut$Text", "readNumber", "()I"⟩, 5), (⟨"GlacierHut$Rehearsal", "obey", "(C[I)I"⟩, 6), (⟨"GlacierHutModel", "begins", "()V"⟩, 14), (⟨"GlacierHutModel", "loads", "(III)I"⟩, 14), (⟨"GlacierHutModel", "acted", "(I)I"⟩, 14), (⟨"GlacierHutModel", "returns", "()V"⟩, 14), (⟨"GlacierHutModel", "flies", "()I"⟩, 14), (⟨"GlacierHutModel", "isStorm", "(I)Z"⟩, 14), (⟨"GlacierHutModel", "comes", "(III)V"⟩, 14)]
theorem lw_r1 : ∀ q ∈ lw_privs_1, lw_okq q := List.forall_mem_cons.mpr ⟨lw_p0, List.forall_mem_cons.mpr ⟨lw_p1, List.forall_mem_cons.mpr ⟨lw_p2, List.forall_mem_cons.mpr ⟨lw_p3, List.forall_mem_cons.mpr ⟨lw_p4, List.forall_mem_cons.mpr ⟨lw_p5, List.forall_mem_cons.mpr ⟨lw_p6, List.forall_mem_cons.mpr ⟨lw_p7, List.forall_mem_cons.mpr ⟨lw_p8, List.forall_mem_cons.mpr ⟨lw_p9, List.forall_mem_cons.mpr ⟨lw_p10, List.forall_mem_cons.mpr ⟨lw_p11, List.forall_mem_cons.mpr ⟨lw_p12, List.forall_mem_cons.mpr ⟨lw_p13, List.forall_mem_cons.mpr ⟨lw_p14, List.forall_mem_cons.mpr ⟨lw_p15, fun _ h => absurd h List.not_mem_nil⟩⟩⟩⟩⟩⟩⟩⟩⟩⟩⟩⟩⟩⟩⟩⟩
theorem lw_p16 : lw_okq (⟨"GlacierHutModel", "ofLot", "(II)I"⟩, 14) := ⟨⟨by decide +kernel, by decide +kernel⟩, List.mem_of_getElem? (i := 588) (by decide +kernel), List.mem_of_getElem? (i := 676) (by decide +kernel), List.mem_of_getElem? (i := 677) (by decide +kernel)⟩
theorem lw_p17 : lw_okq (⟨"GlacierHutModel", "books", "(III)I"⟩, 14) := ⟨⟨by decide +kernel, by decide +kernel⟩, List.mem_of_getElem? (i := 588) (by decide +kernel), List.mem_of_getElem? (i := 684) (by decide +kernel), List.mem_of_getElem? (i := 685) (by decide +kernel)⟩
theorem lw_p18 : lw_okq (⟨"GlacierHutModel", "isStay", "(II)Z"⟩, 14) := ⟨⟨by decide +kernel, by decide +kernel⟩, List.mem_of_getElem? (i := 588) (by decide +kernel), List.mem_of_getElem? (i := 688) (by decide +kernel), List.mem_of_getElem? (i := 689) (by decide +kernel)⟩
theorem lw_p19 : lw_okq (⟨"GlacierHutModel", "isTaken", "(III)Z"⟩, 14) := ⟨⟨by decide +kernel, by decide +kernel⟩, List.mem_of_getElem? (i := 588) (by decide +kernel), List.mem_of_getElem? (i := 692) (by decide +kernel), List.mem_of_getElem? (i := 693) (by decide +kernel)⟩
theorem lw_p20 : lw_okq (⟨"GlacierHutModel", "adds", "(III)V"⟩, 14) := ⟨⟨by decide +kernel, by decide +kernel⟩, List.mem_of_getElem? (i := 588) (by decide +kernel), List.mem_of_getElem? (i := 696) (by decide +kernel), List.mem_of_getElem? (i := 697) (by decide +kernel)⟩
theorem lw_p21 : lw_okq (⟨"GlacierHutModel", "setParty", "(III)V"⟩, 14) := ⟨⟨by decide +kernel, by decide +kernel⟩, List.mem_of_getElem? (i := 588) (by decide +kernel), List.mem_of_getElem? (i := 700) (by decide +kernel), List.mem_of_getElem? (i := 701) (by decide +kernel)⟩
theorem lw_p22 : lw_okq (⟨"GlacierHutModel", "isAny", "()Z"⟩, 14) := ⟨⟨by decide +kernel, by decide +kernel⟩, List.mem_of_getElem? (i := 588) (by decide +kernel), List.mem_of_getElem? (i := 704) (by decide +kernel), List.mem_of_getElem? (i := 705) (by decide +kernel)⟩
theorem lw_p23 : lw_okq (⟨"GlacierHutModel", "partiesOf", "(I)I"⟩, 14) := ⟨⟨by decide +kernel, by decide +kernel⟩, List.mem_of_getElem? (i := 588) (by decide +kernel), List.mem_of_getElem? (i := 708) (by decide +kernel), List.mem_of_getElem? (i := 709) (by decide +kernel)⟩
theorem lw_p24 : lw_okq (⟨"GlacierHutModel", "ofParty", "(II)I"⟩, 14) := ⟨⟨by decide +kernel, by decide +kernel⟩, List.mem_of_getElem? (i := 588) (by decide +kernel), List.mem_of_getElem? (i := 712) (by decide +kernel), List.mem_of_getElem? (i := 713) (by decide +kernel)⟩
theorem lw_p25 : lw_okq (⟨"GlacierHutModel", "night", "()V"⟩, 14) := ⟨⟨by decide +kernel, by decide +kernel⟩, List.mem_of_getElem? (i := 588) (by decide +kernel), List.mem_of_getElem? (i := 716) (by decide +kernel), List.mem_of_getElem? (i := 717) (by decide +kernel)⟩
theorem lw_p26 : lw_okq (⟨"GlacierHutModel", "leave", "()V"⟩, 14) := ⟨⟨by decide +kernel, by decide +kernel⟩, List.mem_of_getElem? (i := 588) (by decide +kernel), List.mem_of_getElem? (i := 720) (by decide +kernel), List.mem_of_getElem? (i := 721) (by decide +kernel)⟩
theorem lw_p27 : lw_okq (⟨"GlacierHutModel", "arrives", "(I)V"⟩, 14) := ⟨⟨by decide +kernel, by decide +kernel⟩, List.mem_of_getElem? (i := 588) (by decide +kernel), List.mem_of_getElem? (i := 724) (by decide +kernel), List.mem_of_getElem? (i := 725) (by decide +kernel)⟩
theorem lw_p28 : lw_okq (⟨"GlacierHutModel", "guests", "()I"⟩, 14) := ⟨⟨by decide +kernel, by decide +kernel⟩, List.mem_of_getElem? (i := 588) (by decide +kernel), List.mem_of_getElem? (i := 728) (by decide +kernel), List.mem_of_getElem? (i := 729) (by decide +kernel)⟩
theorem lw_p29 : lw_okq (⟨"GlacierHutModel", "sups", "(I)V"⟩, 14) := ⟨⟨by decide +kernel, by decide +kernel⟩, List.mem_of_getElem? (i := 588) (by decide +kernel), List.mem_of_getElem? (i := 732) (by decide +kernel), List.mem_of_getElem? (i := 733) (by decide +kernel)⟩
theorem lw_p30 : lw_okq (⟨"GlacierHutModel", "stock", "(I)I"⟩, 14) := ⟨⟨by decide +kernel, by decide +kernel⟩, List.mem_of_getElem? (i := 588) (by decide +kernel), List.mem_of_getElem? (i := 736) (by decide +kernel), List.mem_of_getElem? (i := 737) (by decide +kernel)⟩
theorem lw_p31 : lw_okq (⟨"GlacierHutModel", "uses", "(II)I"⟩, 14) := ⟨⟨by decide +kernel, by decide +kernel⟩, List.mem_of_getElem? (i := 588) (by decide +kernel), List.mem_of_getElem? (i := 740) (by decide +kernel), List.mem_of_getElem? (i := 741) (by decide +kernel)⟩
def lw_privs_2 : List (MethodName × Nat) := [(⟨"GlacierHutModel", "ofLot", "(II)I"⟩, 14), (⟨"GlacierHutModel", "books", "(III)I"⟩, 14), (⟨"GlacierHutModel", "isStay", "(II)Z"⟩, 14), (⟨"GlacierHutModel", "isTaken", "(III)Z"⟩, 14), (⟨"GlacierHutModel", "adds", "(III)V"⟩, 14), (⟨"GlacierHutModel", "setParty", "(III)V"⟩, 14), (⟨"GlacierHutModel", "isAny", "()Z"⟩, 14), (⟨"GlacierHutModel", "partiesOf", "(I)I"⟩, 14), (⟨"GlacierHutModel", "ofParty", "(II)I"⟩, 14), (⟨"GlacierHutModel", "night", "()V"⟩, 14), (⟨"GlacierHutModel", "leave", "()V"⟩, 14), (⟨"GlacierHutModel", "arrives", "(I)V"⟩, 14), (⟨"GlacierHutModel", "guests", "()I"⟩, 14), (⟨"GlacierHutModel", "sups", "(I)V"⟩, 14), (⟨"GlacierHutModel", "stock", "(I)I"⟩, 14), (⟨"GlacierHutModel", "uses", "(II)I"⟩, 14)]
theorem lw_r2 : ∀ q ∈ lw_privs_2, lw_okq q := List.forall_mem_cons.mpr ⟨lw_p16, List.forall_mem_cons.mpr ⟨lw_p17, List.forall_mem_cons.mpr ⟨lw_p18, List.forall_mem_cons.mpr ⟨lw_p19, List.forall_mem_cons.mpr ⟨lw_p20, List.forall_mem_cons.mpr ⟨lw_p21, List.forall_mem_cons.mpr ⟨lw_p22, List.forall_mem_cons.mpr ⟨lw_p23, List.forall_mem_cons.mpr ⟨lw_p24, List.forall_mem_cons.mpr ⟨lw_p25, List.forall_mem_cons.mpr ⟨lw_p26, List.forall_mem_cons.mpr ⟨lw_p27, List.forall_mem_cons.mpr ⟨lw_p28, List.forall_mem_cons.mpr ⟨lw_p29, List.forall_mem_cons.mpr ⟨lw_p30, List.forall_mem_cons.mpr ⟨lw_p31, fun _ h => absurd h List.not_mem_nil⟩⟩⟩⟩⟩⟩⟩⟩⟩⟩⟩⟩⟩⟩⟩⟩
theorem lw_p32 : lw_okq (⟨"GlacierHutModel", "firstOf", "(I)I"⟩, 14) := ⟨⟨by decide +kernel, by decide +kernel⟩, List.mem_of_getElem? (i := 588) (by decide +kernel), List.mem_of_getElem? (i := 744) (by decide +kernel), List.mem_of_getElem? (i := 745) (by decide +kernel)⟩
theorem lw_p33 : lw_okq (⟨"GlacierHutModel", "removes", "(I)V"⟩, 14) := ⟨⟨by decide +kernel, by decide +kernel⟩, List.mem_of_getElem? (i := 588) (by decide +kernel), List.mem_of_getElem? (i := 748) (by decide +kernel), List.mem_of_getElem? (i := 749) (by decide +kernel)⟩
theorem lw_p34 : lw_okq (⟨"GlacierHutModel", "heats", "(I)V"⟩, 14) := ⟨⟨by decide +kernel, by decide +kernel⟩, List.mem_of_getElem? (i := 588) (by decide +kernel), List.mem_of_getElem? (i := 752) (by decide +kernel), List.mem_of_getElem? (i := 753) (by decide +kernel)⟩
theorem lw_p35 : lw_okq (⟨"GlacierHutModel", "spoils", "()V"⟩, 14) := ⟨⟨by decide +kernel, by decide +kernel⟩, List.mem_of_getElem? (i := 588) (by decide +kernel), List.mem_of_getElem? (i := 756) (by decide +kernel), List.mem_of_getElem? (i := 757) (by decide +kernel)⟩
theorem lw_p36 : lw_okq (⟨"GlacierHutModel", "cancels", "(I)I"⟩, 14) := ⟨⟨by decide +kernel, by decide +kernel⟩, List.mem_of_getElem? (i := 588) (by decide +kernel), List.mem_of_getElem? (i := 764) (by decide +kernel), List.mem_of_getElem? (i := 765) (by decide +kernel)⟩
theorem lw_p37 : lw_okq (⟨"GlacierHutModel", "isParty", "(I)Z"⟩, 14) := ⟨⟨by decide +kernel, by decide +kernel⟩, List.mem_of_getElem? (i := 588) (by decide +kernel), List.mem_of_getElem? (i := 768) (by decide +kernel), List.mem_of_getElem? (i := 769) (by decide +kernel)⟩
theorem lw_p38 : lw_okq (⟨"GlacierHutModel", "storms", "(II)I"⟩, 14) := ⟨⟨by decide +kernel, by decide +kernel⟩, List.mem_of_getElem? (i := 588) (by decide +kernel), List.mem_of_getElem? (i := 776) (by decide +kernel), List.mem_of_getElem? (i := 777) (by decide +kernel)⟩
theorem lw_p39 : lw_okq (⟨"GlacierHutModel", "stormsAhead", "()I"⟩, 14) := ⟨⟨by decide +kernel, by decide +kernel⟩, List.mem_of_getElem? (i := 588) (by decide +kernel), List.mem_of_getElem? (i := 780) (by decide +kernel), List.mem_of_getElem? (i := 781) (by decide +kernel)⟩
theorem lw_p40 : lw_okq (⟨"GlacierHutModel", "sleeps", "(I)I"⟩, 14) := ⟨⟨by decide +kernel, by decide +kernel⟩, List.mem_of_getElem? (i := 588) (by decide +kernel), List.mem_of_getElem? (i := 792) (by decide +kernel), List.mem_of_getElem? (i := 793) (by decide +kernel)⟩
theorem lw_p41 : lw_okq (⟨"GlacierHutModel", "lotsOf", "(I)I"⟩, 14) := ⟨⟨by decide +kernel, by decide +kernel⟩, List.mem_of_getElem? (i := 588) (by decide +kernel), List.mem_of_getElem? (i := 811) (by decide +kernel), List.mem_of_getElem? (i := 812) (by decide +kernel)⟩
theorem lw_p42 : lw_okq (⟨"GlacierHutModel", "loadedOf", "(I)I"⟩, 14) := ⟨⟨by decide +kernel, by decide +kernel⟩, List.mem_of_getElem? (i := 588) (by decide +kernel), List.mem_of_getElem? (i := 815) (by decide +kernel), List.mem_of_getElem? (i := 816) (by decide +kernel)⟩
theorem lw_p43 : lw_okq (⟨"GlacierHutModel", "does", "()I"⟩, 14) := ⟨⟨by decide +kernel, by decide +kernel⟩, List.mem_of_getElem? (i := 588) (by decide +kernel), List.mem_of_getElem? (i := 863) (by decide +kernel), List.mem_of_getElem? (i := 864) (by decide +kernel)⟩
theorem lw_p44 : lw_okq (⟨"GlacierHutModel", "here", "()I"⟩, 14) := ⟨⟨by decide +kernel, by decide +kernel⟩, List.mem_of_getElem? (i := 588) (by decide +kernel), List.mem_of_getElem? (i := 867) (by decide +kernel), List.mem_of_getElem? (i := 868) (by decide +kernel)⟩
theorem lw_p45 : lw_okq (⟨"GlacierHutModel", "takesSign", "(I)V"⟩, 14) := ⟨⟨by decide +kernel, by decide +kernel⟩, List.mem_of_getElem? (i := 588) (by decide +kernel), List.mem_of_getElem? (i := 874) (by decide +kernel), List.mem_of_getElem? (i := 875) (by decide +kernel)⟩
theorem lw_p46 : lw_okq (⟨"GlacierHutModel", "number", "()I"⟩, 14) := ⟨⟨by decide +kernel, by decide +kernel⟩, List.mem_of_getElem? (i := 588) (by decide +kernel), List.mem_of_getElem? (i := 878) (by decide +kernel), List.mem_of_getElem? (i := 879) (by decide +kernel)⟩
theorem lw_p47 : lw_okq (⟨"GlacierHutModel", "isDigit", "()Z"⟩, 14) := ⟨⟨by decide +kernel, by decide +kernel⟩, List.mem_of_getElem? (i := 588) (by decide +kernel), List.mem_of_getElem? (i := 882) (by decide +kernel), List.mem_of_getElem? (i := 883) (by decide +kernel)⟩
def lw_privs_3 : List (MethodName × Nat) := [(⟨"GlacierHutModel", "firstOf", "(I)I"⟩, 14), (⟨"GlacierHutModel", "removes", "(I)V"⟩, 14), (⟨"GlacierHutModel", "heats", "(I)V"⟩, 14), (⟨"GlacierHutModel", "spoils", "()V"⟩, 14), (⟨"GlacierHutModel", "cancels", "(I)I"⟩, 14), (⟨"GlacierHutModel", "isParty", "(I)Z"⟩, 14), (⟨"GlacierHutModel", "storms", "(II)I"⟩, 14), (⟨"GlacierHutModel", "stormsAhead", "()I"⟩, 14), (⟨"GlacierHutModel", "sleeps", "(I)I"⟩, 14), (⟨"GlacierHutModel", "lotsOf", "(I)I"⟩, 14), (⟨"GlacierHutModel", "loadedOf", "(I)I"⟩, 14), (⟨"GlacierHutModel", "does", "()I"⟩, 14), (⟨"GlacierHutModel", "here", "()I"⟩, 14), (⟨"GlacierHutModel", "takesSign", "(I)V"⟩, 14), (⟨"GlacierHutModel", "number", "()I"⟩, 14), (⟨"GlacierHutModel", "isDigit", "()Z"⟩, 14)]
theorem lw_r3 : ∀ q ∈ lw_privs_3, lw_okq q := List.forall_mem_cons.mpr ⟨lw_p32, List.forall_mem_cons.mpr ⟨lw_p33, List.forall_mem_cons.mpr ⟨lw_p34, List.forall_mem_cons.mpr ⟨lw_p35, List.forall_mem_cons.mpr ⟨lw_p36, List.forall_mem_cons.mpr ⟨lw_p37, List.forall_mem_cons.mpr ⟨lw_p38, List.forall_mem_cons.mpr ⟨lw_p39, List.forall_mem_cons.mpr ⟨lw_p40, List.forall_mem_cons.mpr ⟨lw_p41, List.forall_mem_cons.mpr ⟨lw_p42, List.forall_mem_cons.mpr ⟨lw_p43, List.forall_mem_cons.mpr ⟨lw_p44, List.forall_mem_cons.mpr ⟨lw_p45, List.forall_mem_cons.mpr ⟨lw_p46, List.forall_mem_cons.mpr ⟨lw_p47, fun _ h => absurd h List.not_mem_nil⟩⟩⟩⟩⟩⟩⟩⟩⟩⟩⟩⟩⟩⟩⟩⟩
theorem lw_p48 : lw_okq (⟨"GlacierHutModel", "called", "(I)I"⟩, 14) := ⟨⟨by decide +kernel, by decide +kernel⟩, List.mem_of_getElem? (i := 588) (by decide +kernel), List.mem_of_getElem? (i := 886) (by decide +kernel), List.mem_of_getElem? (i := 887) (by decide +kernel)⟩
def lw_privs_4 : List (MethodName × Nat) := [(⟨"GlacierHutModel", "called", "(I)I"⟩, 14)]
theorem lw_r4 : ∀ q ∈ lw_privs_4, lw_okq q := List.forall_mem_cons.mpr ⟨lw_p48, fun _ h => absurd h List.not_mem_nil⟩
def lw_privs : List (MethodName × Nat) := lw_privs_1 ++ (lw_privs_2 ++ (lw_privs_3 ++ (lw_privs_4)))
def lw_tbl : List Cond := k2_sels lw_privs ++ tables_1
theorem lw_privs_ok : ∀ q ∈ lw_privs, lw_okq q := by
  show ∀ q ∈ lw_privs_1 ++ (lw_privs_2 ++ (lw_privs_3 ++ (lw_privs_4))), lw_okq q
  exact List.forall_mem_append.mpr ⟨lw_r1, List.forall_mem_append.mpr ⟨lw_r2, List.forall_mem_append.mpr ⟨lw_r3, lw_r4⟩⟩⟩
-- ===== end of PART A; then your names; then what follows =====
end
section
/-! ===== BEGIN words of one list among another's, by their places ===== -/
theorem goodIn_r {big : List Cond} (ws : List Cond) (ps : List Nat) (hp : ws = ps.filterMap (fun i => big[i]?)) (h : ws.all goodWord = true) : GoodIn big ws := by
  intro w hw
  have h1 := List.all_eq_true.mp h w hw
  rw [hp] at hw
  obtain ⟨i, -, hi⟩ := List.mem_filterMap.mp hw
  have hm : w ∈ big := by first | exact List.mem_of_getElem? hi | exact List.getElem?_mem hi
  exact ⟨hm, good_of_word h1⟩
theorem goodIn_app {big a b : List Cond} (ha : GoodIn big a) (hb : GoodIn big b) : GoodIn big (a ++ b) := fun w h => (List.mem_append.mp h).elim (ha w) (hb w)
theorem goodIn_ca {big a b : List Cond} {c : Cond} (ha : GoodIn big (c :: a)) (hb : GoodIn big b) : GoodIn big (c :: (a ++ b)) := fun w h => (List.mem_cons.mp h).elim (fun e => ha w (List.mem_cons.mpr (Or.inl e))) (fun h => (List.mem_append.mp h).elim (fun h => ha w (List.mem_cons.mpr (Or.inr h))) (hb w))
theorem goodIn_sub {big ws : List Cond} (hm : ∀ w ∈ ws, w ∈ big) (h : ws.all goodWord = true) : GoodIn big ws := fun w hw => ⟨hm w hw, good_of_word (List.all_eq_true.mp h w hw)⟩
/-! ===== END ===== -/

/-! ===== BEGIN printed: names, fields, word lists, decode rows ===== -/
def RX0 : String := "GlacierHut$History"
def TX0 : u_T := fun k => match k with
  | 0 => ("GlacierHut$History", "states", "[LGlacierHut$Hut;", true)
  | _ => ("GlacierHut$History", "length", "I", false)
def tyX0 : Nat → FieldType := fun k => match k with
  | 0 => .array (.object "GlacierHut$Hut")
  | _ => .int
abbrev wsX00 : List Cond := u_ws RX0 TX0 2
theorem nmX0 : ∀ a, a < 2 → ∀ b, b < 2 → a ≠ b → (TX0 a).2.1 ≠ (TX0 b).2.1 := by decide +kernel
theorem tyX0_ok : ∀ k, k < 2 → parseFieldDescriptor (TX0 k).2.2.1 = some (tyX0 k) := by decide +kernel
abbrev cX0_init : ByteArray := prog_2_method_1_code
def yX0_init : MethodName := ⟨RX0, "<init>", "()V"⟩
abbrev cX0_prepare : ByteArray := prog_2_method_2_code
def yX0_prepare : MethodName := ⟨RX0, "prepare", "(LGlacierHut$Hut;)V"⟩
abbrev cX0_commit : ByteArray := prog_2_method_3_code
def yX0_commit : MethodName := ⟨RX0, "commit", "()V"⟩
abbrev cX0_takeBack : ByteArray := prog_2_method_4_code
def yX0_takeBack : MethodName := ⟨RX0, "takeBack", "(LGlacierHut$Hut;)V"⟩
def RX1 : String := "GlacierHut$Hut"
def TX1 : u_T := fun k => match k with
  | 0 => ("GlacierHut$Hut", "stores", "LGlacierHut$Stores;", true)
  | 1 => ("GlacierHut$Hut", "parties", "LGlacierHut$Parties;", true)
  | 2 => ("GlacierHut$Hut", "storms", "[Z", true)
  | 3 => ("GlacierHut$Hut", "settings", "[I", true)
  | 4 => ("GlacierHut$Hut", "day", "I", false)
  | 5 => ("GlacierHut$Hut", "flights", "I", false)
  | 6 => ("GlacierHut$Hut", "hungry", "I", false)
  | 7 => ("GlacierHut$Hut", "coldNights", "I", false)
  | 8 => ("GlacierHut$Hut", "guestNights", "I", false)
  | _ => ("GlacierHut$Hut", "cutSuppers", "I", false)
def tyX1 : Nat → FieldType := fun k => match k with
  | 0 => .object "GlacierHut$Stores"
  | 1 => .object "GlacierHut$Parties"
  | 2 => .array .boolean
  | 3 => .array .int
  | 4 => .int
  | 5 => .int
  | 6 => .int
  | 7 => .int
  | 8 => .int
  | _ => .int
abbrev wsX10 : List Cond := u_ws RX1 TX1 10
theorem nmX1 : ∀ a, a < 10 → ∀ b, b < 10 → a ≠ b → (TX1 a).2.1 ≠ (TX1 b).2.1 := by decide +kernel
theorem tyX1_ok : ∀ k, k < 10 → parseFieldDescriptor (TX1 k).2.2.1 = some (tyX1 k) := by decide +kernel
abbrev cX1_init : ByteArray := prog_3_method_1_code
def yX1_init : MethodName := ⟨RX1, "<init>", "()V"⟩
abbrev cX1_copyFrom : ByteArray := prog_3_method_2_code
def yX1_copyFrom : MethodName := ⟨RX1, "copyFrom", "(LGlacierHut$Hut;)V"⟩
abbrev cX1_putOnPallet : ByteArray := prog_3_method_3_code
def yX1_putOnPallet : MethodName := ⟨RX1, "putOnPallet", "(III)I"⟩
abbrev cX1_bringPallet : ByteArray := prog_3_method_4_code
def yX1_bringPallet : MethodName := ⟨RX1, "bringPallet", "()I"⟩
abbrev cX1_mayBeBooked : ByteArray := prog_3_method_5_code
def yX1_mayBeBooked : MethodName := ⟨RX1, "mayBeBooked", "(III)Z"⟩
abbrev cX1_takeBooking : ByteArray := prog_3_method_6_code
def yX1_takeBooking : MethodName := ⟨RX1, "takeBooking", "(IIILGlacierHut$Hut;)I"⟩
abbrev cX1_wouldSuffice : ByteArray := prog_3_method_7_code
def yX1_wouldSuffice : MethodName := ⟨RX1, "wouldSuffice", "(LGlacierHut$Hut;III)Z"⟩
abbrev cX1_callOff : ByteArray := prog_3_method_8_code
def yX1_callOff : MethodName := ⟨RX1, "callOff", "(I)I"⟩
abbrev cX1_tellStorm : ByteArray := prog_3_method_9_code
def yX1_tellStorm : MethodName := ⟨RX1, "tellStorm", "(II)I"⟩
abbrev cX1_tellCalm : ByteArray := prog_3_method_10_code
def yX1_tellCalm : MethodName := ⟨RX1, "tellCalm", "(I)I"⟩
abbrev cX1_isStorm : ByteArray := prog_3_method_11_code
def yX1_isStorm : MethodName := ⟨RX1, "isStorm", "()Z"⟩
abbrev cX1_passNights : ByteArray := prog_3_method_12_code
def yX1_passNights : MethodName := ⟨RX1, "passNights", "(I)I"⟩
abbrev cX1_passNight : ByteArray := prog_3_method_13_code
def yX1_passNight : MethodName := ⟨RX1, "passNight", "()Z"⟩
abbrev cX1_rationFor : ByteArray := prog_3_method_14_code
def yX1_rationFor : MethodName := ⟨RX1, "rationFor", "(II)I"⟩
abbrev cX1_gasFor : ByteArray := prog_3_method_15_code
def yX1_gasFor : MethodName := ⟨RX1, "gasFor", "(IZ)I"⟩
abbrev cX1_changeSetting : ByteArray := prog_3_method_16_code
def yX1_changeSetting : MethodName := ⟨RX1, "changeSetting", "(II)I"⟩
abbrev cX1_settingAt : ByteArray := prog_3_method_17_code
def yX1_settingAt : MethodName := ⟨RX1, "settingAt", "(I)I"⟩
abbrev cX1_dayWhenGone : ByteArray := prog_3_method_18_code
def yX1_dayWhenGone : MethodName := ⟨RX1, "dayWhenGone", "(I)I"⟩
abbrev cX1_dayWhenOut : ByteArray := prog_3_method_19_code
def yX1_dayWhenOut : MethodName := ⟨RX1, "dayWhenOut", "(I)I"⟩
def RX2 : String := "GlacierHut$Parties"
def TX2 : u_T := fun k => match k with
  | 0 => ("GlacierHut$Parties", "size", "[I", true)
  | 1 => ("GlacierHut$Parties", "day", "[I", true)
  | 2 => ("GlacierHut$Parties", "nights", "[I", true)
  | 3 => ("GlacierHut$Parties", "status", "[I", true)
  | 4 => ("GlacierHut$Parties", "slept", "[I", true)
  | 5 => ("GlacierHut$Parties", "came", "[I", true)
  | _ => ("GlacierHut$Parties", "number", "I", false)
def tyX2 : Nat → FieldType := fun k => match k with
  | 0 => .array .int
  | 1 => .array .int
  | 2 => .array .int
  | 3 => .array .int
  | 4 => .array .int
  | 5 => .array .int
  | _ => .int
abbrev wsX20 : List Cond := u_ws RX2 TX2 7
theorem nmX2 : ∀ a, a < 7 → ∀ b, b < 7 → a ≠ b → (TX2 a).2.1 ≠ (TX2 b).2.1 := by decide +kernel
theorem tyX2_ok : ∀ k, k < 7 → parseFieldDescriptor (TX2 k).2.2.1 = some (tyX2 k) := by decide +kernel
abbrev cX2_init : ByteArray := prog_4_method_1_code
def yX2_init : MethodName := ⟨RX2, "<init>", "()V"⟩
abbrev cX2_copyFrom : ByteArray := prog_4_method_2_code
def yX2_copyFrom : MethodName := ⟨RX2, "copyFrom", "(LGlacierHut$Parties;)V"⟩
abbrev cX2_has : ByteArray := prog_4_method_3_code
def yX2_has : MethodName := ⟨RX2, "has", "(I)Z"⟩
abbrev cX2_hasStatus : ByteArray := prog_4_method_4_code
def yX2_hasStatus : MethodName := ⟨RX2, "hasStatus", "(II)Z"⟩
abbrev cX2_isAwaited : ByteArray := prog_4_method_5_code
def yX2_isAwaited : MethodName := ⟨RX2, "isAwaited", "(I)Z"⟩
abbrev cX2_anyAwaited : ByteArray := prog_4_method_6_code
def yX2_anyAwaited : MethodName := ⟨RX2, "anyAwaited", "()Z"⟩
abbrev cX2_withStatus : ByteArray := prog_4_method_7_code
def yX2_withStatus : MethodName := ⟨RX2, "withStatus", "(I)I"⟩
abbrev cX2_guests : ByteArray := prog_4_method_8_code
def yX2_guests : MethodName := ⟨RX2, "guests", "()I"⟩
abbrev cX2_add : ByteArray := prog_4_method_9_code
def yX2_add : MethodName := ⟨RX2, "add", "(III)V"⟩
abbrev cX2_leave : ByteArray := prog_4_method_10_code
def yX2_leave : MethodName := ⟨RX2, "leave", "()V"⟩
abbrev cX2_arrive : ByteArray := prog_4_method_11_code
def yX2_arrive : MethodName := ⟨RX2, "arrive", "(IZI)Z"⟩
abbrev cX2_sleepOnce : ByteArray := prog_4_method_12_code
def yX2_sleepOnce : MethodName := ⟨RX2, "sleepOnce", "()V"⟩
def RX3 : String := "GlacierHut$Rehearsal"
def TX3 : u_T := fun k => match k with
  | 0 => ("GlacierHut$Rehearsal", "hut", "LGlacierHut$Hut;", true)
  | 1 => ("GlacierHut$Rehearsal", "trial", "LGlacierHut$Hut;", true)
  | 2 => ("GlacierHut$Rehearsal", "commands", "I", false)
  | 3 => ("GlacierHut$Rehearsal", "position", "I", false)
  | 4 => ("GlacierHut$Rehearsal", "reason", "I", false)
  | _ => ("GlacierHut$Rehearsal", "cause", "I", false)
def tyX3 : Nat → FieldType := fun k => match k with
  | 0 => .object "GlacierHut$Hut"
  | 1 => .object "GlacierHut$Hut"
  | 2 => .int
  | 3 => .int
  | 4 => .int
  | _ => .int
abbrev wsX30 : List Cond := u_ws RX3 TX3 6
theorem nmX3 : ∀ a, a < 6 → ∀ b, b < 6 → a ≠ b → (TX3 a).2.1 ≠ (TX3 b).2.1 := by decide +kernel
theorem tyX3_ok : ∀ k, k < 6 → parseFieldDescriptor (TX3 k).2.2.1 = some (tyX3 k) := by decide +kernel
abbrev cX3_init : ByteArray := prog_5_method_1_code
def yX3_init : MethodName := ⟨RX3, "<init>", "(LGlacierHut$Hut;)V"⟩
abbrev cX3_run : ByteArray := prog_5_method_2_code
def yX3_run : MethodName := ⟨RX3, "run", "(LGlacierHut$Text;LGlacierHut$Hut;)V"⟩
abbrev cX3_obey : ByteArray := prog_5_method_3_code
def yX3_obey : MethodName := ⟨RX3, "obey", "(C[I)I"⟩
def RX4 : String := "GlacierHut$Stores"
def TX4 : u_T := fun k => match k with
  | 0 => ("GlacierHut$Stores", "lotKind", "[I", true)
  | 1 => ("GlacierHut$Stores", "lotAmount", "[I", true)
  | 2 => ("GlacierHut$Stores", "lotLast", "[I", true)
  | 3 => ("GlacierHut$Stores", "lots", "I", false)
  | 4 => ("GlacierHut$Stores", "palletKind", "[I", true)
  | 5 => ("GlacierHut$Stores", "palletAmount", "[I", true)
  | 6 => ("GlacierHut$Stores", "palletDays", "[I", true)
  | 7 => ("GlacierHut$Stores", "onPallet", "I", false)
  | 8 => ("GlacierHut$Stores", "brought", "[I", true)
  | 9 => ("GlacierHut$Stores", "used", "[I", true)
  | _ => ("GlacierHut$Stores", "spoilt", "[I", true)
def tyX4 : Nat → FieldType := fun k => match k with
  | 0 => .array .int
  | 1 => .array .int
  | 2 => .array .int
  | 3 => .int
  | 4 => .array .int
  | 5 => .array .int
  | 6 => .array .int
  | 7 => .int
  | 8 => .array .int
  | 9 => .array .int
  | _ => .array .int
abbrev wsX40 : List Cond := u_ws RX4 TX4 11
theorem nmX4 : ∀ a, a < 11 → ∀ b, b < 11 → a ≠ b → (TX4 a).2.1 ≠ (TX4 b).2.1 := by decide +kernel
theorem tyX4_ok : ∀ k, k < 11 → parseFieldDescriptor (TX4 k).2.2.1 = some (tyX4 k) := by decide +kernel
abbrev cX4_init : ByteArray := prog_6_method_1_code
def yX4_init : MethodName := ⟨RX4, "<init>", "()V"⟩
abbrev cX4_isKind : ByteArray := prog_6_method_2_code
def yX4_isKind : MethodName := ⟨RX4, "isKind", "(I)Z"⟩
abbrev cX4_copyFrom : ByteArray := prog_6_method_3_code
def yX4_copyFrom : MethodName := ⟨RX4, "copyFrom", "(LGlacierHut$Stores;)V"⟩
abbrev cX4_addToPallet : ByteArray := prog_6_method_4_code
def yX4_addToPallet : MethodName := ⟨RX4, "addToPallet", "(III)V"⟩
abbrev cX4_unloadPallet : ByteArray := prog_6_method_5_code
def yX4_unloadPallet : MethodName := ⟨RX4, "unloadPallet", "(I)V"⟩
abbrev cX4_addLot : ByteArray := prog_6_method_6_code
def yX4_addLot : MethodName := ⟨RX4, "addLot", "(III)V"⟩
abbrev cX4_take : ByteArray := prog_6_method_7_code
def yX4_take : MethodName := ⟨RX4, "take", "(II)I"⟩
abbrev cX4_spoil : ByteArray := prog_6_method_8_code
def yX4_spoil : MethodName := ⟨RX4, "spoil", "(I)V"⟩
abbrev cX4_dropEmptyLots : ByteArray := prog_6_method_9_code
def yX4_dropEmptyLots : MethodName := ⟨RX4, "dropEmptyLots", "()V"⟩
abbrev cX4_find : ByteArray := prog_6_method_10_code
def yX4_find : MethodName := ⟨RX4, "find", "(II)I"⟩
abbrev cX4_stock : ByteArray := prog_6_method_11_code
def yX4_stock : MethodName := ⟨RX4, "stock", "(I)I"⟩
abbrev cX4_lotsOfKind : ByteArray := prog_6_method_12_code
def yX4_lotsOfKind : MethodName := ⟨RX4, "lotsOfKind", "(I)I"⟩
abbrev cX4_amountOnPallet : ByteArray := prog_6_method_13_code
def yX4_amountOnPallet : MethodName := ⟨RX4, "amountOnPallet", "(I)I"⟩
def RX5 : String := "GlacierHut$Text"
def TX5 : u_T := fun k => match k with
  | 0 => ("GlacierHut$Text", "characters", "[C", true)
  | 1 => ("GlacierHut$Text", "length", "I", false)
  | 2 => ("GlacierHut$Text", "numbers", "[I", true)
  | 3 => ("GlacierHut$Text", "letter", "C", false)
  | _ => ("GlacierHut$Text", "next", "I", false)
def tyX5 : Nat → FieldType := fun k => match k with
  | 0 => .array .char
  | 1 => .int
  | 2 => .array .int
  | 3 => .char
  | _ => .int
abbrev wsX50 : List Cond := u_ws RX5 TX5 5
theorem nmX5 : ∀ a, a < 5 → ∀ b, b < 5 → a ≠ b → (TX5 a).2.1 ≠ (TX5 b).2.1 := by decide +kernel
theorem tyX5_ok : ∀ k, k < 5 → parseFieldDescriptor (TX5 k).2.2.1 = some (tyX5 k) := by decide +kernel
abbrev cX5_init : ByteArray := prog_7_method_1_code
def yX5_init : MethodName := ⟨RX5, "<init>", "()V"⟩
abbrev cX5_append : ByteArray := prog_7_method_2_code
def yX5_append : MethodName := ⟨RX5, "append", "(I)V"⟩
abbrev cX5_readCommand : ByteArray := prog_7_method_3_code
def yX5_readCommand : MethodName := ⟨RX5, "readCommand", "(I)Z"⟩
abbrev cX5_numbersOf : ByteArray := prog_7_method_4_code
def yX5_numbersOf : MethodName := ⟨RX5, "numbersOf", "(C)I"⟩
abbrev cX5_readNumber : ByteArray := prog_7_method_5_code
def yX5_readNumber : MethodName := ⟨RX5, "readNumber", "()I"⟩
abbrev cX5_passes : ByteArray := prog_7_method_6_code
def yX5_passes : MethodName := ⟨RX5, "passes", "(C)Z"⟩
abbrev cX5_at : ByteArray := prog_7_method_7_code
def yX5_at : MethodName := ⟨RX5, "at", "(I)C"⟩
def RX6 : String := "GlacierHut"
def TX6 : u_T := fun k => match k with
  | 0 => ("GlacierHut", "now", "LGlacierHut$Hut;", true)
  | 1 => ("GlacierHut", "trial", "LGlacierHut$Hut;", true)
  | 2 => ("GlacierHut", "snapshot", "LGlacierHut$Hut;", true)
  | 3 => ("GlacierHut", "history", "LGlacierHut$History;", true)
  | 4 => ("GlacierHut", "text", "LGlacierHut$Text;", true)
  | 5 => ("GlacierHut", "rehearsal", "LGlacierHut$Rehearsal;", true)
  | _ => ("GlacierHut", "kept", "Z", false)
def tyX6 : Nat → FieldType := fun k => match k with
  | 0 => .object "GlacierHut$Hut"
  | 1 => .object "GlacierHut$Hut"
  | 2 => .object "GlacierHut$Hut"
  | 3 => .object "GlacierHut$History"
  | 4 => .object "GlacierHut$Text"
  | 5 => .object "GlacierHut$Rehearsal"
  | _ => .boolean
abbrev wsX60 : List Cond := u_ws RX6 TX6 7
theorem nmX6 : ∀ a, a < 7 → ∀ b, b < 7 → a ≠ b → (TX6 a).2.1 ≠ (TX6 b).2.1 := by decide +kernel
theorem tyX6_ok : ∀ k, k < 7 → parseFieldDescriptor (TX6 k).2.2.1 = some (tyX6 k) := by decide +kernel
abbrev cX6_init : ByteArray := prog_1_method_1_code
def yX6_init : MethodName := ⟨RX6, "<init>", "()V"⟩
abbrev cX6_load : ByteArray := prog_1_method_2_code
def yX6_load : MethodName := ⟨RX6, "load", "(III)I"⟩
abbrev cX6_fly : ByteArray := prog_1_method_3_code
def yX6_fly : MethodName := ⟨RX6, "fly", "()I"⟩
abbrev cX6_book : ByteArray := prog_1_method_4_code
def yX6_book : MethodName := ⟨RX6, "book", "(III)I"⟩
abbrev cX6_cancel : ByteArray := prog_1_method_5_code
def yX6_cancel : MethodName := ⟨RX6, "cancel", "(I)I"⟩
abbrev cX6_storm : ByteArray := prog_1_method_6_code
def yX6_storm : MethodName := ⟨RX6, "storm", "(II)I"⟩
abbrev cX6_clear : ByteArray := prog_1_method_7_code
def yX6_clear : MethodName := ⟨RX6, "clear", "(I)I"⟩
abbrev cX6_sleep : ByteArray := prog_1_method_8_code
def yX6_sleep : MethodName := ⟨RX6, "sleep", "(I)I"⟩
abbrev cX6_set : ByteArray := prog_1_method_9_code
def yX6_set : MethodName := ⟨RX6, "set", "(II)I"⟩
abbrev cX6_lotOf : ByteArray := prog_1_method_10_code
def yX6_lotOf : MethodName := ⟨RX6, "lotOf", "(III)I"⟩
abbrev cX6_storeOf : ByteArray := prog_1_method_11_code
def yX6_storeOf : MethodName := ⟨RX6, "storeOf", "(II)I"⟩
abbrev cX6_partyOf : ByteArray := prog_1_method_12_code
def yX6_partyOf : MethodName := ⟨RX6, "partyOf", "(II)I"⟩
abbrev cX6_count : ByteArray := prog_1_method_13_code
def yX6_count : MethodName := ⟨RX6, "count", "(I)I"⟩
abbrev cX6_goneOn : ByteArray := prog_1_method_14_code
def yX6_goneOn : MethodName := ⟨RX6, "goneOn", "(I)I"⟩
abbrev cX6_outOn : ByteArray := prog_1_method_15_code
def yX6_outOn : MethodName := ⟨RX6, "outOn", "(I)I"⟩
abbrev cX6_most : ByteArray := prog_1_method_16_code
def yX6_most : MethodName := ⟨RX6, "most", "(II)I"⟩
abbrev cX6_keep : ByteArray := prog_1_method_17_code
def yX6_keep : MethodName := ⟨RX6, "keep", "()I"⟩
abbrev cX6_restore : ByteArray := prog_1_method_18_code
def yX6_restore : MethodName := ⟨RX6, "restore", "()I"⟩
abbrev cX6_undo : ByteArray := prog_1_method_19_code
def yX6_undo : MethodName := ⟨RX6, "undo", "()I"⟩
abbrev cX6_type : ByteArray := prog_1_method_20_code
def yX6_type : MethodName := ⟨RX6, "type", "(I)I"⟩
abbrev cX6_clearText : ByteArray := prog_1_method_21_code
def yX6_clearText : MethodName := ⟨RX6, "clearText", "()I"⟩
abbrev cX6_fault : ByteArray := prog_1_method_22_code
def yX6_fault : MethodName := ⟨RX6, "fault", "(I)I"⟩
abbrev cX6_play : ByteArray := prog_1_method_23_code
def yX6_play : MethodName := ⟨RX6, "play", "()I"⟩
abbrev cX6_recorded : ByteArray := prog_1_method_24_code
def yX6_recorded : MethodName := ⟨RX6, "recorded", "(I)I"⟩
def RX7 : String := "GlacierHutModel"
def TX7 : u_T := fun k => match k with
  | 0 => ("GlacierHutModel", "s", "[I", true)
  | 1 => ("GlacierHutModel", "begun", "[I", true)
  | 2 => ("GlacierHutModel", "kept", "[I", true)
  | 3 => ("GlacierHutModel", "isKept", "Z", false)
  | 4 => ("GlacierHutModel", "past", "[I", true)
  | 5 => ("GlacierHutModel", "states", "I", false)
  | 6 => ("GlacierHutModel", "text", "[I", true)
  | 7 => ("GlacierHutModel", "length", "I", false)
  | 8 => ("GlacierHutModel", "aside", "[I", true)
  | 9 => ("GlacierHutModel", "at", "I", false)
  | 10 => ("GlacierHutModel", "done", "I", false)
  | 11 => ("GlacierHutModel", "told", "I", false)
  | 12 => ("GlacierHutModel", "isForm", "Z", false)
  | _ => ("GlacierHutModel", "numbers", "[I", true)
def tyX7 : Nat → FieldType := fun k => match k with
  | 0 => .array .int
  | 1 => .array .int
  | 2 => .array .int
  | 3 => .boolean
  | 4 => .array .int
  | 5 => .int
  | 6 => .array .int
  | 7 => .int
  | 8 => .array .int
  | 9 => .int
  | 10 => .int
  | 11 => .int
  | 12 => .boolean
  | _ => .array .int
abbrev wsX70 : List Cond := u_ws RX7 TX7 14
theorem nmX7 : ∀ a, a < 14 → ∀ b, b < 14 → a ≠ b → (TX7 a).2.1 ≠ (TX7 b).2.1 := by decide +kernel
theorem tyX7_ok : ∀ k, k < 14 → parseFieldDescriptor (TX7 k).2.2.1 = some (tyX7 k) := by decide +kernel
abbrev cX7_init : ByteArray := prog_9_method_1_code
def yX7_init : MethodName := ⟨RX7, "<init>", "()V"⟩
abbrev cX7_in : ByteArray := prog_9_method_3_code
def yX7_in : MethodName := ⟨RX7, "in", "(III)Z"⟩
abbrev cX7_begins : ByteArray := prog_9_method_4_code
def yX7_begins : MethodName := ⟨RX7, "begins", "()V"⟩
abbrev cX7_returns : ByteArray := prog_9_method_5_code
def yX7_returns : MethodName := ⟨RX7, "returns", "()V"⟩
abbrev cX7_acted : ByteArray := prog_9_method_6_code
def yX7_acted : MethodName := ⟨RX7, "acted", "(I)I"⟩
abbrev cX7_ofLot : ByteArray := prog_9_method_7_code
def yX7_ofLot : MethodName := ⟨RX7, "ofLot", "(II)I"⟩
abbrev cX7_stock : ByteArray := prog_9_method_8_code
def yX7_stock : MethodName := ⟨RX7, "stock", "(I)I"⟩
abbrev cX7_removes : ByteArray := prog_9_method_9_code
def yX7_removes : MethodName := ⟨RX7, "removes", "(I)V"⟩
abbrev cX7_comes : ByteArray := prog_9_method_10_code
def yX7_comes : MethodName := ⟨RX7, "comes", "(III)V"⟩
abbrev cX7_firstOf : ByteArray := prog_9_method_11_code
def yX7_firstOf : MethodName := ⟨RX7, "firstOf", "(I)I"⟩
abbrev cX7_uses : ByteArray := prog_9_method_12_code
def yX7_uses : MethodName := ⟨RX7, "uses", "(II)I"⟩
abbrev cX7_spoils : ByteArray := prog_9_method_13_code
def yX7_spoils : MethodName := ⟨RX7, "spoils", "()V"⟩
abbrev cX7_ofParty : ByteArray := prog_9_method_14_code
def yX7_ofParty : MethodName := ⟨RX7, "ofParty", "(II)I"⟩
abbrev cX7_setParty : ByteArray := prog_9_method_15_code
def yX7_setParty : MethodName := ⟨RX7, "setParty", "(III)V"⟩
abbrev cX7_isParty : ByteArray := prog_9_method_16_code
def yX7_isParty : MethodName := ⟨RX7, "isParty", "(I)Z"⟩
abbrev cX7_isStorm : ByteArray := prog_9_method_17_code
def yX7_isStorm : MethodName := ⟨RX7, "isStorm", "(I)Z"⟩
abbrev cX7_guests : ByteArray := prog_9_method_18_code
def yX7_guests : MethodName := ⟨RX7, "guests", "()I"⟩
abbrev cX7_partiesOf : ByteArray := prog_9_method_19_code
def yX7_partiesOf : MethodName := ⟨RX7, "partiesOf", "(I)I"⟩
abbrev cX7_isAny : ByteArray := prog_9_method_20_code
def yX7_isAny : MethodName := ⟨RX7, "isAny", "()Z"⟩
abbrev cX7_leave : ByteArray := prog_9_method_21_code
def yX7_leave : MethodName := ⟨RX7, "leave", "()V"⟩
abbrev cX7_arrives : ByteArray := prog_9_method_22_code
def yX7_arrives : MethodName := ⟨RX7, "arrives", "(I)V"⟩
abbrev cX7_sups : ByteArray := prog_9_method_23_code
def yX7_sups : MethodName := ⟨RX7, "sups", "(I)V"⟩
abbrev cX7_heats : ByteArray := prog_9_method_24_code
def yX7_heats : MethodName := ⟨RX7, "heats", "(I)V"⟩
abbrev cX7_night : ByteArray := prog_9_method_25_code
def yX7_night : MethodName := ⟨RX7, "night", "()V"⟩
abbrev cX7_adds : ByteArray := prog_9_method_26_code
def yX7_adds : MethodName := ⟨RX7, "adds", "(III)V"⟩
abbrev cX7_isTaken : ByteArray := prog_9_method_27_code
def yX7_isTaken : MethodName := ⟨RX7, "isTaken", "(III)Z"⟩
abbrev cX7_loads : ByteArray := prog_9_method_28_code
def yX7_loads : MethodName := ⟨RX7, "loads", "(III)I"⟩
abbrev cX7_flies : ByteArray := prog_9_method_29_code
def yX7_flies : MethodName := ⟨RX7, "flies", "()I"⟩
abbrev cX7_isStay : ByteArray := prog_9_method_30_code
def yX7_isStay : MethodName := ⟨RX7, "isStay", "(II)Z"⟩
abbrev cX7_books : ByteArray := prog_9_method_31_code
def yX7_books : MethodName := ⟨RX7, "books", "(III)I"⟩
abbrev cX7_cancels : ByteArray := prog_9_method_32_code
def yX7_cancels : MethodName := ⟨RX7, "cancels", "(I)I"⟩
abbrev cX7_stormsAhead : ByteArray := prog_9_method_33_code
def yX7_stormsAhead : MethodName := ⟨RX7, "stormsAhead", "()I"⟩
abbrev cX7_storms : ByteArray := prog_9_method_34_code
def yX7_storms : MethodName := ⟨RX7, "storms", "(II)I"⟩
abbrev cX7_sleeps : ByteArray := prog_9_method_35_code
def yX7_sleeps : MethodName := ⟨RX7, "sleeps", "(I)I"⟩
abbrev cX7_load : ByteArray := prog_9_method_36_code
def yX7_load : MethodName := ⟨RX7, "load", "(III)I"⟩
abbrev cX7_fly : ByteArray := prog_9_method_37_code
def yX7_fly : MethodName := ⟨RX7, "fly", "()I"⟩
abbrev cX7_book : ByteArray := prog_9_method_38_code
def yX7_book : MethodName := ⟨RX7, "book", "(III)I"⟩
abbrev cX7_cancel : ByteArray := prog_9_method_39_code
def yX7_cancel : MethodName := ⟨RX7, "cancel", "(I)I"⟩
abbrev cX7_storm : ByteArray := prog_9_method_40_code
def yX7_storm : MethodName := ⟨RX7, "storm", "(II)I"⟩
abbrev cX7_clear : ByteArray := prog_9_method_41_code
def yX7_clear : MethodName := ⟨RX7, "clear", "(I)I"⟩
abbrev cX7_sleep : ByteArray := prog_9_method_42_code
def yX7_sleep : MethodName := ⟨RX7, "sleep", "(I)I"⟩
abbrev cX7_isSetting : ByteArray := prog_9_method_43_code
def yX7_isSetting : MethodName := ⟨RX7, "isSetting", "(II)Z"⟩
abbrev cX7_set : ByteArray := prog_9_method_44_code
def yX7_set : MethodName := ⟨RX7, "set", "(II)I"⟩
abbrev cX7_lotOf : ByteArray := prog_9_method_45_code
def yX7_lotOf : MethodName := ⟨RX7, "lotOf", "(III)I"⟩
abbrev cX7_lotsOf : ByteArray := prog_9_method_46_code
def yX7_lotsOf : MethodName := ⟨RX7, "lotsOf", "(I)I"⟩
abbrev cX7_loadedOf : ByteArray := prog_9_method_47_code
def yX7_loadedOf : MethodName := ⟨RX7, "loadedOf", "(I)I"⟩
abbrev cX7_storeOf : ByteArray := prog_9_method_48_code
def yX7_storeOf : MethodName := ⟨RX7, "storeOf", "(II)I"⟩
abbrev cX7_partyOf : ByteArray := prog_9_method_49_code
def yX7_partyOf : MethodName := ⟨RX7, "partyOf", "(II)I"⟩
abbrev cX7_count : ByteArray := prog_9_method_50_code
def yX7_count : MethodName := ⟨RX7, "count", "(I)I"⟩
abbrev cX7_goneOn : ByteArray := prog_9_method_51_code
def yX7_goneOn : MethodName := ⟨RX7, "goneOn", "(I)I"⟩
abbrev cX7_outOn : ByteArray := prog_9_method_52_code
def yX7_outOn : MethodName := ⟨RX7, "outOn", "(I)I"⟩
abbrev cX7_most : ByteArray := prog_9_method_53_code
def yX7_most : MethodName := ⟨RX7, "most", "(II)I"⟩
abbrev cX7_keep : ByteArray := prog_9_method_54_code
def yX7_keep : MethodName := ⟨RX7, "keep", "()I"⟩
abbrev cX7_restore : ByteArray := prog_9_method_55_code
def yX7_restore : MethodName := ⟨RX7, "restore", "()I"⟩
abbrev cX7_undo : ByteArray := prog_9_method_56_code
def yX7_undo : MethodName := ⟨RX7, "undo", "()I"⟩
abbrev cX7_type : ByteArray := prog_9_method_57_code
def yX7_type : MethodName := ⟨RX7, "type", "(I)I"⟩
abbrev cX7_clearText : ByteArray := prog_9_method_58_code
def yX7_clearText : MethodName := ⟨RX7, "clearText", "()I"⟩
abbrev cX7_here : ByteArray := prog_9_method_59_code
def yX7_here : MethodName := ⟨RX7, "here", "()I"⟩
abbrev cX7_isDigit : ByteArray := prog_9_method_60_code
def yX7_isDigit : MethodName := ⟨RX7, "isDigit", "()Z"⟩
abbrev cX7_takesSign : ByteArray := prog_9_method_61_code
def yX7_takesSign : MethodName := ⟨RX7, "takesSign", "(I)V"⟩
abbrev cX7_number : ByteArray := prog_9_method_62_code
def yX7_number : MethodName := ⟨RX7, "number", "()I"⟩
abbrev cX7_wants : ByteArray := prog_9_method_63_code
def yX7_wants : MethodName := ⟨RX7, "wants", "(I)I"⟩
abbrev cX7_called : ByteArray := prog_9_method_64_code
def yX7_called : MethodName := ⟨RX7, "called", "(I)I"⟩
abbrev cX7_does : ByteArray := prog_9_method_65_code
def yX7_does : MethodName := ⟨RX7, "does", "()I"⟩
abbrev cX7_fault : ByteArray := prog_9_method_66_code
def yX7_fault : MethodName := ⟨RX7, "fault", "(I)I"⟩
abbrev cX7_play : ByteArray := prog_9_method_67_code
def yX7_play : MethodName := ⟨RX7, "play", "()I"⟩
def RJ9 : String := "java/lang/Math"
def TJ9 : u_T := fun k => match k with
  | _ => ("", "", "", false)
def tyJ9 : Nat → FieldType := fun k => match k with
  | _ => .int
abbrev wsJ90 : List Cond := u_ws RJ9 TJ9 0
theorem nmJ9 : ∀ a, a < 0 → ∀ b, b < 0 → a ≠ b → (TJ9 a).2.1 ≠ (TJ9 b).2.1 := by decide +kernel
theorem tyJ9_ok : ∀ k, k < 0 → parseFieldDescriptor (TJ9 k).2.2.1 = some (tyJ9 k) := by decide +kernel
abbrev cJ9_max_7cf53 : ByteArray := prog_10_method_65_code
def yJ9_max_7cf53 : MethodName := ⟨RJ9, "max", "(II)I"⟩
abbrev cJ9_min_7cf53 : ByteArray := prog_10_method_69_code
def yJ9_min_7cf53 : MethodName := ⟨RJ9, "min", "(II)I"⟩
def RJ10 : String := "java/lang/System"
def TJ10 : u_T := fun k => match k with
  | _ => ("", "", "", false)
def tyJ10 : Nat → FieldType := fun k => match k with
  | _ => .int
abbrev wsJ100 : List Cond := u_ws RJ10 TJ10 0
theorem nmJ10 : ∀ a, a < 0 → ∀ b, b < 0 → a ≠ b → (TJ10 a).2.1 ≠ (TJ10 b).2.1 := by decide +kernel
theorem tyJ10_ok : ∀ k, k < 0 → parseFieldDescriptor (TJ10 k).2.2.1 = some (tyJ10 k) := by decide +kernel
def RL : String := "GlacierHutLaw"
abbrev cL_law : ByteArray := code
def yL_law : MethodName := ⟨RL, "law", "([I)Z"⟩
def wsX4_init : List Cond := .code yX4_init cX4_init 1 none :: ([.methodLink RX4 1 objectInit, .instanceMethod objectInit, .code objectInit ⟨#[0xb1]⟩ 1 none, .arrayClass .int, .fieldLink RX4 9 "GlacierHut$Stores" "lotKind" "[I", .fieldLink RX4 13 "GlacierHut$Stores" "lotAmount" "[I", .fieldLink RX4 16 "GlacierHut$Stores" "lotLast" "[I", .fieldLink RX4 19 "GlacierHut$Stores" "palletKind" "[I", .fieldLink RX4 22 "GlacierHut$Stores" "palletAmount" "[I", .fieldLink RX4 25 "GlacierHut$Stores" "palletDays" "[I", .fieldLink RX4 28 "GlacierHut$Stores" "brought" "[I", .fieldLink RX4 31 "GlacierHut$Stores" "used" "[I", .fieldLink RX4 34 "GlacierHut$Stores" "spoilt" "[I"] ++ wsX40)
def wsX2_init : List Cond := .code yX2_init cX2_init 1 none :: ([.methodLink RX2 3 objectInit, .instanceMethod objectInit, .code objectInit ⟨#[0xb1]⟩ 1 none, .arrayClass .int, .fieldLink RX2 9 "GlacierHut$Parties" "size" "[I", .fieldLink RX2 13 "GlacierHut$Parties" "day" "[I", .fieldLink RX2 16 "GlacierHut$Parties" "nights" "[I", .fieldLink RX2 19 "GlacierHut$Parties" "status" "[I", .fieldLink RX2 22 "GlacierHut$Parties" "slept" "[I", .fieldLink RX2 25 "GlacierHut$Parties" "came" "[I"] ++ wsX20)
def wsX1_init_r1 : List Cond := [Cond.methodLink RX1 3 objectInit, Cond.instanceMethod objectInit, Cond.code objectInit ⟨#[0xb1]⟩ 1 none, Cond.classLink RX1 9 RX4, Cond.instantiable RX4 11, Cond.initialized RX4, Cond.fieldLink RX1 12 "GlacierHut$Hut" "stores" "LGlacierHut$Stores;", Cond.classLink RX1 18 RX2, Cond.instantiable RX2 7, Cond.initialized RX2, Cond.fieldLink RX1 21 "GlacierHut$Hut" "parties" "LGlacierHut$Parties;", Cond.arrayClass .boolean, Cond.fieldLink RX1 25 "GlacierHut$Hut" "storms" "[Z", Cond.arrayClass .int, Cond.fieldLink RX1 29 "GlacierHut$Hut" "settings" "[I", Cond.fieldLink RX1 33 "GlacierHut$Hut" "FIRST" "[I", Cond.methodLink RX1 11 yX4_init, Cond.instanceMethod yX4_init, Cond.code yX4_init cX4_init 1 none, Cond.methodLink RX4 1 objectInit, Cond.fieldLink RX4 9 "GlacierHut$Stores" "lotKind" "[I", Cond.fieldLink RX4 13 "GlacierHut$Stores" "lotAmount" "[I", Cond.fieldLink RX4 16 "GlacierHut$Stores" "lotLast" "[I", Cond.fieldLink RX4 19 "GlacierHut$Stores" "palletKind" "[I"]
def wsX1_init_r2 : List Cond := [Cond.fieldLink RX4 22 "GlacierHut$Stores" "palletAmount" "[I", Cond.fieldLink RX4 25 "GlacierHut$Stores" "palletDays" "[I", Cond.fieldLink RX4 28 "GlacierHut$Stores" "brought" "[I", Cond.fieldLink RX4 31 "GlacierHut$Stores" "used" "[I", Cond.fieldLink RX4 34 "GlacierHut$Stores" "spoilt" "[I", Cond.methodLink RX1 20 yX2_init, Cond.instanceMethod yX2_init, Cond.code yX2_init cX2_init 1 none, Cond.methodLink RX2 3 objectInit, Cond.fieldLink RX2 9 "GlacierHut$Parties" "size" "[I", Cond.fieldLink RX2 13 "GlacierHut$Parties" "day" "[I", Cond.fieldLink RX2 16 "GlacierHut$Parties" "nights" "[I", Cond.fieldLink RX2 19 "GlacierHut$Parties" "status" "[I", Cond.fieldLink RX2 22 "GlacierHut$Parties" "slept" "[I", Cond.fieldLink RX2 25 "GlacierHut$Parties" "came" "[I"]
def wsX1_init : List Cond := .code yX1_init cX1_init 2 none :: ((wsX1_init_r1 ++ wsX1_init_r2) ++ wsX40 ++ wsX10 ++ wsX20)
def wsX0_init_r1 : List Cond := [Cond.methodLink RX0 1 objectInit, Cond.instanceMethod objectInit, Cond.code objectInit ⟨#[0xb1]⟩ 1 none, Cond.classLink RX0 9 RX1, Cond.fieldLink RX0 11 "GlacierHut$History" "states" "[LGlacierHut$Hut;", Cond.instantiable RX1 10, Cond.initialized RX1, Cond.methodLink RX0 15 yX1_init, Cond.instanceMethod yX1_init, Cond.code yX1_init cX1_init 2 none, Cond.methodLink RX1 3 objectInit, Cond.classLink RX1 9 RX4, Cond.instantiable RX4 11, Cond.initialized RX4, Cond.fieldLink RX1 12 "GlacierHut$Hut" "stores" "LGlacierHut$Stores;", Cond.classLink RX1 18 RX2, Cond.instantiable RX2 7, Cond.initialized RX2, Cond.fieldLink RX1 21 "GlacierHut$Hut" "parties" "LGlacierHut$Parties;", Cond.arrayClass .boolean, Cond.fieldLink RX1 25 "GlacierHut$Hut" "storms" "[Z", Cond.arrayClass .int, Cond.fieldLink RX1 29 "GlacierHut$Hut" "settings" "[I", Cond.fieldLink RX1 33 "GlacierHut$Hut" "FIRST" "[I"]
def wsX0_init_r2 : List Cond := [Cond.methodLink RX1 11 yX4_init, Cond.instanceMethod yX4_init, Cond.code yX4_init cX4_init 1 none, Cond.methodLink RX4 1 objectInit, Cond.fieldLink RX4 9 "GlacierHut$Stores" "lotKind" "[I", Cond.fieldLink RX4 13 "GlacierHut$Stores" "lotAmount" "[I", Cond.fieldLink RX4 16 "GlacierHut$Stores" "lotLast" "[I", Cond.fieldLink RX4 19 "GlacierHut$Stores" "palletKind" "[I", Cond.fieldLink RX4 22 "GlacierHut$Stores" "palletAmount" "[I", Cond.fieldLink RX4 25 "GlacierHut$Stores" "palletDays" "[I", Cond.fieldLink RX4 28 "GlacierHut$Stores" "brought" "[I", Cond.fieldLink RX4 31 "GlacierHut$Stores" "used" "[I", Cond.fieldLink RX4 34 "GlacierHut$Stores" "spoilt" "[I", Cond.methodLink RX1 20 yX2_init, Cond.instanceMethod yX2_init, Cond.code yX2_init cX2_init 1 none, Cond.methodLink RX2 3 objectInit, Cond.fieldLink RX2 9 "GlacierHut$Parties" "size" "[I", Cond.fieldLink RX2 13 "GlacierHut$Parties" "day" "[I", Cond.fieldLink RX2 16 "GlacierHut$Parties" "nights" "[I", Cond.fieldLink RX2 19 "GlacierHut$Parties" "status" "[I", Cond.fieldLink RX2 22 "GlacierHut$Parties" "slept" "[I", Cond.fieldLink RX2 25 "GlacierHut$Parties" "came" "[I"]
def wsX0_init : List Cond := .code yX0_init cX0_init 2 none :: ((wsX0_init_r1 ++ wsX0_init_r2) ++ wsX00 ++ wsX10 ++ wsX40 ++ wsX20)
def wsX4_copyFrom : List Cond := .code yX4_copyFrom cX4_copyFrom 2 none :: ([.fieldLink RX4 9 "GlacierHut$Stores" "lotKind" "[I", .methodLink RX4 37 arraycopyName, .native arraycopyName, .static arraycopyName, .initialized "java/lang/System", .fieldLink RX4 13 "GlacierHut$Stores" "lotAmount" "[I", .fieldLink RX4 16 "GlacierHut$Stores" "lotLast" "[I", .fieldLink RX4 19 "GlacierHut$Stores" "palletKind" "[I", .fieldLink RX4 22 "GlacierHut$Stores" "palletAmount" "[I", .fieldLink RX4 25 "GlacierHut$Stores" "palletDays" "[I", .fieldLink RX4 28 "GlacierHut$Stores" "brought" "[I", .fieldLink RX4 31 "GlacierHut$Stores" "used" "[I", .fieldLink RX4 34 "GlacierHut$Stores" "spoilt" "[I", .fieldLink RX4 43 "GlacierHut$Stores" "lots" "I", .fieldLink RX4 47 "GlacierHut$Stores" "onPallet" "I"] ++ wsX40)
def wsX2_copyFrom : List Cond := .code yX2_copyFrom cX2_copyFrom 2 none :: ([.fieldLink RX2 9 "GlacierHut$Parties" "size" "[I", .methodLink RX2 28 arraycopyName, .native arraycopyName, .static arraycopyName, .initialized "java/lang/System", .fieldLink RX2 13 "GlacierHut$Parties" "day" "[I", .fieldLink RX2 16 "GlacierHut$Parties" "nights" "[I", .fieldLink RX2 19 "GlacierHut$Parties" "status" "[I", .fieldLink RX2 22 "GlacierHut$Parties" "slept" "[I", .fieldLink RX2 25 "GlacierHut$Parties" "came" "[I", .fieldLink RX2 34 "GlacierHut$Parties" "number" "I"] ++ wsX20)
def wsX1_copyFrom_r1 : List Cond := [Cond.fieldLink RX1 12 "GlacierHut$Hut" "stores" "LGlacierHut$Stores;", Cond.fieldLink RX1 21 "GlacierHut$Hut" "parties" "LGlacierHut$Parties;", Cond.fieldLink RX1 25 "GlacierHut$Hut" "storms" "[Z", Cond.methodLink RX1 43 arraycopyName, Cond.native arraycopyName, Cond.static arraycopyName, Cond.initialized "java/lang/System", Cond.fieldLink RX1 29 "GlacierHut$Hut" "settings" "[I", Cond.fieldLink RX1 49 "GlacierHut$Hut" "day" "I", Cond.fieldLink RX1 53 "GlacierHut$Hut" "flights" "I", Cond.fieldLink RX1 56 "GlacierHut$Hut" "hungry" "I", Cond.fieldLink RX1 59 "GlacierHut$Hut" "coldNights" "I", Cond.fieldLink RX1 62 "GlacierHut$Hut" "guestNights" "I", Cond.fieldLink RX1 65 "GlacierHut$Hut" "cutSuppers" "I", Cond.methodLink RX1 36 yX4_copyFrom, Cond.instanceMethod yX4_copyFrom, Cond.selects RX4 yX4_copyFrom yX4_copyFrom, Cond.initialized RX4, Cond.code yX4_copyFrom cX4_copyFrom 2 none, Cond.fieldLink RX4 9 "GlacierHut$Stores" "lotKind" "[I", Cond.methodLink RX4 37 arraycopyName, Cond.fieldLink RX4 13 "GlacierHut$Stores" "lotAmount" "[I", Cond.fieldLink RX4 16 "GlacierHut$Stores" "lotLast" "[I", Cond.fieldLink RX4 19 "GlacierHut$Stores" "palletKind" "[I"]
def wsX1_copyFrom_r2 : List Cond := [Cond.fieldLink RX4 22 "GlacierHut$Stores" "palletAmount" "[I", Cond.fieldLink RX4 25 "GlacierHut$Stores" "palletDays" "[I", Cond.fieldLink RX4 28 "GlacierHut$Stores" "brought" "[I", Cond.fieldLink RX4 31 "GlacierHut$Stores" "used" "[I", Cond.fieldLink RX4 34 "GlacierHut$Stores" "spoilt" "[I", Cond.fieldLink RX4 43 "GlacierHut$Stores" "lots" "I", Cond.fieldLink RX4 47 "GlacierHut$Stores" "onPallet" "I", Cond.methodLink RX1 40 yX2_copyFrom, Cond.instanceMethod yX2_copyFrom, Cond.selects RX2 yX2_copyFrom yX2_copyFrom, Cond.initialized RX2, Cond.code yX2_copyFrom cX2_copyFrom 2 none, Cond.fieldLink RX2 9 "GlacierHut$Parties" "size" "[I", Cond.methodLink RX2 28 arraycopyName, Cond.fieldLink RX2 13 "GlacierHut$Parties" "day" "[I", Cond.fieldLink RX2 16 "GlacierHut$Parties" "nights" "[I", Cond.fieldLink RX2 19 "GlacierHut$Parties" "status" "[I", Cond.fieldLink RX2 22 "GlacierHut$Parties" "slept" "[I", Cond.fieldLink RX2 25 "GlacierHut$Parties" "came" "[I", Cond.fieldLink RX2 34 "GlacierHut$Parties" "number" "I"]
def wsX1_copyFrom : List Cond := .code yX1_copyFrom cX1_copyFrom 2 none :: ((wsX1_copyFrom_r1 ++ wsX1_copyFrom_r2) ++ wsX10 ++ wsX40 ++ wsX20)
def wsX0_prepare_r1 : List Cond := [Cond.fieldLink RX0 16 "GlacierHut$History" "length" "I", Cond.fieldLink RX0 11 "GlacierHut$History" "states" "[LGlacierHut$Hut;", Cond.methodLink RX0 20 yX1_copyFrom, Cond.instanceMethod yX1_copyFrom, Cond.selects RX1 yX1_copyFrom yX1_copyFrom, Cond.initialized RX1, Cond.code yX1_copyFrom cX1_copyFrom 2 none, Cond.fieldLink RX1 12 "GlacierHut$Hut" "stores" "LGlacierHut$Stores;", Cond.fieldLink RX1 21 "GlacierHut$Hut" "parties" "LGlacierHut$Parties;", Cond.fieldLink RX1 25 "GlacierHut$Hut" "storms" "[Z", Cond.methodLink RX1 43 arraycopyName, Cond.native arraycopyName, Cond.static arraycopyName, Cond.initialized "java/lang/System", Cond.fieldLink RX1 29 "GlacierHut$Hut" "settings" "[I", Cond.fieldLink RX1 49 "GlacierHut$Hut" "day" "I", Cond.fieldLink RX1 53 "GlacierHut$Hut" "flights" "I", Cond.fieldLink RX1 56 "GlacierHut$Hut" "hungry" "I", Cond.fieldLink RX1 59 "GlacierHut$Hut" "coldNights" "I", Cond.fieldLink RX1 62 "GlacierHut$Hut" "guestNights" "I", Cond.fieldLink RX1 65 "GlacierHut$Hut" "cutSuppers" "I", Cond.methodLink RX1 36 yX4_copyFrom, Cond.instanceMethod yX4_copyFrom, Cond.selects RX4 yX4_copyFrom yX4_copyFrom]
def wsX0_prepare_r2 : List Cond := [Cond.initialized RX4, Cond.code yX4_copyFrom cX4_copyFrom 2 none, Cond.fieldLink RX4 9 "GlacierHut$Stores" "lotKind" "[I", Cond.methodLink RX4 37 arraycopyName, Cond.fieldLink RX4 13 "GlacierHut$Stores" "lotAmount" "[I", Cond.fieldLink RX4 16 "GlacierHut$Stores" "lotLast" "[I", Cond.fieldLink RX4 19 "GlacierHut$Stores" "palletKind" "[I", Cond.fieldLink RX4 22 "GlacierHut$Stores" "palletAmount" "[I", Cond.fieldLink RX4 25 "GlacierHut$Stores" "palletDays" "[I", Cond.fieldLink RX4 28 "GlacierHut$Stores" "brought" "[I", Cond.fieldLink RX4 31 "GlacierHut$Stores" "used" "[I", Cond.fieldLink RX4 34 "GlacierHut$Stores" "spoilt" "[I", Cond.fieldLink RX4 43 "GlacierHut$Stores" "lots" "I", Cond.fieldLink RX4 47 "GlacierHut$Stores" "onPallet" "I", Cond.methodLink RX1 40 yX2_copyFrom, Cond.instanceMethod yX2_copyFrom, Cond.selects RX2 yX2_copyFrom yX2_copyFrom, Cond.initialized RX2, Cond.code yX2_copyFrom cX2_copyFrom 2 none, Cond.fieldLink RX2 9 "GlacierHut$Parties" "size" "[I", Cond.methodLink RX2 28 arraycopyName, Cond.fieldLink RX2 13 "GlacierHut$Parties" "day" "[I", Cond.fieldLink RX2 16 "GlacierHut$Parties" "nights" "[I", Cond.fieldLink RX2 19 "GlacierHut$Parties" "status" "[I"]
def wsX0_prepare_r3 : List Cond := [Cond.fieldLink RX2 22 "GlacierHut$Parties" "slept" "[I", Cond.fieldLink RX2 25 "GlacierHut$Parties" "came" "[I", Cond.fieldLink RX2 34 "GlacierHut$Parties" "number" "I"]
def wsX0_prepare : List Cond := .code yX0_prepare cX0_prepare 3 none :: ((wsX0_prepare_r1 ++ (wsX0_prepare_r2 ++ wsX0_prepare_r3)) ++ wsX00 ++ wsX10 ++ wsX40 ++ wsX20)
def wsX0_commit : List Cond := .code yX0_commit cX0_commit 3 none :: ([.fieldLink RX0 16 "GlacierHut$History" "length" "I", .fieldLink RX0 11 "GlacierHut$History" "states" "[LGlacierHut$Hut;"] ++ wsX00)
def wsX0_takeBack_r1 : List Cond := [Cond.fieldLink RX0 16 "GlacierHut$History" "length" "I", Cond.fieldLink RX0 11 "GlacierHut$History" "states" "[LGlacierHut$Hut;", Cond.methodLink RX0 20 yX1_copyFrom, Cond.instanceMethod yX1_copyFrom, Cond.selects RX1 yX1_copyFrom yX1_copyFrom, Cond.initialized RX1, Cond.code yX1_copyFrom cX1_copyFrom 2 none, Cond.fieldLink RX1 12 "GlacierHut$Hut" "stores" "LGlacierHut$Stores;", Cond.fieldLink RX1 21 "GlacierHut$Hut" "parties" "LGlacierHut$Parties;", Cond.fieldLink RX1 25 "GlacierHut$Hut" "storms" "[Z", Cond.methodLink RX1 43 arraycopyName, Cond.native arraycopyName, Cond.static arraycopyName, Cond.initialized "java/lang/System", Cond.fieldLink RX1 29 "GlacierHut$Hut" "settings" "[I", Cond.fieldLink RX1 49 "GlacierHut$Hut" "day" "I", Cond.fieldLink RX1 53 "GlacierHut$Hut" "flights" "I", Cond.fieldLink RX1 56 "GlacierHut$Hut" "hungry" "I", Cond.fieldLink RX1 59 "GlacierHut$Hut" "coldNights" "I", Cond.fieldLink RX1 62 "GlacierHut$Hut" "guestNights" "I", Cond.fieldLink RX1 65 "GlacierHut$Hut" "cutSuppers" "I", Cond.methodLink RX1 36 yX4_copyFrom, Cond.instanceMethod yX4_copyFrom, Cond.selects RX4 yX4_copyFrom yX4_copyFrom]
def wsX0_takeBack_r2 : List Cond := [Cond.initialized RX4, Cond.code yX4_copyFrom cX4_copyFrom 2 none, Cond.fieldLink RX4 9 "GlacierHut$Stores" "lotKind" "[I", Cond.methodLink RX4 37 arraycopyName, Cond.fieldLink RX4 13 "GlacierHut$Stores" "lotAmount" "[I", Cond.fieldLink RX4 16 "GlacierHut$Stores" "lotLast" "[I", Cond.fieldLink RX4 19 "GlacierHut$Stores" "palletKind" "[I", Cond.fieldLink RX4 22 "GlacierHut$Stores" "palletAmount" "[I", Cond.fieldLink RX4 25 "GlacierHut$Stores" "palletDays" "[I", Cond.fieldLink RX4 28 "GlacierHut$Stores" "brought" "[I", Cond.fieldLink RX4 31 "GlacierHut$Stores" "used" "[I", Cond.fieldLink RX4 34 "GlacierHut$Stores" "spoilt" "[I", Cond.fieldLink RX4 43 "GlacierHut$Stores" "lots" "I", Cond.fieldLink RX4 47 "GlacierHut$Stores" "onPallet" "I", Cond.methodLink RX1 40 yX2_copyFrom, Cond.instanceMethod yX2_copyFrom, Cond.selects RX2 yX2_copyFrom yX2_copyFrom, Cond.initialized RX2, Cond.code yX2_copyFrom cX2_copyFrom 2 none, Cond.fieldLink RX2 9 "GlacierHut$Parties" "size" "[I", Cond.methodLink RX2 28 arraycopyName, Cond.fieldLink RX2 13 "GlacierHut$Parties" "day" "[I", Cond.fieldLink RX2 16 "GlacierHut$Parties" "nights" "[I", Cond.fieldLink RX2 19 "GlacierHut$Parties" "status" "[I"]
def wsX0_takeBack_r3 : List Cond := [Cond.fieldLink RX2 22 "GlacierHut$Parties" "slept" "[I", Cond.fieldLink RX2 25 "GlacierHut$Parties" "came" "[I", Cond.fieldLink RX2 34 "GlacierHut$Parties" "number" "I"]
def wsX0_takeBack : List Cond := .code yX0_takeBack cX0_takeBack 3 none :: ((wsX0_takeBack_r1 ++ (wsX0_takeBack_r2 ++ wsX0_takeBack_r3)) ++ wsX00 ++ wsX10 ++ wsX40 ++ wsX20)
def wsX4_isKind : List Cond := .code yX4_isKind cX4_isKind 1 (some .boolean) :: ([])
def wsX4_addToPallet : List Cond := .code yX4_addToPallet cX4_addToPallet 4 none :: ([.fieldLink RX4 47 "GlacierHut$Stores" "onPallet" "I", .fieldLink RX4 19 "GlacierHut$Stores" "palletKind" "[I", .fieldLink RX4 22 "GlacierHut$Stores" "palletAmount" "[I", .fieldLink RX4 25 "GlacierHut$Stores" "palletDays" "[I"] ++ wsX40)
def wsX1_putOnPallet : List Cond := .code yX1_putOnPallet cX1_putOnPallet 4 (some .int) :: ([.fieldLink RX1 12 "GlacierHut$Hut" "stores" "LGlacierHut$Stores;", .fieldLink RX1 72 "GlacierHut$Stores" "onPallet" "I", .methodLink RX1 68 yX4_isKind, .static yX4_isKind, .initialized RX4, .code yX4_isKind cX4_isKind 1 (some .boolean), .methodLink RX1 75 yX4_addToPallet, .instanceMethod yX4_addToPallet, .selects RX4 yX4_addToPallet yX4_addToPallet, .code yX4_addToPallet cX4_addToPallet 4 none, .fieldLink RX4 47 "GlacierHut$Stores" "onPallet" "I", .fieldLink RX4 19 "GlacierHut$Stores" "palletKind" "[I", .fieldLink RX4 22 "GlacierHut$Stores" "palletAmount" "[I", .fieldLink RX4 25 "GlacierHut$Stores" "palletDays" "[I"] ++ wsX10 ++ wsX40)
def wsX1_isStorm : List Cond := .code yX1_isStorm cX1_isStorm 1 (some .boolean) :: ([.fieldLink RX1 49 "GlacierHut$Hut" "day" "I", .fieldLink RX1 25 "GlacierHut$Hut" "storms" "[Z"] ++ wsX10)
def wsX4_addLot : List Cond := .code yX4_addLot cX4_addLot 5 none :: ([.fieldLink RX4 43 "GlacierHut$Stores" "lots" "I", .fieldLink RX4 16 "GlacierHut$Stores" "lotLast" "[I", .fieldLink RX4 9 "GlacierHut$Stores" "lotKind" "[I", .fieldLink RX4 13 "GlacierHut$Stores" "lotAmount" "[I", .fieldLink RX4 28 "GlacierHut$Stores" "brought" "[I", .methodLink RX4 54 yX4_isKind, .static yX4_isKind, .initialized RX4, .code yX4_isKind cX4_isKind 1 (some .boolean)] ++ wsX40)
def wsX4_unloadPallet : List Cond := .code yX4_unloadPallet cX4_unloadPallet 3 none :: ([.fieldLink RX4 47 "GlacierHut$Stores" "onPallet" "I", .fieldLink RX4 19 "GlacierHut$Stores" "palletKind" "[I", .fieldLink RX4 22 "GlacierHut$Stores" "palletAmount" "[I", .fieldLink RX4 25 "GlacierHut$Stores" "palletDays" "[I", .methodLink RX4 50 yX4_addLot, .instanceMethod yX4_addLot, .selects RX4 yX4_addLot yX4_addLot, .initialized RX4, .code yX4_addLot cX4_addLot 5 none, .fieldLink RX4 43 "GlacierHut$Stores" "lots" "I", .fieldLink RX4 16 "GlacierHut$Stores" "lotLast" "[I", .fieldLink RX4 9 "GlacierHut$Stores" "lotKind" "[I", .fieldLink RX4 13 "GlacierHut$Stores" "lotAmount" "[I", .fieldLink RX4 28 "GlacierHut$Stores" "brought" "[I", .methodLink RX4 54 yX4_isKind, .static yX4_isKind, .code yX4_isKind cX4_isKind 1 (some .boolean)] ++ wsX40)
def wsX1_bringPallet_r1 : List Cond := [Cond.fieldLink RX1 12 "GlacierHut$Hut" "stores" "LGlacierHut$Stores;", Cond.fieldLink RX1 72 "GlacierHut$Stores" "onPallet" "I", Cond.fieldLink RX1 53 "GlacierHut$Hut" "flights" "I", Cond.fieldLink RX1 29 "GlacierHut$Hut" "settings" "[I", Cond.fieldLink RX1 83 "GlacierHut$Stores" "lots" "I", Cond.fieldLink RX1 49 "GlacierHut$Hut" "day" "I", Cond.methodLink RX1 79 yX1_isStorm, Cond.instanceMethod yX1_isStorm, Cond.selects RX1 yX1_isStorm yX1_isStorm, Cond.initialized RX1, Cond.code yX1_isStorm cX1_isStorm 1 (some .boolean), Cond.fieldLink RX1 25 "GlacierHut$Hut" "storms" "[Z", Cond.methodLink RX1 86 yX4_unloadPallet, Cond.instanceMethod yX4_unloadPallet, Cond.selects RX4 yX4_unloadPallet yX4_unloadPallet, Cond.initialized RX4, Cond.code yX4_unloadPallet cX4_unloadPallet 3 none, Cond.fieldLink RX4 47 "GlacierHut$Stores" "onPallet" "I", Cond.fieldLink RX4 19 "GlacierHut$Stores" "palletKind" "[I", Cond.fieldLink RX4 22 "GlacierHut$Stores" "palletAmount" "[I", Cond.fieldLink RX4 25 "GlacierHut$Stores" "palletDays" "[I", Cond.methodLink RX4 50 yX4_addLot, Cond.instanceMethod yX4_addLot, Cond.selects RX4 yX4_addLot yX4_addLot]
def wsX1_bringPallet_r2 : List Cond := [Cond.code yX4_addLot cX4_addLot 5 none, Cond.fieldLink RX4 43 "GlacierHut$Stores" "lots" "I", Cond.fieldLink RX4 16 "GlacierHut$Stores" "lotLast" "[I", Cond.fieldLink RX4 9 "GlacierHut$Stores" "lotKind" "[I", Cond.fieldLink RX4 13 "GlacierHut$Stores" "lotAmount" "[I", Cond.fieldLink RX4 28 "GlacierHut$Stores" "brought" "[I", Cond.methodLink RX4 54 yX4_isKind, Cond.static yX4_isKind, Cond.code yX4_isKind cX4_isKind 1 (some .boolean)]
def wsX1_bringPallet : List Cond := .code yX1_bringPallet cX1_bringPallet 2 (some .int) :: ((wsX1_bringPallet_r1 ++ wsX1_bringPallet_r2) ++ wsX10 ++ wsX40)
def wsX1_mayBeBooked : List Cond := .code yX1_mayBeBooked cX1_mayBeBooked 4 (some .boolean) :: ([.fieldLink RX1 49 "GlacierHut$Hut" "day" "I"] ++ wsX10)
def wsX2_add : List Cond := .code yX2_add cX2_add 4 none :: ([.fieldLink RX2 34 "GlacierHut$Parties" "number" "I", .fieldLink RX2 9 "GlacierHut$Parties" "size" "[I", .fieldLink RX2 13 "GlacierHut$Parties" "day" "[I", .fieldLink RX2 16 "GlacierHut$Parties" "nights" "[I", .fieldLink RX2 19 "GlacierHut$Parties" "status" "[I", .fieldLink RX2 22 "GlacierHut$Parties" "slept" "[I", .fieldLink RX2 25 "GlacierHut$Parties" "came" "[I"] ++ wsX20)
def wsX2_anyAwaited : List Cond := .code yX2_anyAwaited cX2_anyAwaited 2 (some .boolean) :: ([.fieldLink RX2 34 "GlacierHut$Parties" "number" "I", .fieldLink RX2 19 "GlacierHut$Parties" "status" "[I"] ++ wsX20)
def wsX2_leave : List Cond := .code yX2_leave cX2_leave 2 none :: ([.fieldLink RX2 34 "GlacierHut$Parties" "number" "I", .fieldLink RX2 19 "GlacierHut$Parties" "status" "[I", .fieldLink RX2 22 "GlacierHut$Parties" "slept" "[I", .fieldLink RX2 16 "GlacierHut$Parties" "nights" "[I"] ++ wsX20)
def wsX2_guests : List Cond := .code yX2_guests cX2_guests 3 (some .int) :: ([.fieldLink RX2 34 "GlacierHut$Parties" "number" "I", .fieldLink RX2 19 "GlacierHut$Parties" "status" "[I", .fieldLink RX2 9 "GlacierHut$Parties" "size" "[I"] ++ wsX20)
def wsX2_arrive : List Cond := .code yX2_arrive cX2_arrive 7 (some .boolean) :: ([.fieldLink RX2 34 "GlacierHut$Parties" "number" "I", .fieldLink RX2 19 "GlacierHut$Parties" "status" "[I", .fieldLink RX2 13 "GlacierHut$Parties" "day" "[I", .fieldLink RX2 16 "GlacierHut$Parties" "nights" "[I", .fieldLink RX2 9 "GlacierHut$Parties" "size" "[I", .fieldLink RX2 25 "GlacierHut$Parties" "came" "[I"] ++ wsX20)
def wsX4_stock : List Cond := .code yX4_stock cX4_stock 4 (some .int) :: ([.fieldLink RX4 43 "GlacierHut$Stores" "lots" "I", .fieldLink RX4 9 "GlacierHut$Stores" "lotKind" "[I", .fieldLink RX4 13 "GlacierHut$Stores" "lotAmount" "[I"] ++ wsX40)
def wsX1_rationFor : List Cond := .code yX1_rationFor cX1_rationFor 4 (some .int) :: ([.fieldLink RX1 29 "GlacierHut$Hut" "settings" "[I"] ++ wsX10)
def wsX4_take : List Cond := .code yX4_take cX4_take 7 (some .int) :: ([.fieldLink RX4 43 "GlacierHut$Stores" "lots" "I", .fieldLink RX4 9 "GlacierHut$Stores" "lotKind" "[I", .fieldLink RX4 13 "GlacierHut$Stores" "lotAmount" "[I", .fieldLink RX4 31 "GlacierHut$Stores" "used" "[I"] ++ wsX40)
def wsX1_gasFor : List Cond := .code yX1_gasFor cX1_gasFor 3 (some .int) :: ([])
def wsX2_sleepOnce : List Cond := .code yX2_sleepOnce cX2_sleepOnce 2 none :: ([.fieldLink RX2 34 "GlacierHut$Parties" "number" "I", .fieldLink RX2 19 "GlacierHut$Parties" "status" "[I", .fieldLink RX2 22 "GlacierHut$Parties" "slept" "[I"] ++ wsX20)
def wsX4_spoil : List Cond := .code yX4_spoil cX4_spoil 4 none :: ([.fieldLink RX4 43 "GlacierHut$Stores" "lots" "I", .fieldLink RX4 9 "GlacierHut$Stores" "lotKind" "[I", .fieldLink RX4 16 "GlacierHut$Stores" "lotLast" "[I", .fieldLink RX4 34 "GlacierHut$Stores" "spoilt" "[I", .fieldLink RX4 13 "GlacierHut$Stores" "lotAmount" "[I"] ++ wsX40)
def wsX4_dropEmptyLots : List Cond := .code yX4_dropEmptyLots cX4_dropEmptyLots 3 none :: ([.fieldLink RX4 43 "GlacierHut$Stores" "lots" "I", .fieldLink RX4 13 "GlacierHut$Stores" "lotAmount" "[I", .fieldLink RX4 9 "GlacierHut$Stores" "lotKind" "[I", .fieldLink RX4 16 "GlacierHut$Stores" "lotLast" "[I"] ++ wsX40)
def wsX1_passNight_r1 : List Cond := [Cond.fieldLink RX1 21 "GlacierHut$Hut" "parties" "LGlacierHut$Parties;", Cond.fieldLink RX1 49 "GlacierHut$Hut" "day" "I", Cond.fieldLink RX1 29 "GlacierHut$Hut" "settings" "[I", Cond.fieldLink RX1 12 "GlacierHut$Hut" "stores" "LGlacierHut$Stores;", Cond.fieldLink RX1 65 "GlacierHut$Hut" "cutSuppers" "I", Cond.methodLink RX1 144 Lib.Math.min.name, Cond.static Lib.Math.min.name, Cond.initialized "java/lang/Math", Cond.code Lib.Math.min.name Lib.Math.min.code 2 (some .int), Cond.fieldLink RX1 56 "GlacierHut$Hut" "hungry" "I", Cond.fieldLink RX1 59 "GlacierHut$Hut" "coldNights" "I", Cond.fieldLink RX1 62 "GlacierHut$Hut" "guestNights" "I", Cond.methodLink RX1 79 yX1_isStorm, Cond.instanceMethod yX1_isStorm, Cond.selects RX1 yX1_isStorm yX1_isStorm, Cond.initialized RX1, Cond.code yX1_isStorm cX1_isStorm 1 (some .boolean), Cond.fieldLink RX1 25 "GlacierHut$Hut" "storms" "[Z", Cond.methodLink RX1 123 yX2_leave, Cond.instanceMethod yX2_leave, Cond.selects RX2 yX2_leave yX2_leave, Cond.initialized RX2, Cond.code yX2_leave cX2_leave 2 none, Cond.fieldLink RX2 34 "GlacierHut$Parties" "number" "I"]
def wsX1_passNight_r2 : List Cond := [Cond.fieldLink RX2 19 "GlacierHut$Parties" "status" "[I", Cond.fieldLink RX2 22 "GlacierHut$Parties" "slept" "[I", Cond.fieldLink RX2 16 "GlacierHut$Parties" "nights" "[I", Cond.methodLink RX1 126 yX2_guests, Cond.instanceMethod yX2_guests, Cond.selects RX2 yX2_guests yX2_guests, Cond.code yX2_guests cX2_guests 3 (some .int), Cond.fieldLink RX2 9 "GlacierHut$Parties" "size" "[I", Cond.methodLink RX1 130 yX2_arrive, Cond.instanceMethod yX2_arrive, Cond.selects RX2 yX2_arrive yX2_arrive, Cond.code yX2_arrive cX2_arrive 7 (some .boolean), Cond.fieldLink RX2 13 "GlacierHut$Parties" "day" "[I", Cond.fieldLink RX2 25 "GlacierHut$Parties" "came" "[I", Cond.methodLink RX1 134 yX4_stock, Cond.instanceMethod yX4_stock, Cond.selects RX4 yX4_stock yX4_stock, Cond.initialized RX4, Cond.code yX4_stock cX4_stock 4 (some .int), Cond.fieldLink RX4 43 "GlacierHut$Stores" "lots" "I", Cond.fieldLink RX4 9 "GlacierHut$Stores" "lotKind" "[I", Cond.fieldLink RX4 13 "GlacierHut$Stores" "lotAmount" "[I", Cond.methodLink RX1 137 yX1_rationFor, Cond.instanceMethod yX1_rationFor]
def wsX1_passNight_r3 : List Cond := [Cond.selects RX1 yX1_rationFor yX1_rationFor, Cond.code yX1_rationFor cX1_rationFor 4 (some .int), Cond.methodLink RX1 141 yX4_take, Cond.instanceMethod yX4_take, Cond.selects RX4 yX4_take yX4_take, Cond.code yX4_take cX4_take 7 (some .int), Cond.fieldLink RX4 31 "GlacierHut$Stores" "used" "[I", Cond.methodLink RX1 149 yX1_gasFor, Cond.instanceMethod yX1_gasFor, Cond.selects RX1 yX1_gasFor yX1_gasFor, Cond.code yX1_gasFor cX1_gasFor 3 (some .int), Cond.methodLink RX1 153 yX2_sleepOnce, Cond.instanceMethod yX2_sleepOnce, Cond.selects RX2 yX2_sleepOnce yX2_sleepOnce, Cond.code yX2_sleepOnce cX2_sleepOnce 2 none, Cond.methodLink RX1 156 yX4_spoil, Cond.instanceMethod yX4_spoil, Cond.selects RX4 yX4_spoil yX4_spoil, Cond.code yX4_spoil cX4_spoil 4 none, Cond.fieldLink RX4 16 "GlacierHut$Stores" "lotLast" "[I", Cond.fieldLink RX4 34 "GlacierHut$Stores" "spoilt" "[I", Cond.methodLink RX1 159 yX4_dropEmptyLots, Cond.instanceMethod yX4_dropEmptyLots, Cond.selects RX4 yX4_dropEmptyLots yX4_dropEmptyLots]
def wsX1_passNight_r4 : List Cond := [Cond.code yX4_dropEmptyLots cX4_dropEmptyLots 3 none]
def wsX1_passNight : List Cond := .code yX1_passNight cX1_passNight 9 (some .boolean) :: ((wsX1_passNight_r1 ++ (wsX1_passNight_r2 ++ (wsX1_passNight_r3 ++ wsX1_passNight_r4))) ++ wsX10 ++ wsX20 ++ wsX40)
def wsX1_wouldSuffice_r1 : List Cond := [Cond.fieldLink RX1 21 "GlacierHut$Hut" "parties" "LGlacierHut$Parties;", Cond.methodLink RX1 104 yX1_copyFrom, Cond.instanceMethod yX1_copyFrom, Cond.selects RX1 yX1_copyFrom yX1_copyFrom, Cond.initialized RX1, Cond.code yX1_copyFrom cX1_copyFrom 2 none, Cond.fieldLink RX1 12 "GlacierHut$Hut" "stores" "LGlacierHut$Stores;", Cond.fieldLink RX1 25 "GlacierHut$Hut" "storms" "[Z", Cond.methodLink RX1 43 arraycopyName, Cond.native arraycopyName, Cond.static arraycopyName, Cond.initialized "java/lang/System", Cond.fieldLink RX1 29 "GlacierHut$Hut" "settings" "[I", Cond.fieldLink RX1 49 "GlacierHut$Hut" "day" "I", Cond.fieldLink RX1 53 "GlacierHut$Hut" "flights" "I", Cond.fieldLink RX1 56 "GlacierHut$Hut" "hungry" "I", Cond.fieldLink RX1 59 "GlacierHut$Hut" "coldNights" "I", Cond.fieldLink RX1 62 "GlacierHut$Hut" "guestNights" "I", Cond.fieldLink RX1 65 "GlacierHut$Hut" "cutSuppers" "I", Cond.methodLink RX1 36 yX4_copyFrom, Cond.instanceMethod yX4_copyFrom, Cond.selects RX4 yX4_copyFrom yX4_copyFrom, Cond.initialized RX4, Cond.code yX4_copyFrom cX4_copyFrom 2 none]
def wsX1_wouldSuffice_r2 : List Cond := [Cond.fieldLink RX4 9 "GlacierHut$Stores" "lotKind" "[I", Cond.methodLink RX4 37 arraycopyName, Cond.fieldLink RX4 13 "GlacierHut$Stores" "lotAmount" "[I", Cond.fieldLink RX4 16 "GlacierHut$Stores" "lotLast" "[I", Cond.fieldLink RX4 19 "GlacierHut$Stores" "palletKind" "[I", Cond.fieldLink RX4 22 "GlacierHut$Stores" "palletAmount" "[I", Cond.fieldLink RX4 25 "GlacierHut$Stores" "palletDays" "[I", Cond.fieldLink RX4 28 "GlacierHut$Stores" "brought" "[I", Cond.fieldLink RX4 31 "GlacierHut$Stores" "used" "[I", Cond.fieldLink RX4 34 "GlacierHut$Stores" "spoilt" "[I", Cond.fieldLink RX4 43 "GlacierHut$Stores" "lots" "I", Cond.fieldLink RX4 47 "GlacierHut$Stores" "onPallet" "I", Cond.methodLink RX1 40 yX2_copyFrom, Cond.instanceMethod yX2_copyFrom, Cond.selects RX2 yX2_copyFrom yX2_copyFrom, Cond.initialized RX2, Cond.code yX2_copyFrom cX2_copyFrom 2 none, Cond.fieldLink RX2 9 "GlacierHut$Parties" "size" "[I", Cond.methodLink RX2 28 arraycopyName, Cond.fieldLink RX2 13 "GlacierHut$Parties" "day" "[I", Cond.fieldLink RX2 16 "GlacierHut$Parties" "nights" "[I", Cond.fieldLink RX2 19 "GlacierHut$Parties" "status" "[I", Cond.fieldLink RX2 22 "GlacierHut$Parties" "slept" "[I", Cond.fieldLink RX2 25 "GlacierHut$Parties" "came" "[I"]
def wsX1_wouldSuffice_r3 : List Cond := [Cond.fieldLink RX2 34 "GlacierHut$Parties" "number" "I", Cond.methodLink RX1 101 yX2_add, Cond.instanceMethod yX2_add, Cond.selects RX2 yX2_add yX2_add, Cond.code yX2_add cX2_add 4 none, Cond.methodLink RX1 107 yX2_anyAwaited, Cond.instanceMethod yX2_anyAwaited, Cond.selects RX2 yX2_anyAwaited yX2_anyAwaited, Cond.code yX2_anyAwaited cX2_anyAwaited 2 (some .boolean), Cond.methodLink RX1 110 yX1_passNight, Cond.instanceMethod yX1_passNight, Cond.selects RX1 yX1_passNight yX1_passNight, Cond.code yX1_passNight cX1_passNight 9 (some .boolean), Cond.methodLink RX1 144 Lib.Math.min.name, Cond.static Lib.Math.min.name, Cond.initialized "java/lang/Math", Cond.code Lib.Math.min.name Lib.Math.min.code 2 (some .int), Cond.methodLink RX1 79 yX1_isStorm, Cond.instanceMethod yX1_isStorm, Cond.selects RX1 yX1_isStorm yX1_isStorm, Cond.code yX1_isStorm cX1_isStorm 1 (some .boolean), Cond.methodLink RX1 123 yX2_leave, Cond.instanceMethod yX2_leave, Cond.selects RX2 yX2_leave yX2_leave]
def wsX1_wouldSuffice_r4 : List Cond := [Cond.code yX2_leave cX2_leave 2 none, Cond.methodLink RX1 126 yX2_guests, Cond.instanceMethod yX2_guests, Cond.selects RX2 yX2_guests yX2_guests, Cond.code yX2_guests cX2_guests 3 (some .int), Cond.methodLink RX1 130 yX2_arrive, Cond.instanceMethod yX2_arrive, Cond.selects RX2 yX2_arrive yX2_arrive, Cond.code yX2_arrive cX2_arrive 7 (some .boolean), Cond.methodLink RX1 134 yX4_stock, Cond.instanceMethod yX4_stock, Cond.selects RX4 yX4_stock yX4_stock, Cond.code yX4_stock cX4_stock 4 (some .int), Cond.methodLink RX1 137 yX1_rationFor, Cond.instanceMethod yX1_rationFor, Cond.selects RX1 yX1_rationFor yX1_rationFor, Cond.code yX1_rationFor cX1_rationFor 4 (some .int), Cond.methodLink RX1 141 yX4_take, Cond.instanceMethod yX4_take, Cond.selects RX4 yX4_take yX4_take, Cond.code yX4_take cX4_take 7 (some .int), Cond.methodLink RX1 149 yX1_gasFor, Cond.instanceMethod yX1_gasFor, Cond.selects RX1 yX1_gasFor yX1_gasFor]
def wsX1_wouldSuffice_r5 : List Cond := [Cond.code yX1_gasFor cX1_gasFor 3 (some .int), Cond.methodLink RX1 153 yX2_sleepOnce, Cond.instanceMethod yX2_sleepOnce, Cond.selects RX2 yX2_sleepOnce yX2_sleepOnce, Cond.code yX2_sleepOnce cX2_sleepOnce 2 none, Cond.methodLink RX1 156 yX4_spoil, Cond.instanceMethod yX4_spoil, Cond.selects RX4 yX4_spoil yX4_spoil, Cond.code yX4_spoil cX4_spoil 4 none, Cond.methodLink RX1 159 yX4_dropEmptyLots, Cond.instanceMethod yX4_dropEmptyLots, Cond.selects RX4 yX4_dropEmptyLots yX4_dropEmptyLots, Cond.code yX4_dropEmptyLots cX4_dropEmptyLots 3 none]
def wsX1_wouldSuffice : List Cond := .code yX1_wouldSuffice cX1_wouldSuffice 6 (some .boolean) :: ((wsX1_wouldSuffice_r1 ++ (wsX1_wouldSuffice_r2 ++ (wsX1_wouldSuffice_r3 ++ (wsX1_wouldSuffice_r4 ++ wsX1_wouldSuffice_r5)))) ++ wsX10 ++ wsX40 ++ wsX20)
def wsX1_takeBooking_r1 : List Cond := [Cond.fieldLink RX1 21 "GlacierHut$Hut" "parties" "LGlacierHut$Parties;", Cond.fieldLink RX1 98 "GlacierHut$Parties" "number" "I", Cond.methodLink RX1 90 yX1_mayBeBooked, Cond.instanceMethod yX1_mayBeBooked, Cond.selects RX1 yX1_mayBeBooked yX1_mayBeBooked, Cond.initialized RX1, Cond.code yX1_mayBeBooked cX1_mayBeBooked 4 (some .boolean), Cond.fieldLink RX1 49 "GlacierHut$Hut" "day" "I", Cond.methodLink RX1 94 yX1_wouldSuffice, Cond.instanceMethod yX1_wouldSuffice, Cond.selects RX1 yX1_wouldSuffice yX1_wouldSuffice, Cond.code yX1_wouldSuffice cX1_wouldSuffice 6 (some .boolean), Cond.methodLink RX1 104 yX1_copyFrom, Cond.instanceMethod yX1_copyFrom, Cond.selects RX1 yX1_copyFrom yX1_copyFrom, Cond.code yX1_copyFrom cX1_copyFrom 2 none, Cond.fieldLink RX1 12 "GlacierHut$Hut" "stores" "LGlacierHut$Stores;", Cond.fieldLink RX1 25 "GlacierHut$Hut" "storms" "[Z", Cond.methodLink RX1 43 arraycopyName, Cond.native arraycopyName, Cond.static arraycopyName, Cond.initialized "java/lang/System", Cond.fieldLink RX1 29 "GlacierHut$Hut" "settings" "[I", Cond.fieldLink RX1 53 "GlacierHut$Hut" "flights" "I"]
def wsX1_takeBooking_r2 : List Cond := [Cond.fieldLink RX1 56 "GlacierHut$Hut" "hungry" "I", Cond.fieldLink RX1 59 "GlacierHut$Hut" "coldNights" "I", Cond.fieldLink RX1 62 "GlacierHut$Hut" "guestNights" "I", Cond.fieldLink RX1 65 "GlacierHut$Hut" "cutSuppers" "I", Cond.methodLink RX1 36 yX4_copyFrom, Cond.instanceMethod yX4_copyFrom, Cond.selects RX4 yX4_copyFrom yX4_copyFrom, Cond.initialized RX4, Cond.code yX4_copyFrom cX4_copyFrom 2 none, Cond.fieldLink RX4 9 "GlacierHut$Stores" "lotKind" "[I", Cond.methodLink RX4 37 arraycopyName, Cond.fieldLink RX4 13 "GlacierHut$Stores" "lotAmount" "[I", Cond.fieldLink RX4 16 "GlacierHut$Stores" "lotLast" "[I", Cond.fieldLink RX4 19 "GlacierHut$Stores" "palletKind" "[I", Cond.fieldLink RX4 22 "GlacierHut$Stores" "palletAmount" "[I", Cond.fieldLink RX4 25 "GlacierHut$Stores" "palletDays" "[I", Cond.fieldLink RX4 28 "GlacierHut$Stores" "brought" "[I", Cond.fieldLink RX4 31 "GlacierHut$Stores" "used" "[I", Cond.fieldLink RX4 34 "GlacierHut$Stores" "spoilt" "[I", Cond.fieldLink RX4 43 "GlacierHut$Stores" "lots" "I", Cond.fieldLink RX4 47 "GlacierHut$Stores" "onPallet" "I", Cond.methodLink RX1 40 yX2_copyFrom, Cond.instanceMethod yX2_copyFrom, Cond.selects RX2 yX2_copyFrom yX2_copyFrom]
def wsX1_takeBooking_r3 : List Cond := [Cond.initialized RX2, Cond.code yX2_copyFrom cX2_copyFrom 2 none, Cond.fieldLink RX2 9 "GlacierHut$Parties" "size" "[I", Cond.methodLink RX2 28 arraycopyName, Cond.fieldLink RX2 13 "GlacierHut$Parties" "day" "[I", Cond.fieldLink RX2 16 "GlacierHut$Parties" "nights" "[I", Cond.fieldLink RX2 19 "GlacierHut$Parties" "status" "[I", Cond.fieldLink RX2 22 "GlacierHut$Parties" "slept" "[I", Cond.fieldLink RX2 25 "GlacierHut$Parties" "came" "[I", Cond.fieldLink RX2 34 "GlacierHut$Parties" "number" "I", Cond.methodLink RX1 101 yX2_add, Cond.instanceMethod yX2_add, Cond.selects RX2 yX2_add yX2_add, Cond.code yX2_add cX2_add 4 none, Cond.methodLink RX1 107 yX2_anyAwaited, Cond.instanceMethod yX2_anyAwaited, Cond.selects RX2 yX2_anyAwaited yX2_anyAwaited, Cond.code yX2_anyAwaited cX2_anyAwaited 2 (some .boolean), Cond.methodLink RX1 110 yX1_passNight, Cond.instanceMethod yX1_passNight, Cond.selects RX1 yX1_passNight yX1_passNight, Cond.code yX1_passNight cX1_passNight 9 (some .boolean), Cond.methodLink RX1 144 Lib.Math.min.name, Cond.static Lib.Math.min.name]
def wsX1_takeBooking_r4 : List Cond := [Cond.initialized "java/lang/Math", Cond.code Lib.Math.min.name Lib.Math.min.code 2 (some .int), Cond.methodLink RX1 79 yX1_isStorm, Cond.instanceMethod yX1_isStorm, Cond.selects RX1 yX1_isStorm yX1_isStorm, Cond.code yX1_isStorm cX1_isStorm 1 (some .boolean), Cond.methodLink RX1 123 yX2_leave, Cond.instanceMethod yX2_leave, Cond.selects RX2 yX2_leave yX2_leave, Cond.code yX2_leave cX2_leave 2 none, Cond.methodLink RX1 126 yX2_guests, Cond.instanceMethod yX2_guests, Cond.selects RX2 yX2_guests yX2_guests, Cond.code yX2_guests cX2_guests 3 (some .int), Cond.methodLink RX1 130 yX2_arrive, Cond.instanceMethod yX2_arrive, Cond.selects RX2 yX2_arrive yX2_arrive, Cond.code yX2_arrive cX2_arrive 7 (some .boolean), Cond.methodLink RX1 134 yX4_stock, Cond.instanceMethod yX4_stock, Cond.selects RX4 yX4_stock yX4_stock, Cond.code yX4_stock cX4_stock 4 (some .int), Cond.methodLink RX1 137 yX1_rationFor, Cond.instanceMethod yX1_rationFor]
def wsX1_takeBooking_r5 : List Cond := [Cond.selects RX1 yX1_rationFor yX1_rationFor, Cond.code yX1_rationFor cX1_rationFor 4 (some .int), Cond.methodLink RX1 141 yX4_take, Cond.instanceMethod yX4_take, Cond.selects RX4 yX4_take yX4_take, Cond.code yX4_take cX4_take 7 (some .int), Cond.methodLink RX1 149 yX1_gasFor, Cond.instanceMethod yX1_gasFor, Cond.selects RX1 yX1_gasFor yX1_gasFor, Cond.code yX1_gasFor cX1_gasFor 3 (some .int), Cond.methodLink RX1 153 yX2_sleepOnce, Cond.instanceMethod yX2_sleepOnce, Cond.selects RX2 yX2_sleepOnce yX2_sleepOnce, Cond.code yX2_sleepOnce cX2_sleepOnce 2 none, Cond.methodLink RX1 156 yX4_spoil, Cond.instanceMethod yX4_spoil, Cond.selects RX4 yX4_spoil yX4_spoil, Cond.code yX4_spoil cX4_spoil 4 none, Cond.methodLink RX1 159 yX4_dropEmptyLots, Cond.instanceMethod yX4_dropEmptyLots, Cond.selects RX4 yX4_dropEmptyLots yX4_dropEmptyLots, Cond.code yX4_dropEmptyLots cX4_dropEmptyLots 3 none]
def wsX1_takeBooking : List Cond := .code yX1_takeBooking cX1_takeBooking 5 (some .int) :: ((wsX1_takeBooking_r1 ++ (wsX1_takeBooking_r2 ++ (wsX1_takeBooking_r3 ++ (wsX1_takeBooking_r4 ++ wsX1_takeBooking_r5)))) ++ wsX10 ++ wsX20 ++ wsX40)
def wsX2_has : List Cond := .code yX2_has cX2_has 2 (some .boolean) :: ([.fieldLink RX2 34 "GlacierHut$Parties" "number" "I"] ++ wsX20)
def wsX2_withStatus : List Cond := .code yX2_withStatus cX2_withStatus 4 (some .int) :: ([.fieldLink RX2 34 "GlacierHut$Parties" "number" "I", .fieldLink RX2 19 "GlacierHut$Parties" "status" "[I"] ++ wsX20)
def wsX1_callOff : List Cond := .code yX1_callOff cX1_callOff 2 (some .int) :: ([.fieldLink RX1 21 "GlacierHut$Hut" "parties" "LGlacierHut$Parties;", .fieldLink RX1 116 "GlacierHut$Parties" "status" "[I", .methodLink RX1 113 yX2_has, .instanceMethod yX2_has, .selects RX2 yX2_has yX2_has, .initialized RX2, .code yX2_has cX2_has 2 (some .boolean), .fieldLink RX2 34 "GlacierHut$Parties" "number" "I", .methodLink RX1 119 yX2_withStatus, .instanceMethod yX2_withStatus, .selects RX2 yX2_withStatus yX2_withStatus, .code yX2_withStatus cX2_withStatus 4 (some .int), .fieldLink RX2 19 "GlacierHut$Parties" "status" "[I"] ++ wsX10 ++ wsX20)
def wsX1_tellStorm : List Cond := .code yX1_tellStorm cX1_tellStorm 6 (some .int) :: ([.fieldLink RX1 49 "GlacierHut$Hut" "day" "I", .fieldLink RX1 25 "GlacierHut$Hut" "storms" "[Z"] ++ wsX10)
def wsX1_tellCalm : List Cond := .code yX1_tellCalm cX1_tellCalm 3 (some .int) :: ([.fieldLink RX1 49 "GlacierHut$Hut" "day" "I", .fieldLink RX1 25 "GlacierHut$Hut" "storms" "[Z"] ++ wsX10)
def wsX1_passNights_r1 : List Cond := [Cond.fieldLink RX1 49 "GlacierHut$Hut" "day" "I", Cond.fieldLink RX1 56 "GlacierHut$Hut" "hungry" "I", Cond.methodLink RX1 110 yX1_passNight, Cond.instanceMethod yX1_passNight, Cond.selects RX1 yX1_passNight yX1_passNight, Cond.initialized RX1, Cond.code yX1_passNight cX1_passNight 9 (some .boolean), Cond.fieldLink RX1 21 "GlacierHut$Hut" "parties" "LGlacierHut$Parties;", Cond.fieldLink RX1 29 "GlacierHut$Hut" "settings" "[I", Cond.fieldLink RX1 12 "GlacierHut$Hut" "stores" "LGlacierHut$Stores;", Cond.fieldLink RX1 65 "GlacierHut$Hut" "cutSuppers" "I", Cond.methodLink RX1 144 Lib.Math.min.name, Cond.static Lib.Math.min.name, Cond.initialized "java/lang/Math", Cond.code Lib.Math.min.name Lib.Math.min.code 2 (some .int), Cond.fieldLink RX1 59 "GlacierHut$Hut" "coldNights" "I", Cond.fieldLink RX1 62 "GlacierHut$Hut" "guestNights" "I", Cond.methodLink RX1 79 yX1_isStorm, Cond.instanceMethod yX1_isStorm, Cond.selects RX1 yX1_isStorm yX1_isStorm, Cond.code yX1_isStorm cX1_isStorm 1 (some .boolean), Cond.fieldLink RX1 25 "GlacierHut$Hut" "storms" "[Z", Cond.methodLink RX1 123 yX2_leave, Cond.instanceMethod yX2_leave]
def wsX1_passNights_r2 : List Cond := [Cond.selects RX2 yX2_leave yX2_leave, Cond.initialized RX2, Cond.code yX2_leave cX2_leave 2 none, Cond.fieldLink RX2 34 "GlacierHut$Parties" "number" "I", Cond.fieldLink RX2 19 "GlacierHut$Parties" "status" "[I", Cond.fieldLink RX2 22 "GlacierHut$Parties" "slept" "[I", Cond.fieldLink RX2 16 "GlacierHut$Parties" "nights" "[I", Cond.methodLink RX1 126 yX2_guests, Cond.instanceMethod yX2_guests, Cond.selects RX2 yX2_guests yX2_guests, Cond.code yX2_guests cX2_guests 3 (some .int), Cond.fieldLink RX2 9 "GlacierHut$Parties" "size" "[I", Cond.methodLink RX1 130 yX2_arrive, Cond.instanceMethod yX2_arrive, Cond.selects RX2 yX2_arrive yX2_arrive, Cond.code yX2_arrive cX2_arrive 7 (some .boolean), Cond.fieldLink RX2 13 "GlacierHut$Parties" "day" "[I", Cond.fieldLink RX2 25 "GlacierHut$Parties" "came" "[I", Cond.methodLink RX1 134 yX4_stock, Cond.instanceMethod yX4_stock, Cond.selects RX4 yX4_stock yX4_stock, Cond.initialized RX4, Cond.code yX4_stock cX4_stock 4 (some .int), Cond.fieldLink RX4 43 "GlacierHut$Stores" "lots" "I"]
def wsX1_passNights_r3 : List Cond := [Cond.fieldLink RX4 9 "GlacierHut$Stores" "lotKind" "[I", Cond.fieldLink RX4 13 "GlacierHut$Stores" "lotAmount" "[I", Cond.methodLink RX1 137 yX1_rationFor, Cond.instanceMethod yX1_rationFor, Cond.selects RX1 yX1_rationFor yX1_rationFor, Cond.code yX1_rationFor cX1_rationFor 4 (some .int), Cond.methodLink RX1 141 yX4_take, Cond.instanceMethod yX4_take, Cond.selects RX4 yX4_take yX4_take, Cond.code yX4_take cX4_take 7 (some .int), Cond.fieldLink RX4 31 "GlacierHut$Stores" "used" "[I", Cond.methodLink RX1 149 yX1_gasFor, Cond.instanceMethod yX1_gasFor, Cond.selects RX1 yX1_gasFor yX1_gasFor, Cond.code yX1_gasFor cX1_gasFor 3 (some .int), Cond.methodLink RX1 153 yX2_sleepOnce, Cond.instanceMethod yX2_sleepOnce, Cond.selects RX2 yX2_sleepOnce yX2_sleepOnce, Cond.code yX2_sleepOnce cX2_sleepOnce 2 none, Cond.methodLink RX1 156 yX4_spoil, Cond.instanceMethod yX4_spoil, Cond.selects RX4 yX4_spoil yX4_spoil, Cond.code yX4_spoil cX4_spoil 4 none, Cond.fieldLink RX4 16 "GlacierHut$Stores" "lotLast" "[I"]
def wsX1_passNights_r4 : List Cond := [Cond.fieldLink RX4 34 "GlacierHut$Stores" "spoilt" "[I", Cond.methodLink RX1 159 yX4_dropEmptyLots, Cond.instanceMethod yX4_dropEmptyLots, Cond.selects RX4 yX4_dropEmptyLots yX4_dropEmptyLots, Cond.code yX4_dropEmptyLots cX4_dropEmptyLots 3 none]
def wsX1_passNights : List Cond := .code yX1_passNights cX1_passNights 4 (some .int) :: ((wsX1_passNights_r1 ++ (wsX1_passNights_r2 ++ (wsX1_passNights_r3 ++ wsX1_passNights_r4))) ++ wsX10 ++ wsX20 ++ wsX40)
def wsX1_changeSetting : List Cond := .code yX1_changeSetting cX1_changeSetting 4 (some .int) :: ([.fieldLink RX1 162 "GlacierHut$Hut" "LOWEST" "[I", .fieldLink RX1 165 "GlacierHut$Hut" "HIGHEST" "[I", .fieldLink RX1 29 "GlacierHut$Hut" "settings" "[I"] ++ wsX10)
def wsX1_settingAt : List Cond := .code yX1_settingAt cX1_settingAt 2 (some .int) :: ([.fieldLink RX1 29 "GlacierHut$Hut" "settings" "[I"] ++ wsX10)
def wsX2_isAwaited : List Cond := .code yX2_isAwaited cX2_isAwaited 2 (some .boolean) :: ([.fieldLink RX2 19 "GlacierHut$Parties" "status" "[I", .methodLink RX2 38 yX2_has, .instanceMethod yX2_has, .selects RX2 yX2_has yX2_has, .initialized RX2, .code yX2_has cX2_has 2 (some .boolean), .fieldLink RX2 34 "GlacierHut$Parties" "number" "I"] ++ wsX20)
def wsX2_hasStatus : List Cond := .code yX2_hasStatus cX2_hasStatus 3 (some .boolean) :: ([.fieldLink RX2 19 "GlacierHut$Parties" "status" "[I", .methodLink RX2 38 yX2_has, .instanceMethod yX2_has, .selects RX2 yX2_has yX2_has, .initialized RX2, .code yX2_has cX2_has 2 (some .boolean), .fieldLink RX2 34 "GlacierHut$Parties" "number" "I"] ++ wsX20)
def wsX1_dayWhenGone_r1 : List Cond := [Cond.fieldLink RX1 21 "GlacierHut$Hut" "parties" "LGlacierHut$Parties;", Cond.fieldLink RX1 49 "GlacierHut$Hut" "day" "I", Cond.methodLink RX1 168 yX2_isAwaited, Cond.instanceMethod yX2_isAwaited, Cond.selects RX2 yX2_isAwaited yX2_isAwaited, Cond.initialized RX2, Cond.code yX2_isAwaited cX2_isAwaited 2 (some .boolean), Cond.fieldLink RX2 19 "GlacierHut$Parties" "status" "[I", Cond.methodLink RX2 38 yX2_has, Cond.instanceMethod yX2_has, Cond.selects RX2 yX2_has yX2_has, Cond.code yX2_has cX2_has 2 (some .boolean), Cond.fieldLink RX2 34 "GlacierHut$Parties" "number" "I", Cond.methodLink RX1 110 yX1_passNight, Cond.instanceMethod yX1_passNight, Cond.selects RX1 yX1_passNight yX1_passNight, Cond.initialized RX1, Cond.code yX1_passNight cX1_passNight 9 (some .boolean), Cond.fieldLink RX1 29 "GlacierHut$Hut" "settings" "[I", Cond.fieldLink RX1 12 "GlacierHut$Hut" "stores" "LGlacierHut$Stores;", Cond.fieldLink RX1 65 "GlacierHut$Hut" "cutSuppers" "I", Cond.methodLink RX1 144 Lib.Math.min.name, Cond.static Lib.Math.min.name, Cond.initialized "java/lang/Math"]
def wsX1_dayWhenGone_r2 : List Cond := [Cond.code Lib.Math.min.name Lib.Math.min.code 2 (some .int), Cond.fieldLink RX1 56 "GlacierHut$Hut" "hungry" "I", Cond.fieldLink RX1 59 "GlacierHut$Hut" "coldNights" "I", Cond.fieldLink RX1 62 "GlacierHut$Hut" "guestNights" "I", Cond.methodLink RX1 79 yX1_isStorm, Cond.instanceMethod yX1_isStorm, Cond.selects RX1 yX1_isStorm yX1_isStorm, Cond.code yX1_isStorm cX1_isStorm 1 (some .boolean), Cond.fieldLink RX1 25 "GlacierHut$Hut" "storms" "[Z", Cond.methodLink RX1 123 yX2_leave, Cond.instanceMethod yX2_leave, Cond.selects RX2 yX2_leave yX2_leave, Cond.code yX2_leave cX2_leave 2 none, Cond.fieldLink RX2 22 "GlacierHut$Parties" "slept" "[I", Cond.fieldLink RX2 16 "GlacierHut$Parties" "nights" "[I", Cond.methodLink RX1 126 yX2_guests, Cond.instanceMethod yX2_guests, Cond.selects RX2 yX2_guests yX2_guests, Cond.code yX2_guests cX2_guests 3 (some .int), Cond.fieldLink RX2 9 "GlacierHut$Parties" "size" "[I", Cond.methodLink RX1 130 yX2_arrive, Cond.instanceMethod yX2_arrive, Cond.selects RX2 yX2_arrive yX2_arrive, Cond.code yX2_arrive cX2_arrive 7 (some .boolean)]
def wsX1_dayWhenGone_r3 : List Cond := [Cond.fieldLink RX2 13 "GlacierHut$Parties" "day" "[I", Cond.fieldLink RX2 25 "GlacierHut$Parties" "came" "[I", Cond.methodLink RX1 134 yX4_stock, Cond.instanceMethod yX4_stock, Cond.selects RX4 yX4_stock yX4_stock, Cond.initialized RX4, Cond.code yX4_stock cX4_stock 4 (some .int), Cond.fieldLink RX4 43 "GlacierHut$Stores" "lots" "I", Cond.fieldLink RX4 9 "GlacierHut$Stores" "lotKind" "[I", Cond.fieldLink RX4 13 "GlacierHut$Stores" "lotAmount" "[I", Cond.methodLink RX1 137 yX1_rationFor, Cond.instanceMethod yX1_rationFor, Cond.selects RX1 yX1_rationFor yX1_rationFor, Cond.code yX1_rationFor cX1_rationFor 4 (some .int), Cond.methodLink RX1 141 yX4_take, Cond.instanceMethod yX4_take, Cond.selects RX4 yX4_take yX4_take, Cond.code yX4_take cX4_take 7 (some .int), Cond.fieldLink RX4 31 "GlacierHut$Stores" "used" "[I", Cond.methodLink RX1 149 yX1_gasFor, Cond.instanceMethod yX1_gasFor, Cond.selects RX1 yX1_gasFor yX1_gasFor, Cond.code yX1_gasFor cX1_gasFor 3 (some .int), Cond.methodLink RX1 153 yX2_sleepOnce]
def wsX1_dayWhenGone_r4 : List Cond := [Cond.instanceMethod yX2_sleepOnce, Cond.selects RX2 yX2_sleepOnce yX2_sleepOnce, Cond.code yX2_sleepOnce cX2_sleepOnce 2 none, Cond.methodLink RX1 156 yX4_spoil, Cond.instanceMethod yX4_spoil, Cond.selects RX4 yX4_spoil yX4_spoil, Cond.code yX4_spoil cX4_spoil 4 none, Cond.fieldLink RX4 16 "GlacierHut$Stores" "lotLast" "[I", Cond.fieldLink RX4 34 "GlacierHut$Stores" "spoilt" "[I", Cond.methodLink RX1 159 yX4_dropEmptyLots, Cond.instanceMethod yX4_dropEmptyLots, Cond.selects RX4 yX4_dropEmptyLots yX4_dropEmptyLots, Cond.code yX4_dropEmptyLots cX4_dropEmptyLots 3 none, Cond.methodLink RX1 171 yX2_hasStatus, Cond.instanceMethod yX2_hasStatus, Cond.selects RX2 yX2_hasStatus yX2_hasStatus, Cond.code yX2_hasStatus cX2_hasStatus 3 (some .boolean)]
def wsX1_dayWhenGone : List Cond := .code yX1_dayWhenGone cX1_dayWhenGone 3 (some .int) :: ((wsX1_dayWhenGone_r1 ++ (wsX1_dayWhenGone_r2 ++ (wsX1_dayWhenGone_r3 ++ wsX1_dayWhenGone_r4))) ++ wsX10 ++ wsX20 ++ wsX40)
def wsX1_dayWhenOut_r1 : List Cond := [Cond.fieldLink RX1 21 "GlacierHut$Hut" "parties" "LGlacierHut$Parties;", Cond.fieldLink RX1 12 "GlacierHut$Hut" "stores" "LGlacierHut$Stores;", Cond.fieldLink RX1 49 "GlacierHut$Hut" "day" "I", Cond.methodLink RX1 107 yX2_anyAwaited, Cond.instanceMethod yX2_anyAwaited, Cond.selects RX2 yX2_anyAwaited yX2_anyAwaited, Cond.initialized RX2, Cond.code yX2_anyAwaited cX2_anyAwaited 2 (some .boolean), Cond.fieldLink RX2 34 "GlacierHut$Parties" "number" "I", Cond.fieldLink RX2 19 "GlacierHut$Parties" "status" "[I", Cond.methodLink RX1 110 yX1_passNight, Cond.instanceMethod yX1_passNight, Cond.selects RX1 yX1_passNight yX1_passNight, Cond.initialized RX1, Cond.code yX1_passNight cX1_passNight 9 (some .boolean), Cond.fieldLink RX1 29 "GlacierHut$Hut" "settings" "[I", Cond.fieldLink RX1 65 "GlacierHut$Hut" "cutSuppers" "I", Cond.methodLink RX1 144 Lib.Math.min.name, Cond.static Lib.Math.min.name, Cond.initialized "java/lang/Math", Cond.code Lib.Math.min.name Lib.Math.min.code 2 (some .int), Cond.fieldLink RX1 56 "GlacierHut$Hut" "hungry" "I", Cond.fieldLink RX1 59 "GlacierHut$Hut" "coldNights" "I", Cond.fieldLink RX1 62 "GlacierHut$Hut" "guestNights" "I"]
def wsX1_dayWhenOut_r2 : List Cond := [Cond.methodLink RX1 79 yX1_isStorm, Cond.instanceMethod yX1_isStorm, Cond.selects RX1 yX1_isStorm yX1_isStorm, Cond.code yX1_isStorm cX1_isStorm 1 (some .boolean), Cond.fieldLink RX1 25 "GlacierHut$Hut" "storms" "[Z", Cond.methodLink RX1 123 yX2_leave, Cond.instanceMethod yX2_leave, Cond.selects RX2 yX2_leave yX2_leave, Cond.code yX2_leave cX2_leave 2 none, Cond.fieldLink RX2 22 "GlacierHut$Parties" "slept" "[I", Cond.fieldLink RX2 16 "GlacierHut$Parties" "nights" "[I", Cond.methodLink RX1 126 yX2_guests, Cond.instanceMethod yX2_guests, Cond.selects RX2 yX2_guests yX2_guests, Cond.code yX2_guests cX2_guests 3 (some .int), Cond.fieldLink RX2 9 "GlacierHut$Parties" "size" "[I", Cond.methodLink RX1 130 yX2_arrive, Cond.instanceMethod yX2_arrive, Cond.selects RX2 yX2_arrive yX2_arrive, Cond.code yX2_arrive cX2_arrive 7 (some .boolean), Cond.fieldLink RX2 13 "GlacierHut$Parties" "day" "[I", Cond.fieldLink RX2 25 "GlacierHut$Parties" "came" "[I", Cond.methodLink RX1 134 yX4_stock, Cond.instanceMethod yX4_stock]
def wsX1_dayWhenOut_r3 : List Cond := [Cond.selects RX4 yX4_stock yX4_stock, Cond.initialized RX4, Cond.code yX4_stock cX4_stock 4 (some .int), Cond.fieldLink RX4 43 "GlacierHut$Stores" "lots" "I", Cond.fieldLink RX4 9 "GlacierHut$Stores" "lotKind" "[I", Cond.fieldLink RX4 13 "GlacierHut$Stores" "lotAmount" "[I", Cond.methodLink RX1 137 yX1_rationFor, Cond.instanceMethod yX1_rationFor, Cond.selects RX1 yX1_rationFor yX1_rationFor, Cond.code yX1_rationFor cX1_rationFor 4 (some .int), Cond.methodLink RX1 141 yX4_take, Cond.instanceMethod yX4_take, Cond.selects RX4 yX4_take yX4_take, Cond.code yX4_take cX4_take 7 (some .int), Cond.fieldLink RX4 31 "GlacierHut$Stores" "used" "[I", Cond.methodLink RX1 149 yX1_gasFor, Cond.instanceMethod yX1_gasFor, Cond.selects RX1 yX1_gasFor yX1_gasFor, Cond.code yX1_gasFor cX1_gasFor 3 (some .int), Cond.methodLink RX1 153 yX2_sleepOnce, Cond.instanceMethod yX2_sleepOnce, Cond.selects RX2 yX2_sleepOnce yX2_sleepOnce, Cond.code yX2_sleepOnce cX2_sleepOnce 2 none, Cond.methodLink RX1 156 yX4_spoil]
def wsX1_dayWhenOut_r4 : List Cond := [Cond.instanceMethod yX4_spoil, Cond.selects RX4 yX4_spoil yX4_spoil, Cond.code yX4_spoil cX4_spoil 4 none, Cond.fieldLink RX4 16 "GlacierHut$Stores" "lotLast" "[I", Cond.fieldLink RX4 34 "GlacierHut$Stores" "spoilt" "[I", Cond.methodLink RX1 159 yX4_dropEmptyLots, Cond.instanceMethod yX4_dropEmptyLots, Cond.selects RX4 yX4_dropEmptyLots yX4_dropEmptyLots, Cond.code yX4_dropEmptyLots cX4_dropEmptyLots 3 none]
def wsX1_dayWhenOut : List Cond := .code yX1_dayWhenOut cX1_dayWhenOut 3 (some .int) :: ((wsX1_dayWhenOut_r1 ++ (wsX1_dayWhenOut_r2 ++ (wsX1_dayWhenOut_r3 ++ wsX1_dayWhenOut_r4))) ++ wsX10 ++ wsX20 ++ wsX40)
def wsX3_init_r1 : List Cond := [Cond.methodLink RX3 3 objectInit, Cond.instanceMethod objectInit, Cond.code objectInit ⟨#[0xb1]⟩ 1 none, Cond.classLink RX3 9 RX1, Cond.instantiable RX1 10, Cond.initialized RX1, Cond.fieldLink RX3 12 "GlacierHut$Rehearsal" "hut" "LGlacierHut$Hut;", Cond.fieldLink RX3 18 "GlacierHut$Rehearsal" "trial" "LGlacierHut$Hut;", Cond.methodLink RX3 11 yX1_init, Cond.instanceMethod yX1_init, Cond.code yX1_init cX1_init 2 none, Cond.methodLink RX1 3 objectInit, Cond.classLink RX1 9 RX4, Cond.instantiable RX4 11, Cond.initialized RX4, Cond.fieldLink RX1 12 "GlacierHut$Hut" "stores" "LGlacierHut$Stores;", Cond.classLink RX1 18 RX2, Cond.instantiable RX2 7, Cond.initialized RX2, Cond.fieldLink RX1 21 "GlacierHut$Hut" "parties" "LGlacierHut$Parties;", Cond.arrayClass .boolean, Cond.fieldLink RX1 25 "GlacierHut$Hut" "storms" "[Z", Cond.arrayClass .int, Cond.fieldLink RX1 29 "GlacierHut$Hut" "settings" "[I"]
def wsX3_init_r2 : List Cond := [Cond.fieldLink RX1 33 "GlacierHut$Hut" "FIRST" "[I", Cond.methodLink RX1 11 yX4_init, Cond.instanceMethod yX4_init, Cond.code yX4_init cX4_init 1 none, Cond.methodLink RX4 1 objectInit, Cond.fieldLink RX4 9 "GlacierHut$Stores" "lotKind" "[I", Cond.fieldLink RX4 13 "GlacierHut$Stores" "lotAmount" "[I", Cond.fieldLink RX4 16 "GlacierHut$Stores" "lotLast" "[I", Cond.fieldLink RX4 19 "GlacierHut$Stores" "palletKind" "[I", Cond.fieldLink RX4 22 "GlacierHut$Stores" "palletAmount" "[I", Cond.fieldLink RX4 25 "GlacierHut$Stores" "palletDays" "[I", Cond.fieldLink RX4 28 "GlacierHut$Stores" "brought" "[I", Cond.fieldLink RX4 31 "GlacierHut$Stores" "used" "[I", Cond.fieldLink RX4 34 "GlacierHut$Stores" "spoilt" "[I", Cond.methodLink RX1 20 yX2_init, Cond.instanceMethod yX2_init, Cond.code yX2_init cX2_init 1 none, Cond.methodLink RX2 3 objectInit, Cond.fieldLink RX2 9 "GlacierHut$Parties" "size" "[I", Cond.fieldLink RX2 13 "GlacierHut$Parties" "day" "[I", Cond.fieldLink RX2 16 "GlacierHut$Parties" "nights" "[I", Cond.fieldLink RX2 19 "GlacierHut$Parties" "status" "[I", Cond.fieldLink RX2 22 "GlacierHut$Parties" "slept" "[I", Cond.fieldLink RX2 25 "GlacierHut$Parties" "came" "[I"]
def wsX3_init : List Cond := .code yX3_init cX3_init 2 none :: ((wsX3_init_r1 ++ wsX3_init_r2) ++ wsX10 ++ wsX30 ++ wsX40 ++ wsX20)
def wsX5_at : List Cond := .code yX5_at cX5_at 2 (some .char) :: ([.fieldLink RX5 17 "GlacierHut$Text" "length" "I", .fieldLink RX5 9 "GlacierHut$Text" "characters" "[C"] ++ wsX50)
def wsX5_numbersOf : List Cond := .code yX5_numbersOf cX5_numbersOf 2 (some .int) :: ([])
def wsX5_passes : List Cond := .code yX5_passes cX5_passes 2 (some .boolean) :: ([.fieldLink RX5 29 "GlacierHut$Text" "next" "I", .methodLink RX5 21 yX5_at, .instanceMethod yX5_at, .selects RX5 yX5_at yX5_at, .initialized RX5, .code yX5_at cX5_at 2 (some .char), .fieldLink RX5 17 "GlacierHut$Text" "length" "I", .fieldLink RX5 9 "GlacierHut$Text" "characters" "[C"] ++ wsX50)
def wsX5_readNumber : List Cond := .code yX5_readNumber cX5_readNumber 4 (some .int) :: ([.fieldLink RX5 29 "GlacierHut$Text" "next" "I", .methodLink RX5 44 Lib.Math.max.name, .static Lib.Math.max.name, .initialized "java/lang/Math", .code Lib.Math.max.name Lib.Math.max.code 2 (some .int), .methodLink RX5 21 yX5_at, .instanceMethod yX5_at, .selects RX5 yX5_at yX5_at, .initialized RX5, .code yX5_at cX5_at 2 (some .char), .fieldLink RX5 17 "GlacierHut$Text" "length" "I", .fieldLink RX5 9 "GlacierHut$Text" "characters" "[C"] ++ wsX50)
def wsX5_readCommand_r1 : List Cond := [Cond.fieldLink RX5 25 "GlacierHut$Text" "letter" "C", Cond.fieldLink RX5 29 "GlacierHut$Text" "next" "I", Cond.fieldLink RX5 13 "GlacierHut$Text" "numbers" "[I", Cond.methodLink RX5 21 yX5_at, Cond.instanceMethod yX5_at, Cond.selects RX5 yX5_at yX5_at, Cond.initialized RX5, Cond.code yX5_at cX5_at 2 (some .char), Cond.fieldLink RX5 17 "GlacierHut$Text" "length" "I", Cond.fieldLink RX5 9 "GlacierHut$Text" "characters" "[C", Cond.methodLink RX5 32 yX5_numbersOf, Cond.instanceMethod yX5_numbersOf, Cond.selects RX5 yX5_numbersOf yX5_numbersOf, Cond.code yX5_numbersOf cX5_numbersOf 2 (some .int), Cond.methodLink RX5 36 yX5_passes, Cond.instanceMethod yX5_passes, Cond.selects RX5 yX5_passes yX5_passes, Cond.code yX5_passes cX5_passes 2 (some .boolean), Cond.methodLink RX5 40 yX5_readNumber, Cond.instanceMethod yX5_readNumber, Cond.selects RX5 yX5_readNumber yX5_readNumber, Cond.code yX5_readNumber cX5_readNumber 4 (some .int), Cond.methodLink RX5 44 Lib.Math.max.name, Cond.static Lib.Math.max.name]
def wsX5_readCommand_r2 : List Cond := [Cond.initialized "java/lang/Math", Cond.code Lib.Math.max.name Lib.Math.max.code 2 (some .int)]
def wsX5_readCommand : List Cond := .code yX5_readCommand cX5_readCommand 4 (some .boolean) :: ((wsX5_readCommand_r1 ++ wsX5_readCommand_r2) ++ wsX50)
def wsX3_obey_r1 : List Cond := [Cond.fieldLink RX3 12 "GlacierHut$Rehearsal" "hut" "LGlacierHut$Hut;", Cond.fieldLink RX3 18 "GlacierHut$Rehearsal" "trial" "LGlacierHut$Hut;", Cond.methodLink RX3 62 yX1_putOnPallet, Cond.instanceMethod yX1_putOnPallet, Cond.selects RX1 yX1_putOnPallet yX1_putOnPallet, Cond.initialized RX1, Cond.code yX1_putOnPallet cX1_putOnPallet 4 (some .int), Cond.fieldLink RX1 12 "GlacierHut$Hut" "stores" "LGlacierHut$Stores;", Cond.fieldLink RX1 72 "GlacierHut$Stores" "onPallet" "I", Cond.methodLink RX1 68 yX4_isKind, Cond.static yX4_isKind, Cond.initialized RX4, Cond.code yX4_isKind cX4_isKind 1 (some .boolean), Cond.methodLink RX1 75 yX4_addToPallet, Cond.instanceMethod yX4_addToPallet, Cond.selects RX4 yX4_addToPallet yX4_addToPallet, Cond.code yX4_addToPallet cX4_addToPallet 4 none, Cond.fieldLink RX4 47 "GlacierHut$Stores" "onPallet" "I", Cond.fieldLink RX4 19 "GlacierHut$Stores" "palletKind" "[I", Cond.fieldLink RX4 22 "GlacierHut$Stores" "palletAmount" "[I", Cond.fieldLink RX4 25 "GlacierHut$Stores" "palletDays" "[I", Cond.methodLink RX3 66 yX1_bringPallet, Cond.instanceMethod yX1_bringPallet, Cond.selects RX1 yX1_bringPallet yX1_bringPallet]
def wsX3_obey_r2 : List Cond := [Cond.code yX1_bringPallet cX1_bringPallet 2 (some .int), Cond.fieldLink RX1 53 "GlacierHut$Hut" "flights" "I", Cond.fieldLink RX1 29 "GlacierHut$Hut" "settings" "[I", Cond.fieldLink RX1 83 "GlacierHut$Stores" "lots" "I", Cond.fieldLink RX1 49 "GlacierHut$Hut" "day" "I", Cond.methodLink RX1 79 yX1_isStorm, Cond.instanceMethod yX1_isStorm, Cond.selects RX1 yX1_isStorm yX1_isStorm, Cond.code yX1_isStorm cX1_isStorm 1 (some .boolean), Cond.fieldLink RX1 25 "GlacierHut$Hut" "storms" "[Z", Cond.methodLink RX1 86 yX4_unloadPallet, Cond.instanceMethod yX4_unloadPallet, Cond.selects RX4 yX4_unloadPallet yX4_unloadPallet, Cond.code yX4_unloadPallet cX4_unloadPallet 3 none, Cond.methodLink RX4 50 yX4_addLot, Cond.instanceMethod yX4_addLot, Cond.selects RX4 yX4_addLot yX4_addLot, Cond.code yX4_addLot cX4_addLot 5 none, Cond.fieldLink RX4 43 "GlacierHut$Stores" "lots" "I", Cond.fieldLink RX4 16 "GlacierHut$Stores" "lotLast" "[I", Cond.fieldLink RX4 9 "GlacierHut$Stores" "lotKind" "[I", Cond.fieldLink RX4 13 "GlacierHut$Stores" "lotAmount" "[I", Cond.fieldLink RX4 28 "GlacierHut$Stores" "brought" "[I", Cond.methodLink RX4 54 yX4_isKind]
def wsX3_obey_r3 : List Cond := [Cond.methodLink RX3 70 yX1_takeBooking, Cond.instanceMethod yX1_takeBooking, Cond.selects RX1 yX1_takeBooking yX1_takeBooking, Cond.code yX1_takeBooking cX1_takeBooking 5 (some .int), Cond.fieldLink RX1 21 "GlacierHut$Hut" "parties" "LGlacierHut$Parties;", Cond.fieldLink RX1 98 "GlacierHut$Parties" "number" "I", Cond.methodLink RX1 90 yX1_mayBeBooked, Cond.instanceMethod yX1_mayBeBooked, Cond.selects RX1 yX1_mayBeBooked yX1_mayBeBooked, Cond.code yX1_mayBeBooked cX1_mayBeBooked 4 (some .boolean), Cond.methodLink RX1 94 yX1_wouldSuffice, Cond.instanceMethod yX1_wouldSuffice, Cond.selects RX1 yX1_wouldSuffice yX1_wouldSuffice, Cond.code yX1_wouldSuffice cX1_wouldSuffice 6 (some .boolean), Cond.methodLink RX1 104 yX1_copyFrom, Cond.instanceMethod yX1_copyFrom, Cond.selects RX1 yX1_copyFrom yX1_copyFrom, Cond.code yX1_copyFrom cX1_copyFrom 2 none, Cond.methodLink RX1 43 arraycopyName, Cond.native arraycopyName, Cond.static arraycopyName, Cond.initialized "java/lang/System", Cond.fieldLink RX1 56 "GlacierHut$Hut" "hungry" "I", Cond.fieldLink RX1 59 "GlacierHut$Hut" "coldNights" "I"]
def wsX3_obey_r4 : List Cond := [Cond.fieldLink RX1 62 "GlacierHut$Hut" "guestNights" "I", Cond.fieldLink RX1 65 "GlacierHut$Hut" "cutSuppers" "I", Cond.methodLink RX1 36 yX4_copyFrom, Cond.instanceMethod yX4_copyFrom, Cond.selects RX4 yX4_copyFrom yX4_copyFrom, Cond.code yX4_copyFrom cX4_copyFrom 2 none, Cond.methodLink RX4 37 arraycopyName, Cond.fieldLink RX4 31 "GlacierHut$Stores" "used" "[I", Cond.fieldLink RX4 34 "GlacierHut$Stores" "spoilt" "[I", Cond.methodLink RX1 40 yX2_copyFrom, Cond.instanceMethod yX2_copyFrom, Cond.selects RX2 yX2_copyFrom yX2_copyFrom, Cond.initialized RX2, Cond.code yX2_copyFrom cX2_copyFrom 2 none, Cond.fieldLink RX2 9 "GlacierHut$Parties" "size" "[I", Cond.methodLink RX2 28 arraycopyName, Cond.fieldLink RX2 13 "GlacierHut$Parties" "day" "[I", Cond.fieldLink RX2 16 "GlacierHut$Parties" "nights" "[I", Cond.fieldLink RX2 19 "GlacierHut$Parties" "status" "[I", Cond.fieldLink RX2 22 "GlacierHut$Parties" "slept" "[I", Cond.fieldLink RX2 25 "GlacierHut$Parties" "came" "[I", Cond.fieldLink RX2 34 "GlacierHut$Parties" "number" "I", Cond.methodLink RX1 101 yX2_add, Cond.instanceMethod yX2_add]
def wsX3_obey_r5 : List Cond := [Cond.selects RX2 yX2_add yX2_add, Cond.code yX2_add cX2_add 4 none, Cond.methodLink RX1 107 yX2_anyAwaited, Cond.instanceMethod yX2_anyAwaited, Cond.selects RX2 yX2_anyAwaited yX2_anyAwaited, Cond.code yX2_anyAwaited cX2_anyAwaited 2 (some .boolean), Cond.methodLink RX1 110 yX1_passNight, Cond.instanceMethod yX1_passNight, Cond.selects RX1 yX1_passNight yX1_passNight, Cond.code yX1_passNight cX1_passNight 9 (some .boolean), Cond.methodLink RX1 144 Lib.Math.min.name, Cond.static Lib.Math.min.name, Cond.initialized "java/lang/Math", Cond.code Lib.Math.min.name Lib.Math.min.code 2 (some .int), Cond.methodLink RX1 123 yX2_leave, Cond.instanceMethod yX2_leave, Cond.selects RX2 yX2_leave yX2_leave, Cond.code yX2_leave cX2_leave 2 none, Cond.methodLink RX1 126 yX2_guests, Cond.instanceMethod yX2_guests, Cond.selects RX2 yX2_guests yX2_guests, Cond.code yX2_guests cX2_guests 3 (some .int), Cond.methodLink RX1 130 yX2_arrive, Cond.instanceMethod yX2_arrive]
def wsX3_obey_r6 : List Cond := [Cond.selects RX2 yX2_arrive yX2_arrive, Cond.code yX2_arrive cX2_arrive 7 (some .boolean), Cond.methodLink RX1 134 yX4_stock, Cond.instanceMethod yX4_stock, Cond.selects RX4 yX4_stock yX4_stock, Cond.code yX4_stock cX4_stock 4 (some .int), Cond.methodLink RX1 137 yX1_rationFor, Cond.instanceMethod yX1_rationFor, Cond.selects RX1 yX1_rationFor yX1_rationFor, Cond.code yX1_rationFor cX1_rationFor 4 (some .int), Cond.methodLink RX1 141 yX4_take, Cond.instanceMethod yX4_take, Cond.selects RX4 yX4_take yX4_take, Cond.code yX4_take cX4_take 7 (some .int), Cond.methodLink RX1 149 yX1_gasFor, Cond.instanceMethod yX1_gasFor, Cond.selects RX1 yX1_gasFor yX1_gasFor, Cond.code yX1_gasFor cX1_gasFor 3 (some .int), Cond.methodLink RX1 153 yX2_sleepOnce, Cond.instanceMethod yX2_sleepOnce, Cond.selects RX2 yX2_sleepOnce yX2_sleepOnce, Cond.code yX2_sleepOnce cX2_sleepOnce 2 none, Cond.methodLink RX1 156 yX4_spoil, Cond.instanceMethod yX4_spoil]
def wsX3_obey_r7 : List Cond := [Cond.selects RX4 yX4_spoil yX4_spoil, Cond.code yX4_spoil cX4_spoil 4 none, Cond.methodLink RX1 159 yX4_dropEmptyLots, Cond.instanceMethod yX4_dropEmptyLots, Cond.selects RX4 yX4_dropEmptyLots yX4_dropEmptyLots, Cond.code yX4_dropEmptyLots cX4_dropEmptyLots 3 none, Cond.methodLink RX3 74 yX1_callOff, Cond.instanceMethod yX1_callOff, Cond.selects RX1 yX1_callOff yX1_callOff, Cond.code yX1_callOff cX1_callOff 2 (some .int), Cond.fieldLink RX1 116 "GlacierHut$Parties" "status" "[I", Cond.methodLink RX1 113 yX2_has, Cond.instanceMethod yX2_has, Cond.selects RX2 yX2_has yX2_has, Cond.code yX2_has cX2_has 2 (some .boolean), Cond.methodLink RX1 119 yX2_withStatus, Cond.instanceMethod yX2_withStatus, Cond.selects RX2 yX2_withStatus yX2_withStatus, Cond.code yX2_withStatus cX2_withStatus 4 (some .int), Cond.methodLink RX3 78 yX1_tellStorm, Cond.instanceMethod yX1_tellStorm, Cond.selects RX1 yX1_tellStorm yX1_tellStorm, Cond.code yX1_tellStorm cX1_tellStorm 6 (some .int), Cond.methodLink RX3 82 yX1_passNights]
def wsX3_obey_r8 : List Cond := [Cond.instanceMethod yX1_passNights, Cond.selects RX1 yX1_passNights yX1_passNights, Cond.code yX1_passNights cX1_passNights 4 (some .int)]
def wsX3_obey : List Cond := .code yX3_obey cX3_obey 3 (some .int) :: ((wsX3_obey_r1 ++ (wsX3_obey_r2 ++ (wsX3_obey_r3 ++ (wsX3_obey_r4 ++ (wsX3_obey_r5 ++ (wsX3_obey_r6 ++ (wsX3_obey_r7 ++ wsX3_obey_r8))))))) ++ wsX30 ++ wsX10 ++ wsX40 ++ wsX20)
def wsX3_run_r1 : List Cond := [Cond.fieldLink RX3 12 "GlacierHut$Rehearsal" "hut" "LGlacierHut$Hut;", Cond.fieldLink RX3 25 "GlacierHut$Rehearsal" "commands" "I", Cond.fieldLink RX3 29 "GlacierHut$Rehearsal" "position" "I", Cond.fieldLink RX3 32 "GlacierHut$Rehearsal" "reason" "I", Cond.fieldLink RX3 35 "GlacierHut$Rehearsal" "cause" "I", Cond.fieldLink RX3 40 "GlacierHut$Text" "length" "I", Cond.fieldLink RX3 47 "GlacierHut$Text" "letter" "C", Cond.fieldLink RX3 51 "GlacierHut$Text" "numbers" "[I", Cond.fieldLink RX3 59 "GlacierHut$Text" "next" "I", Cond.methodLink RX3 21 yX1_copyFrom, Cond.instanceMethod yX1_copyFrom, Cond.selects RX1 yX1_copyFrom yX1_copyFrom, Cond.initialized RX1, Cond.code yX1_copyFrom cX1_copyFrom 2 none, Cond.fieldLink RX1 12 "GlacierHut$Hut" "stores" "LGlacierHut$Stores;", Cond.fieldLink RX1 21 "GlacierHut$Hut" "parties" "LGlacierHut$Parties;", Cond.fieldLink RX1 25 "GlacierHut$Hut" "storms" "[Z", Cond.methodLink RX1 43 arraycopyName, Cond.native arraycopyName, Cond.static arraycopyName, Cond.initialized "java/lang/System", Cond.fieldLink RX1 29 "GlacierHut$Hut" "settings" "[I", Cond.fieldLink RX1 49 "GlacierHut$Hut" "day" "I", Cond.fieldLink RX1 53 "GlacierHut$Hut" "flights" "I"]
def wsX3_run_r2 : List Cond := [Cond.fieldLink RX1 56 "GlacierHut$Hut" "hungry" "I", Cond.fieldLink RX1 59 "GlacierHut$Hut" "coldNights" "I", Cond.fieldLink RX1 62 "GlacierHut$Hut" "guestNights" "I", Cond.fieldLink RX1 65 "GlacierHut$Hut" "cutSuppers" "I", Cond.methodLink RX1 36 yX4_copyFrom, Cond.instanceMethod yX4_copyFrom, Cond.selects RX4 yX4_copyFrom yX4_copyFrom, Cond.initialized RX4, Cond.code yX4_copyFrom cX4_copyFrom 2 none, Cond.fieldLink RX4 9 "GlacierHut$Stores" "lotKind" "[I", Cond.methodLink RX4 37 arraycopyName, Cond.fieldLink RX4 13 "GlacierHut$Stores" "lotAmount" "[I", Cond.fieldLink RX4 16 "GlacierHut$Stores" "lotLast" "[I", Cond.fieldLink RX4 19 "GlacierHut$Stores" "palletKind" "[I", Cond.fieldLink RX4 22 "GlacierHut$Stores" "palletAmount" "[I", Cond.fieldLink RX4 25 "GlacierHut$Stores" "palletDays" "[I", Cond.fieldLink RX4 28 "GlacierHut$Stores" "brought" "[I", Cond.fieldLink RX4 31 "GlacierHut$Stores" "used" "[I", Cond.fieldLink RX4 34 "GlacierHut$Stores" "spoilt" "[I", Cond.fieldLink RX4 43 "GlacierHut$Stores" "lots" "I", Cond.fieldLink RX4 47 "GlacierHut$Stores" "onPallet" "I", Cond.methodLink RX1 40 yX2_copyFrom, Cond.instanceMethod yX2_copyFrom, Cond.selects RX2 yX2_copyFrom yX2_copyFrom]
def wsX3_run_r3 : List Cond := [Cond.initialized RX2, Cond.code yX2_copyFrom cX2_copyFrom 2 none, Cond.fieldLink RX2 9 "GlacierHut$Parties" "size" "[I", Cond.methodLink RX2 28 arraycopyName, Cond.fieldLink RX2 13 "GlacierHut$Parties" "day" "[I", Cond.fieldLink RX2 16 "GlacierHut$Parties" "nights" "[I", Cond.fieldLink RX2 19 "GlacierHut$Parties" "status" "[I", Cond.fieldLink RX2 22 "GlacierHut$Parties" "slept" "[I", Cond.fieldLink RX2 25 "GlacierHut$Parties" "came" "[I", Cond.fieldLink RX2 34 "GlacierHut$Parties" "number" "I", Cond.methodLink RX3 43 yX5_readCommand, Cond.instanceMethod yX5_readCommand, Cond.selects RX5 yX5_readCommand yX5_readCommand, Cond.initialized RX5, Cond.code yX5_readCommand cX5_readCommand 4 (some .boolean), Cond.fieldLink RX5 25 "GlacierHut$Text" "letter" "C", Cond.fieldLink RX5 29 "GlacierHut$Text" "next" "I", Cond.fieldLink RX5 13 "GlacierHut$Text" "numbers" "[I", Cond.methodLink RX5 21 yX5_at, Cond.instanceMethod yX5_at, Cond.selects RX5 yX5_at yX5_at, Cond.code yX5_at cX5_at 2 (some .char), Cond.fieldLink RX5 17 "GlacierHut$Text" "length" "I", Cond.fieldLink RX5 9 "GlacierHut$Text" "characters" "[C"]
def wsX3_run_r4 : List Cond := [Cond.methodLink RX5 32 yX5_numbersOf, Cond.instanceMethod yX5_numbersOf, Cond.selects RX5 yX5_numbersOf yX5_numbersOf, Cond.code yX5_numbersOf cX5_numbersOf 2 (some .int), Cond.methodLink RX5 36 yX5_passes, Cond.instanceMethod yX5_passes, Cond.selects RX5 yX5_passes yX5_passes, Cond.code yX5_passes cX5_passes 2 (some .boolean), Cond.methodLink RX5 40 yX5_readNumber, Cond.instanceMethod yX5_readNumber, Cond.selects RX5 yX5_readNumber yX5_readNumber, Cond.code yX5_readNumber cX5_readNumber 4 (some .int), Cond.methodLink RX5 44 Lib.Math.max.name, Cond.static Lib.Math.max.name, Cond.initialized "java/lang/Math", Cond.code Lib.Math.max.name Lib.Math.max.code 2 (some .int), Cond.methodLink RX3 55 yX3_obey, Cond.instanceMethod yX3_obey, Cond.selects RX3 yX3_obey yX3_obey, Cond.initialized RX3, Cond.code yX3_obey cX3_obey 3 (some .int), Cond.fieldLink RX3 18 "GlacierHut$Rehearsal" "trial" "LGlacierHut$Hut;", Cond.methodLink RX3 62 yX1_putOnPallet, Cond.instanceMethod yX1_putOnPallet]
def wsX3_run_r5 : List Cond := [Cond.selects RX1 yX1_putOnPallet yX1_putOnPallet, Cond.code yX1_putOnPallet cX1_putOnPallet 4 (some .int), Cond.fieldLink RX1 72 "GlacierHut$Stores" "onPallet" "I", Cond.methodLink RX1 68 yX4_isKind, Cond.static yX4_isKind, Cond.code yX4_isKind cX4_isKind 1 (some .boolean), Cond.methodLink RX1 75 yX4_addToPallet, Cond.instanceMethod yX4_addToPallet, Cond.selects RX4 yX4_addToPallet yX4_addToPallet, Cond.code yX4_addToPallet cX4_addToPallet 4 none, Cond.methodLink RX3 66 yX1_bringPallet, Cond.instanceMethod yX1_bringPallet, Cond.selects RX1 yX1_bringPallet yX1_bringPallet, Cond.code yX1_bringPallet cX1_bringPallet 2 (some .int), Cond.fieldLink RX1 83 "GlacierHut$Stores" "lots" "I", Cond.methodLink RX1 79 yX1_isStorm, Cond.instanceMethod yX1_isStorm, Cond.selects RX1 yX1_isStorm yX1_isStorm, Cond.code yX1_isStorm cX1_isStorm 1 (some .boolean), Cond.methodLink RX1 86 yX4_unloadPallet, Cond.instanceMethod yX4_unloadPallet, Cond.selects RX4 yX4_unloadPallet yX4_unloadPallet, Cond.code yX4_unloadPallet cX4_unloadPallet 3 none, Cond.methodLink RX4 50 yX4_addLot]
def wsX3_run_r6 : List Cond := [Cond.instanceMethod yX4_addLot, Cond.selects RX4 yX4_addLot yX4_addLot, Cond.code yX4_addLot cX4_addLot 5 none, Cond.methodLink RX4 54 yX4_isKind, Cond.methodLink RX3 70 yX1_takeBooking, Cond.instanceMethod yX1_takeBooking, Cond.selects RX1 yX1_takeBooking yX1_takeBooking, Cond.code yX1_takeBooking cX1_takeBooking 5 (some .int), Cond.fieldLink RX1 98 "GlacierHut$Parties" "number" "I", Cond.methodLink RX1 90 yX1_mayBeBooked, Cond.instanceMethod yX1_mayBeBooked, Cond.selects RX1 yX1_mayBeBooked yX1_mayBeBooked, Cond.code yX1_mayBeBooked cX1_mayBeBooked 4 (some .boolean), Cond.methodLink RX1 94 yX1_wouldSuffice, Cond.instanceMethod yX1_wouldSuffice, Cond.selects RX1 yX1_wouldSuffice yX1_wouldSuffice, Cond.code yX1_wouldSuffice cX1_wouldSuffice 6 (some .boolean), Cond.methodLink RX1 104 yX1_copyFrom, Cond.methodLink RX1 101 yX2_add, Cond.instanceMethod yX2_add, Cond.selects RX2 yX2_add yX2_add, Cond.code yX2_add cX2_add 4 none, Cond.methodLink RX1 107 yX2_anyAwaited, Cond.instanceMethod yX2_anyAwaited]
def wsX3_run_r7 : List Cond := [Cond.selects RX2 yX2_anyAwaited yX2_anyAwaited, Cond.code yX2_anyAwaited cX2_anyAwaited 2 (some .boolean), Cond.methodLink RX1 110 yX1_passNight, Cond.instanceMethod yX1_passNight, Cond.selects RX1 yX1_passNight yX1_passNight, Cond.code yX1_passNight cX1_passNight 9 (some .boolean), Cond.methodLink RX1 144 Lib.Math.min.name, Cond.static Lib.Math.min.name, Cond.code Lib.Math.min.name Lib.Math.min.code 2 (some .int), Cond.methodLink RX1 123 yX2_leave, Cond.instanceMethod yX2_leave, Cond.selects RX2 yX2_leave yX2_leave, Cond.code yX2_leave cX2_leave 2 none, Cond.methodLink RX1 126 yX2_guests, Cond.instanceMethod yX2_guests, Cond.selects RX2 yX2_guests yX2_guests, Cond.code yX2_guests cX2_guests 3 (some .int), Cond.methodLink RX1 130 yX2_arrive, Cond.instanceMethod yX2_arrive, Cond.selects RX2 yX2_arrive yX2_arrive, Cond.code yX2_arrive cX2_arrive 7 (some .boolean), Cond.methodLink RX1 134 yX4_stock, Cond.instanceMethod yX4_stock, Cond.selects RX4 yX4_stock yX4_stock]
def wsX3_run_r8 : List Cond := [Cond.code yX4_stock cX4_stock 4 (some .int), Cond.methodLink RX1 137 yX1_rationFor, Cond.instanceMethod yX1_rationFor, Cond.selects RX1 yX1_rationFor yX1_rationFor, Cond.code yX1_rationFor cX1_rationFor 4 (some .int), Cond.methodLink RX1 141 yX4_take, Cond.instanceMethod yX4_take, Cond.selects RX4 yX4_take yX4_take, Cond.code yX4_take cX4_take 7 (some .int), Cond.methodLink RX1 149 yX1_gasFor, Cond.instanceMethod yX1_gasFor, Cond.selects RX1 yX1_gasFor yX1_gasFor, Cond.code yX1_gasFor cX1_gasFor 3 (some .int), Cond.methodLink RX1 153 yX2_sleepOnce, Cond.instanceMethod yX2_sleepOnce, Cond.selects RX2 yX2_sleepOnce yX2_sleepOnce, Cond.code yX2_sleepOnce cX2_sleepOnce 2 none, Cond.methodLink RX1 156 yX4_spoil, Cond.instanceMethod yX4_spoil, Cond.selects RX4 yX4_spoil yX4_spoil, Cond.code yX4_spoil cX4_spoil 4 none, Cond.methodLink RX1 159 yX4_dropEmptyLots, Cond.instanceMethod yX4_dropEmptyLots, Cond.selects RX4 yX4_dropEmptyLots yX4_dropEmptyLots]
def wsX3_run_r9 : List Cond := [Cond.code yX4_dropEmptyLots cX4_dropEmptyLots 3 none, Cond.methodLink RX3 74 yX1_callOff, Cond.instanceMethod yX1_callOff, Cond.selects RX1 yX1_callOff yX1_callOff, Cond.code yX1_callOff cX1_callOff 2 (some .int), Cond.fieldLink RX1 116 "GlacierHut$Parties" "status" "[I", Cond.methodLink RX1 113 yX2_has, Cond.instanceMethod yX2_has, Cond.selects RX2 yX2_has yX2_has, Cond.code yX2_has cX2_has 2 (some .boolean), Cond.methodLink RX1 119 yX2_withStatus, Cond.instanceMethod yX2_withStatus, Cond.selects RX2 yX2_withStatus yX2_withStatus, Cond.code yX2_withStatus cX2_withStatus 4 (some .int), Cond.methodLink RX3 78 yX1_tellStorm, Cond.instanceMethod yX1_tellStorm, Cond.selects RX1 yX1_tellStorm yX1_tellStorm, Cond.code yX1_tellStorm cX1_tellStorm 6 (some .int), Cond.methodLink RX3 82 yX1_passNights, Cond.instanceMethod yX1_passNights, Cond.selects RX1 yX1_passNights yX1_passNights, Cond.code yX1_passNights cX1_passNights 4 (some .int)]
def wsX3_run : List Cond := .code yX3_run cX3_run 5 none :: ((wsX3_run_r1 ++ (wsX3_run_r2 ++ (wsX3_run_r3 ++ (wsX3_run_r4 ++ (wsX3_run_r5 ++ (wsX3_run_r6 ++ (wsX3_run_r7 ++ (wsX3_run_r8 ++ wsX3_run_r9)))))))) ++ wsX30 ++ wsX50 ++ wsX10 ++ wsX40 ++ wsX20)
def wsX4_find : List Cond := .code yX4_find cX4_find 5 (some .int) :: ([.fieldLink RX4 43 "GlacierHut$Stores" "lots" "I", .fieldLink RX4 9 "GlacierHut$Stores" "lotKind" "[I"] ++ wsX40)
def wsX4_lotsOfKind : List Cond := .code yX4_lotsOfKind cX4_lotsOfKind 4 (some .int) :: ([.fieldLink RX4 43 "GlacierHut$Stores" "lots" "I", .fieldLink RX4 9 "GlacierHut$Stores" "lotKind" "[I"] ++ wsX40)
def wsX4_amountOnPallet : List Cond := .code yX4_amountOnPallet cX4_amountOnPallet 4 (some .int) :: ([.fieldLink RX4 47 "GlacierHut$Stores" "onPallet" "I", .fieldLink RX4 19 "GlacierHut$Stores" "palletKind" "[I", .fieldLink RX4 22 "GlacierHut$Stores" "palletAmount" "[I"] ++ wsX40)
def wsX5_init : List Cond := .code yX5_init cX5_init 1 none :: ([.methodLink RX5 1 objectInit, .instanceMethod objectInit, .code objectInit ⟨#[0xb1]⟩ 1 none, .arrayClass .char, .fieldLink RX5 9 "GlacierHut$Text" "characters" "[C", .arrayClass .int, .fieldLink RX5 13 "GlacierHut$Text" "numbers" "[I"] ++ wsX50)
def wsX5_append : List Cond := .code yX5_append cX5_append 2 none :: ([.fieldLink RX5 17 "GlacierHut$Text" "length" "I", .fieldLink RX5 9 "GlacierHut$Text" "characters" "[C"] ++ wsX50)
def wsX6_init_r1 : List Cond := [Cond.methodLink RX6 1 objectInit, Cond.instanceMethod objectInit, Cond.code objectInit ⟨#[0xb1]⟩ 1 none, Cond.classLink RX6 7 RX1, Cond.instantiable RX1 10, Cond.initialized RX1, Cond.fieldLink RX6 10 "GlacierHut" "now" "LGlacierHut$Hut;", Cond.fieldLink RX6 16 "GlacierHut" "trial" "LGlacierHut$Hut;", Cond.fieldLink RX6 19 "GlacierHut" "snapshot" "LGlacierHut$Hut;", Cond.classLink RX6 22 RX0, Cond.instantiable RX0 2, Cond.initialized RX0, Cond.fieldLink RX6 25 "GlacierHut" "history" "LGlacierHut$History;", Cond.classLink RX6 29 RX5, Cond.instantiable RX5 5, Cond.initialized RX5, Cond.fieldLink RX6 32 "GlacierHut" "text" "LGlacierHut$Text;", Cond.classLink RX6 36 RX3, Cond.instantiable RX3 6, Cond.initialized RX3, Cond.fieldLink RX6 41 "GlacierHut" "rehearsal" "LGlacierHut$Rehearsal;", Cond.fieldLink RX6 45 "GlacierHut" "kept" "Z", Cond.methodLink RX6 9 yX1_init, Cond.instanceMethod yX1_init]
def wsX6_init_r2 : List Cond := [Cond.code yX1_init cX1_init 2 none, Cond.methodLink RX1 3 objectInit, Cond.classLink RX1 9 RX4, Cond.instantiable RX4 11, Cond.initialized RX4, Cond.fieldLink RX1 12 "GlacierHut$Hut" "stores" "LGlacierHut$Stores;", Cond.classLink RX1 18 RX2, Cond.instantiable RX2 7, Cond.initialized RX2, Cond.fieldLink RX1 21 "GlacierHut$Hut" "parties" "LGlacierHut$Parties;", Cond.arrayClass .boolean, Cond.fieldLink RX1 25 "GlacierHut$Hut" "storms" "[Z", Cond.arrayClass .int, Cond.fieldLink RX1 29 "GlacierHut$Hut" "settings" "[I", Cond.fieldLink RX1 33 "GlacierHut$Hut" "FIRST" "[I", Cond.methodLink RX1 11 yX4_init, Cond.instanceMethod yX4_init, Cond.code yX4_init cX4_init 1 none, Cond.methodLink RX4 1 objectInit, Cond.fieldLink RX4 9 "GlacierHut$Stores" "lotKind" "[I", Cond.fieldLink RX4 13 "GlacierHut$Stores" "lotAmount" "[I", Cond.fieldLink RX4 16 "GlacierHut$Stores" "lotLast" "[I", Cond.fieldLink RX4 19 "GlacierHut$Stores" "palletKind" "[I", Cond.fieldLink RX4 22 "GlacierHut$Stores" "palletAmount" "[I"]
def wsX6_init_r3 : List Cond := [Cond.fieldLink RX4 25 "GlacierHut$Stores" "palletDays" "[I", Cond.fieldLink RX4 28 "GlacierHut$Stores" "brought" "[I", Cond.fieldLink RX4 31 "GlacierHut$Stores" "used" "[I", Cond.fieldLink RX4 34 "GlacierHut$Stores" "spoilt" "[I", Cond.methodLink RX1 20 yX2_init, Cond.instanceMethod yX2_init, Cond.code yX2_init cX2_init 1 none, Cond.methodLink RX2 3 objectInit, Cond.fieldLink RX2 9 "GlacierHut$Parties" "size" "[I", Cond.fieldLink RX2 13 "GlacierHut$Parties" "day" "[I", Cond.fieldLink RX2 16 "GlacierHut$Parties" "nights" "[I", Cond.fieldLink RX2 19 "GlacierHut$Parties" "status" "[I", Cond.fieldLink RX2 22 "GlacierHut$Parties" "slept" "[I", Cond.fieldLink RX2 25 "GlacierHut$Parties" "came" "[I", Cond.methodLink RX6 24 yX0_init, Cond.instanceMethod yX0_init, Cond.code yX0_init cX0_init 2 none, Cond.methodLink RX0 1 objectInit, Cond.classLink RX0 9 RX1, Cond.fieldLink RX0 11 "GlacierHut$History" "states" "[LGlacierHut$Hut;", Cond.methodLink RX0 15 yX1_init, Cond.methodLink RX6 31 yX5_init, Cond.instanceMethod yX5_init, Cond.code yX5_init cX5_init 1 none]
def wsX6_init_r4 : List Cond := [Cond.methodLink RX5 1 objectInit, Cond.arrayClass .char, Cond.fieldLink RX5 9 "GlacierHut$Text" "characters" "[C", Cond.fieldLink RX5 13 "GlacierHut$Text" "numbers" "[I", Cond.methodLink RX6 38 yX3_init, Cond.instanceMethod yX3_init, Cond.code yX3_init cX3_init 2 none, Cond.methodLink RX3 3 objectInit, Cond.classLink RX3 9 RX1, Cond.fieldLink RX3 12 "GlacierHut$Rehearsal" "hut" "LGlacierHut$Hut;", Cond.fieldLink RX3 18 "GlacierHut$Rehearsal" "trial" "LGlacierHut$Hut;", Cond.methodLink RX3 11 yX1_init]
def wsX6_init : List Cond := .code yX6_init cX6_init 1 none :: ((wsX6_init_r1 ++ (wsX6_init_r2 ++ (wsX6_init_r3 ++ wsX6_init_r4))) ++ wsX10 ++ wsX60 ++ wsX00 ++ wsX50 ++ wsX30 ++ wsX40 ++ wsX20)
def wsX6_recorded : List Cond := .code yX6_recorded cX6_recorded 2 (some .int) :: ([.fieldLink RX6 25 "GlacierHut" "history" "LGlacierHut$History;", .methodLink RX6 241 yX0_commit, .instanceMethod yX0_commit, .selects RX0 yX0_commit yX0_commit, .initialized RX0, .code yX0_commit cX0_commit 3 none, .fieldLink RX0 16 "GlacierHut$History" "length" "I", .fieldLink RX0 11 "GlacierHut$History" "states" "[LGlacierHut$Hut;"] ++ wsX60 ++ wsX00)
def wsX6_load_r1 : List Cond := [Cond.fieldLink RX6 25 "GlacierHut" "history" "LGlacierHut$History;", Cond.fieldLink RX6 10 "GlacierHut" "now" "LGlacierHut$Hut;", Cond.methodLink RX6 49 yX0_prepare, Cond.instanceMethod yX0_prepare, Cond.selects RX0 yX0_prepare yX0_prepare, Cond.initialized RX0, Cond.code yX0_prepare cX0_prepare 3 none, Cond.fieldLink RX0 16 "GlacierHut$History" "length" "I", Cond.fieldLink RX0 11 "GlacierHut$History" "states" "[LGlacierHut$Hut;", Cond.methodLink RX0 20 yX1_copyFrom, Cond.instanceMethod yX1_copyFrom, Cond.selects RX1 yX1_copyFrom yX1_copyFrom, Cond.initialized RX1, Cond.code yX1_copyFrom cX1_copyFrom 2 none, Cond.fieldLink RX1 12 "GlacierHut$Hut" "stores" "LGlacierHut$Stores;", Cond.fieldLink RX1 21 "GlacierHut$Hut" "parties" "LGlacierHut$Parties;", Cond.fieldLink RX1 25 "GlacierHut$Hut" "storms" "[Z", Cond.methodLink RX1 43 arraycopyName, Cond.native arraycopyName, Cond.static arraycopyName, Cond.initialized "java/lang/System", Cond.fieldLink RX1 29 "GlacierHut$Hut" "settings" "[I", Cond.fieldLink RX1 49 "GlacierHut$Hut" "day" "I", Cond.fieldLink RX1 53 "GlacierHut$Hut" "flights" "I"]
def wsX6_load_r2 : List Cond := [Cond.fieldLink RX1 56 "GlacierHut$Hut" "hungry" "I", Cond.fieldLink RX1 59 "GlacierHut$Hut" "coldNights" "I", Cond.fieldLink RX1 62 "GlacierHut$Hut" "guestNights" "I", Cond.fieldLink RX1 65 "GlacierHut$Hut" "cutSuppers" "I", Cond.methodLink RX1 36 yX4_copyFrom, Cond.instanceMethod yX4_copyFrom, Cond.selects RX4 yX4_copyFrom yX4_copyFrom, Cond.initialized RX4, Cond.code yX4_copyFrom cX4_copyFrom 2 none, Cond.fieldLink RX4 9 "GlacierHut$Stores" "lotKind" "[I", Cond.methodLink RX4 37 arraycopyName, Cond.fieldLink RX4 13 "GlacierHut$Stores" "lotAmount" "[I", Cond.fieldLink RX4 16 "GlacierHut$Stores" "lotLast" "[I", Cond.fieldLink RX4 19 "GlacierHut$Stores" "palletKind" "[I", Cond.fieldLink RX4 22 "GlacierHut$Stores" "palletAmount" "[I", Cond.fieldLink RX4 25 "GlacierHut$Stores" "palletDays" "[I", Cond.fieldLink RX4 28 "GlacierHut$Stores" "brought" "[I", Cond.fieldLink RX4 31 "GlacierHut$Stores" "used" "[I", Cond.fieldLink RX4 34 "GlacierHut$Stores" "spoilt" "[I", Cond.fieldLink RX4 43 "GlacierHut$Stores" "lots" "I", Cond.fieldLink RX4 47 "GlacierHut$Stores" "onPallet" "I", Cond.methodLink RX1 40 yX2_copyFrom, Cond.instanceMethod yX2_copyFrom, Cond.selects RX2 yX2_copyFrom yX2_copyFrom]
def wsX6_load_r3 : List Cond := [Cond.initialized RX2, Cond.code yX2_copyFrom cX2_copyFrom 2 none, Cond.fieldLink RX2 9 "GlacierHut$Parties" "size" "[I", Cond.methodLink RX2 28 arraycopyName, Cond.fieldLink RX2 13 "GlacierHut$Parties" "day" "[I", Cond.fieldLink RX2 16 "GlacierHut$Parties" "nights" "[I", Cond.fieldLink RX2 19 "GlacierHut$Parties" "status" "[I", Cond.fieldLink RX2 22 "GlacierHut$Parties" "slept" "[I", Cond.fieldLink RX2 25 "GlacierHut$Parties" "came" "[I", Cond.fieldLink RX2 34 "GlacierHut$Parties" "number" "I", Cond.methodLink RX6 52 yX1_putOnPallet, Cond.instanceMethod yX1_putOnPallet, Cond.selects RX1 yX1_putOnPallet yX1_putOnPallet, Cond.code yX1_putOnPallet cX1_putOnPallet 4 (some .int), Cond.fieldLink RX1 72 "GlacierHut$Stores" "onPallet" "I", Cond.methodLink RX1 68 yX4_isKind, Cond.static yX4_isKind, Cond.code yX4_isKind cX4_isKind 1 (some .boolean), Cond.methodLink RX1 75 yX4_addToPallet, Cond.instanceMethod yX4_addToPallet, Cond.selects RX4 yX4_addToPallet yX4_addToPallet, Cond.code yX4_addToPallet cX4_addToPallet 4 none, Cond.methodLink RX6 56 yX6_recorded, Cond.instanceMethod yX6_recorded]
def wsX6_load_r4 : List Cond := [Cond.selects RX6 yX6_recorded yX6_recorded, Cond.initialized RX6, Cond.code yX6_recorded cX6_recorded 2 (some .int), Cond.methodLink RX6 241 yX0_commit, Cond.instanceMethod yX0_commit, Cond.selects RX0 yX0_commit yX0_commit, Cond.code yX0_commit cX0_commit 3 none]
def wsX6_load : List Cond := .code yX6_load cX6_load 4 (some .int) :: ((wsX6_load_r1 ++ (wsX6_load_r2 ++ (wsX6_load_r3 ++ wsX6_load_r4))) ++ wsX60 ++ wsX00 ++ wsX10 ++ wsX40 ++ wsX20)
def wsX6_fly_r1 : List Cond := [Cond.fieldLink RX6 25 "GlacierHut" "history" "LGlacierHut$History;", Cond.fieldLink RX6 10 "GlacierHut" "now" "LGlacierHut$Hut;", Cond.methodLink RX6 49 yX0_prepare, Cond.instanceMethod yX0_prepare, Cond.selects RX0 yX0_prepare yX0_prepare, Cond.initialized RX0, Cond.code yX0_prepare cX0_prepare 3 none, Cond.fieldLink RX0 16 "GlacierHut$History" "length" "I", Cond.fieldLink RX0 11 "GlacierHut$History" "states" "[LGlacierHut$Hut;", Cond.methodLink RX0 20 yX1_copyFrom, Cond.instanceMethod yX1_copyFrom, Cond.selects RX1 yX1_copyFrom yX1_copyFrom, Cond.initialized RX1, Cond.code yX1_copyFrom cX1_copyFrom 2 none, Cond.fieldLink RX1 12 "GlacierHut$Hut" "stores" "LGlacierHut$Stores;", Cond.fieldLink RX1 21 "GlacierHut$Hut" "parties" "LGlacierHut$Parties;", Cond.fieldLink RX1 25 "GlacierHut$Hut" "storms" "[Z", Cond.methodLink RX1 43 arraycopyName, Cond.native arraycopyName, Cond.static arraycopyName, Cond.initialized "java/lang/System", Cond.fieldLink RX1 29 "GlacierHut$Hut" "settings" "[I", Cond.fieldLink RX1 49 "GlacierHut$Hut" "day" "I", Cond.fieldLink RX1 53 "GlacierHut$Hut" "flights" "I"]
def wsX6_fly_r2 : List Cond := [Cond.fieldLink RX1 56 "GlacierHut$Hut" "hungry" "I", Cond.fieldLink RX1 59 "GlacierHut$Hut" "coldNights" "I", Cond.fieldLink RX1 62 "GlacierHut$Hut" "guestNights" "I", Cond.fieldLink RX1 65 "GlacierHut$Hut" "cutSuppers" "I", Cond.methodLink RX1 36 yX4_copyFrom, Cond.instanceMethod yX4_copyFrom, Cond.selects RX4 yX4_copyFrom yX4_copyFrom, Cond.initialized RX4, Cond.code yX4_copyFrom cX4_copyFrom 2 none, Cond.fieldLink RX4 9 "GlacierHut$Stores" "lotKind" "[I", Cond.methodLink RX4 37 arraycopyName, Cond.fieldLink RX4 13 "GlacierHut$Stores" "lotAmount" "[I", Cond.fieldLink RX4 16 "GlacierHut$Stores" "lotLast" "[I", Cond.fieldLink RX4 19 "GlacierHut$Stores" "palletKind" "[I", Cond.fieldLink RX4 22 "GlacierHut$Stores" "palletAmount" "[I", Cond.fieldLink RX4 25 "GlacierHut$Stores" "palletDays" "[I", Cond.fieldLink RX4 28 "GlacierHut$Stores" "brought" "[I", Cond.fieldLink RX4 31 "GlacierHut$Stores" "used" "[I", Cond.fieldLink RX4 34 "GlacierHut$Stores" "spoilt" "[I", Cond.fieldLink RX4 43 "GlacierHut$Stores" "lots" "I", Cond.fieldLink RX4 47 "GlacierHut$Stores" "onPallet" "I", Cond.methodLink RX1 40 yX2_copyFrom, Cond.instanceMethod yX2_copyFrom, Cond.selects RX2 yX2_copyFrom yX2_copyFrom]
def wsX6_fly_r3 : List Cond := [Cond.initialized RX2, Cond.code yX2_copyFrom cX2_copyFrom 2 none, Cond.fieldLink RX2 9 "GlacierHut$Parties" "size" "[I", Cond.methodLink RX2 28 arraycopyName, Cond.fieldLink RX2 13 "GlacierHut$Parties" "day" "[I", Cond.fieldLink RX2 16 "GlacierHut$Parties" "nights" "[I", Cond.fieldLink RX2 19 "GlacierHut$Parties" "status" "[I", Cond.fieldLink RX2 22 "GlacierHut$Parties" "slept" "[I", Cond.fieldLink RX2 25 "GlacierHut$Parties" "came" "[I", Cond.fieldLink RX2 34 "GlacierHut$Parties" "number" "I", Cond.methodLink RX6 60 yX1_bringPallet, Cond.instanceMethod yX1_bringPallet, Cond.selects RX1 yX1_bringPallet yX1_bringPallet, Cond.code yX1_bringPallet cX1_bringPallet 2 (some .int), Cond.fieldLink RX1 72 "GlacierHut$Stores" "onPallet" "I", Cond.fieldLink RX1 83 "GlacierHut$Stores" "lots" "I", Cond.methodLink RX1 79 yX1_isStorm, Cond.instanceMethod yX1_isStorm, Cond.selects RX1 yX1_isStorm yX1_isStorm, Cond.code yX1_isStorm cX1_isStorm 1 (some .boolean), Cond.methodLink RX1 86 yX4_unloadPallet, Cond.instanceMethod yX4_unloadPallet, Cond.selects RX4 yX4_unloadPallet yX4_unloadPallet, Cond.code yX4_unloadPallet cX4_unloadPallet 3 none]
def wsX6_fly_r4 : List Cond := [Cond.methodLink RX4 50 yX4_addLot, Cond.instanceMethod yX4_addLot, Cond.selects RX4 yX4_addLot yX4_addLot, Cond.code yX4_addLot cX4_addLot 5 none, Cond.methodLink RX4 54 yX4_isKind, Cond.static yX4_isKind, Cond.code yX4_isKind cX4_isKind 1 (some .boolean), Cond.methodLink RX6 56 yX6_recorded, Cond.instanceMethod yX6_recorded, Cond.selects RX6 yX6_recorded yX6_recorded, Cond.initialized RX6, Cond.code yX6_recorded cX6_recorded 2 (some .int), Cond.methodLink RX6 241 yX0_commit, Cond.instanceMethod yX0_commit, Cond.selects RX0 yX0_commit yX0_commit, Cond.code yX0_commit cX0_commit 3 none]
def wsX6_fly : List Cond := .code yX6_fly cX6_fly 1 (some .int) :: ((wsX6_fly_r1 ++ (wsX6_fly_r2 ++ (wsX6_fly_r3 ++ wsX6_fly_r4))) ++ wsX60 ++ wsX00 ++ wsX10 ++ wsX40 ++ wsX20)
def wsX6_book_r1 : List Cond := [Cond.fieldLink RX6 25 "GlacierHut" "history" "LGlacierHut$History;", Cond.fieldLink RX6 10 "GlacierHut" "now" "LGlacierHut$Hut;", Cond.fieldLink RX6 16 "GlacierHut" "trial" "LGlacierHut$Hut;", Cond.methodLink RX6 49 yX0_prepare, Cond.instanceMethod yX0_prepare, Cond.selects RX0 yX0_prepare yX0_prepare, Cond.initialized RX0, Cond.code yX0_prepare cX0_prepare 3 none, Cond.fieldLink RX0 16 "GlacierHut$History" "length" "I", Cond.fieldLink RX0 11 "GlacierHut$History" "states" "[LGlacierHut$Hut;", Cond.methodLink RX0 20 yX1_copyFrom, Cond.instanceMethod yX1_copyFrom, Cond.selects RX1 yX1_copyFrom yX1_copyFrom, Cond.initialized RX1, Cond.code yX1_copyFrom cX1_copyFrom 2 none, Cond.fieldLink RX1 12 "GlacierHut$Hut" "stores" "LGlacierHut$Stores;", Cond.fieldLink RX1 21 "GlacierHut$Hut" "parties" "LGlacierHut$Parties;", Cond.fieldLink RX1 25 "GlacierHut$Hut" "storms" "[Z", Cond.methodLink RX1 43 arraycopyName, Cond.native arraycopyName, Cond.static arraycopyName, Cond.initialized "java/lang/System", Cond.fieldLink RX1 29 "GlacierHut$Hut" "settings" "[I", Cond.fieldLink RX1 49 "GlacierHut$Hut" "day" "I"]
def wsX6_book_r2 : List Cond := [Cond.fieldLink RX1 53 "GlacierHut$Hut" "flights" "I", Cond.fieldLink RX1 56 "GlacierHut$Hut" "hungry" "I", Cond.fieldLink RX1 59 "GlacierHut$Hut" "coldNights" "I", Cond.fieldLink RX1 62 "GlacierHut$Hut" "guestNights" "I", Cond.fieldLink RX1 65 "GlacierHut$Hut" "cutSuppers" "I", Cond.methodLink RX1 36 yX4_copyFrom, Cond.instanceMethod yX4_copyFrom, Cond.selects RX4 yX4_copyFrom yX4_copyFrom, Cond.initialized RX4, Cond.code yX4_copyFrom cX4_copyFrom 2 none, Cond.fieldLink RX4 9 "GlacierHut$Stores" "lotKind" "[I", Cond.methodLink RX4 37 arraycopyName, Cond.fieldLink RX4 13 "GlacierHut$Stores" "lotAmount" "[I", Cond.fieldLink RX4 16 "GlacierHut$Stores" "lotLast" "[I", Cond.fieldLink RX4 19 "GlacierHut$Stores" "palletKind" "[I", Cond.fieldLink RX4 22 "GlacierHut$Stores" "palletAmount" "[I", Cond.fieldLink RX4 25 "GlacierHut$Stores" "palletDays" "[I", Cond.fieldLink RX4 28 "GlacierHut$Stores" "brought" "[I", Cond.fieldLink RX4 31 "GlacierHut$Stores" "used" "[I", Cond.fieldLink RX4 34 "GlacierHut$Stores" "spoilt" "[I", Cond.fieldLink RX4 43 "GlacierHut$Stores" "lots" "I", Cond.fieldLink RX4 47 "GlacierHut$Stores" "onPallet" "I", Cond.methodLink RX1 40 yX2_copyFrom, Cond.instanceMethod yX2_copyFrom]
def wsX6_book_r3 : List Cond := [Cond.selects RX2 yX2_copyFrom yX2_copyFrom, Cond.initialized RX2, Cond.code yX2_copyFrom cX2_copyFrom 2 none, Cond.fieldLink RX2 9 "GlacierHut$Parties" "size" "[I", Cond.methodLink RX2 28 arraycopyName, Cond.fieldLink RX2 13 "GlacierHut$Parties" "day" "[I", Cond.fieldLink RX2 16 "GlacierHut$Parties" "nights" "[I", Cond.fieldLink RX2 19 "GlacierHut$Parties" "status" "[I", Cond.fieldLink RX2 22 "GlacierHut$Parties" "slept" "[I", Cond.fieldLink RX2 25 "GlacierHut$Parties" "came" "[I", Cond.fieldLink RX2 34 "GlacierHut$Parties" "number" "I", Cond.methodLink RX6 64 yX1_takeBooking, Cond.instanceMethod yX1_takeBooking, Cond.selects RX1 yX1_takeBooking yX1_takeBooking, Cond.code yX1_takeBooking cX1_takeBooking 5 (some .int), Cond.fieldLink RX1 98 "GlacierHut$Parties" "number" "I", Cond.methodLink RX1 90 yX1_mayBeBooked, Cond.instanceMethod yX1_mayBeBooked, Cond.selects RX1 yX1_mayBeBooked yX1_mayBeBooked, Cond.code yX1_mayBeBooked cX1_mayBeBooked 4 (some .boolean), Cond.methodLink RX1 94 yX1_wouldSuffice, Cond.instanceMethod yX1_wouldSuffice, Cond.selects RX1 yX1_wouldSuffice yX1_wouldSuffice, Cond.code yX1_wouldSuffice cX1_wouldSuffice 6 (some .boolean)]
def wsX6_book_r4 : List Cond := [Cond.methodLink RX1 104 yX1_copyFrom, Cond.methodLink RX1 101 yX2_add, Cond.instanceMethod yX2_add, Cond.selects RX2 yX2_add yX2_add, Cond.code yX2_add cX2_add 4 none, Cond.methodLink RX1 107 yX2_anyAwaited, Cond.instanceMethod yX2_anyAwaited, Cond.selects RX2 yX2_anyAwaited yX2_anyAwaited, Cond.code yX2_anyAwaited cX2_anyAwaited 2 (some .boolean), Cond.methodLink RX1 110 yX1_passNight, Cond.instanceMethod yX1_passNight, Cond.selects RX1 yX1_passNight yX1_passNight, Cond.code yX1_passNight cX1_passNight 9 (some .boolean), Cond.methodLink RX1 144 Lib.Math.min.name, Cond.static Lib.Math.min.name, Cond.initialized "java/lang/Math", Cond.code Lib.Math.min.name Lib.Math.min.code 2 (some .int), Cond.methodLink RX1 79 yX1_isStorm, Cond.instanceMethod yX1_isStorm, Cond.selects RX1 yX1_isStorm yX1_isStorm, Cond.code yX1_isStorm cX1_isStorm 1 (some .boolean), Cond.methodLink RX1 123 yX2_leave, Cond.instanceMethod yX2_leave, Cond.selects RX2 yX2_leave yX2_leave]
def wsX6_book_r5 : List Cond := [Cond.code yX2_leave cX2_leave 2 none, Cond.methodLink RX1 126 yX2_guests, Cond.instanceMethod yX2_guests, Cond.selects RX2 yX2_guests yX2_guests, Cond.code yX2_guests cX2_guests 3 (some .int), Cond.methodLink RX1 130 yX2_arrive, Cond.instanceMethod yX2_arrive, Cond.selects RX2 yX2_arrive yX2_arrive, Cond.code yX2_arrive cX2_arrive 7 (some .boolean), Cond.methodLink RX1 134 yX4_stock, Cond.instanceMethod yX4_stock, Cond.selects RX4 yX4_stock yX4_stock, Cond.code yX4_stock cX4_stock 4 (some .int), Cond.methodLink RX1 137 yX1_rationFor, Cond.instanceMethod yX1_rationFor, Cond.selects RX1 yX1_rationFor yX1_rationFor, Cond.code yX1_rationFor cX1_rationFor 4 (some .int), Cond.methodLink RX1 141 yX4_take, Cond.instanceMethod yX4_take, Cond.selects RX4 yX4_take yX4_take, Cond.code yX4_take cX4_take 7 (some .int), Cond.methodLink RX1 149 yX1_gasFor, Cond.instanceMethod yX1_gasFor, Cond.selects RX1 yX1_gasFor yX1_gasFor]
def wsX6_book_r6 : List Cond := [Cond.code yX1_gasFor cX1_gasFor 3 (some .int), Cond.methodLink RX1 153 yX2_sleepOnce, Cond.instanceMethod yX2_sleepOnce, Cond.selects RX2 yX2_sleepOnce yX2_sleepOnce, Cond.code yX2_sleepOnce cX2_sleepOnce 2 none, Cond.methodLink RX1 156 yX4_spoil, Cond.instanceMethod yX4_spoil, Cond.selects RX4 yX4_spoil yX4_spoil, Cond.code yX4_spoil cX4_spoil 4 none, Cond.methodLink RX1 159 yX4_dropEmptyLots, Cond.instanceMethod yX4_dropEmptyLots, Cond.selects RX4 yX4_dropEmptyLots yX4_dropEmptyLots, Cond.code yX4_dropEmptyLots cX4_dropEmptyLots 3 none, Cond.methodLink RX6 56 yX6_recorded, Cond.instanceMethod yX6_recorded, Cond.selects RX6 yX6_recorded yX6_recorded, Cond.initialized RX6, Cond.code yX6_recorded cX6_recorded 2 (some .int), Cond.methodLink RX6 241 yX0_commit, Cond.instanceMethod yX0_commit, Cond.selects RX0 yX0_commit yX0_commit, Cond.code yX0_commit cX0_commit 3 none]
def wsX6_book : List Cond := .code yX6_book cX6_book 4 (some .int) :: ((wsX6_book_r1 ++ (wsX6_book_r2 ++ (wsX6_book_r3 ++ (wsX6_book_r4 ++ (wsX6_book_r5 ++ wsX6_book_r6))))) ++ wsX60 ++ wsX00 ++ wsX10 ++ wsX40 ++ wsX20)
def wsX6_cancel_r1 : List Cond := [Cond.fieldLink RX6 25 "GlacierHut" "history" "LGlacierHut$History;", Cond.fieldLink RX6 10 "GlacierHut" "now" "LGlacierHut$Hut;", Cond.methodLink RX6 49 yX0_prepare, Cond.instanceMethod yX0_prepare, Cond.selects RX0 yX0_prepare yX0_prepare, Cond.initialized RX0, Cond.code yX0_prepare cX0_prepare 3 none, Cond.fieldLink RX0 16 "GlacierHut$History" "length" "I", Cond.fieldLink RX0 11 "GlacierHut$History" "states" "[LGlacierHut$Hut;", Cond.methodLink RX0 20 yX1_copyFrom, Cond.instanceMethod yX1_copyFrom, Cond.selects RX1 yX1_copyFrom yX1_copyFrom, Cond.initialized RX1, Cond.code yX1_copyFrom cX1_copyFrom 2 none, Cond.fieldLink RX1 12 "GlacierHut$Hut" "stores" "LGlacierHut$Stores;", Cond.fieldLink RX1 21 "GlacierHut$Hut" "parties" "LGlacierHut$Parties;", Cond.fieldLink RX1 25 "GlacierHut$Hut" "storms" "[Z", Cond.methodLink RX1 43 arraycopyName, Cond.native arraycopyName, Cond.static arraycopyName, Cond.initialized "java/lang/System", Cond.fieldLink RX1 29 "GlacierHut$Hut" "settings" "[I", Cond.fieldLink RX1 49 "GlacierHut$Hut" "day" "I", Cond.fieldLink RX1 53 "GlacierHut$Hut" "flights" "I"]
def wsX6_cancel_r2 : List Cond := [Cond.fieldLink RX1 56 "GlacierHut$Hut" "hungry" "I", Cond.fieldLink RX1 59 "GlacierHut$Hut" "coldNights" "I", Cond.fieldLink RX1 62 "GlacierHut$Hut" "guestNights" "I", Cond.fieldLink RX1 65 "GlacierHut$Hut" "cutSuppers" "I", Cond.methodLink RX1 36 yX4_copyFrom, Cond.instanceMethod yX4_copyFrom, Cond.selects RX4 yX4_copyFrom yX4_copyFrom, Cond.initialized RX4, Cond.code yX4_copyFrom cX4_copyFrom 2 none, Cond.fieldLink RX4 9 "GlacierHut$Stores" "lotKind" "[I", Cond.methodLink RX4 37 arraycopyName, Cond.fieldLink RX4 13 "GlacierHut$Stores" "lotAmount" "[I", Cond.fieldLink RX4 16 "GlacierHut$Stores" "lotLast" "[I", Cond.fieldLink RX4 19 "GlacierHut$Stores" "palletKind" "[I", Cond.fieldLink RX4 22 "GlacierHut$Stores" "palletAmount" "[I", Cond.fieldLink RX4 25 "GlacierHut$Stores" "palletDays" "[I", Cond.fieldLink RX4 28 "GlacierHut$Stores" "brought" "[I", Cond.fieldLink RX4 31 "GlacierHut$Stores" "used" "[I", Cond.fieldLink RX4 34 "GlacierHut$Stores" "spoilt" "[I", Cond.fieldLink RX4 43 "GlacierHut$Stores" "lots" "I", Cond.fieldLink RX4 47 "GlacierHut$Stores" "onPallet" "I", Cond.methodLink RX1 40 yX2_copyFrom, Cond.instanceMethod yX2_copyFrom, Cond.selects RX2 yX2_copyFrom yX2_copyFrom]
def wsX6_cancel_r3 : List Cond := [Cond.initialized RX2, Cond.code yX2_copyFrom cX2_copyFrom 2 none, Cond.fieldLink RX2 9 "GlacierHut$Parties" "size" "[I", Cond.methodLink RX2 28 arraycopyName, Cond.fieldLink RX2 13 "GlacierHut$Parties" "day" "[I", Cond.fieldLink RX2 16 "GlacierHut$Parties" "nights" "[I", Cond.fieldLink RX2 19 "GlacierHut$Parties" "status" "[I", Cond.fieldLink RX2 22 "GlacierHut$Parties" "slept" "[I", Cond.fieldLink RX2 25 "GlacierHut$Parties" "came" "[I", Cond.fieldLink RX2 34 "GlacierHut$Parties" "number" "I", Cond.methodLink RX6 68 yX1_callOff, Cond.instanceMethod yX1_callOff, Cond.selects RX1 yX1_callOff yX1_callOff, Cond.code yX1_callOff cX1_callOff 2 (some .int), Cond.fieldLink RX1 116 "GlacierHut$Parties" "status" "[I", Cond.methodLink RX1 113 yX2_has, Cond.instanceMethod yX2_has, Cond.selects RX2 yX2_has yX2_has, Cond.code yX2_has cX2_has 2 (some .boolean), Cond.methodLink RX1 119 yX2_withStatus, Cond.instanceMethod yX2_withStatus, Cond.selects RX2 yX2_withStatus yX2_withStatus, Cond.code yX2_withStatus cX2_withStatus 4 (some .int), Cond.methodLink RX6 56 yX6_recorded]
def wsX6_cancel_r4 : List Cond := [Cond.instanceMethod yX6_recorded, Cond.selects RX6 yX6_recorded yX6_recorded, Cond.initialized RX6, Cond.code yX6_recorded cX6_recorded 2 (some .int), Cond.methodLink RX6 241 yX0_commit, Cond.instanceMethod yX0_commit, Cond.selects RX0 yX0_commit yX0_commit, Cond.code yX0_commit cX0_commit 3 none]
def wsX6_cancel : List Cond := .code yX6_cancel cX6_cancel 2 (some .int) :: ((wsX6_cancel_r1 ++ (wsX6_cancel_r2 ++ (wsX6_cancel_r3 ++ wsX6_cancel_r4))) ++ wsX60 ++ wsX00 ++ wsX10 ++ wsX40 ++ wsX20)
def wsX6_storm_r1 : List Cond := [Cond.fieldLink RX6 25 "GlacierHut" "history" "LGlacierHut$History;", Cond.fieldLink RX6 10 "GlacierHut" "now" "LGlacierHut$Hut;", Cond.methodLink RX6 49 yX0_prepare, Cond.instanceMethod yX0_prepare, Cond.selects RX0 yX0_prepare yX0_prepare, Cond.initialized RX0, Cond.code yX0_prepare cX0_prepare 3 none, Cond.fieldLink RX0 16 "GlacierHut$History" "length" "I", Cond.fieldLink RX0 11 "GlacierHut$History" "states" "[LGlacierHut$Hut;", Cond.methodLink RX0 20 yX1_copyFrom, Cond.instanceMethod yX1_copyFrom, Cond.selects RX1 yX1_copyFrom yX1_copyFrom, Cond.initialized RX1, Cond.code yX1_copyFrom cX1_copyFrom 2 none, Cond.fieldLink RX1 12 "GlacierHut$Hut" "stores" "LGlacierHut$Stores;", Cond.fieldLink RX1 21 "GlacierHut$Hut" "parties" "LGlacierHut$Parties;", Cond.fieldLink RX1 25 "GlacierHut$Hut" "storms" "[Z", Cond.methodLink RX1 43 arraycopyName, Cond.native arraycopyName, Cond.static arraycopyName, Cond.initialized "java/lang/System", Cond.fieldLink RX1 29 "GlacierHut$Hut" "settings" "[I", Cond.fieldLink RX1 49 "GlacierHut$Hut" "day" "I", Cond.fieldLink RX1 53 "GlacierHut$Hut" "flights" "I"]
def wsX6_storm_r2 : List Cond := [Cond.fieldLink RX1 56 "GlacierHut$Hut" "hungry" "I", Cond.fieldLink RX1 59 "GlacierHut$Hut" "coldNights" "I", Cond.fieldLink RX1 62 "GlacierHut$Hut" "guestNights" "I", Cond.fieldLink RX1 65 "GlacierHut$Hut" "cutSuppers" "I", Cond.methodLink RX1 36 yX4_copyFrom, Cond.instanceMethod yX4_copyFrom, Cond.selects RX4 yX4_copyFrom yX4_copyFrom, Cond.initialized RX4, Cond.code yX4_copyFrom cX4_copyFrom 2 none, Cond.fieldLink RX4 9 "GlacierHut$Stores" "lotKind" "[I", Cond.methodLink RX4 37 arraycopyName, Cond.fieldLink RX4 13 "GlacierHut$Stores" "lotAmount" "[I", Cond.fieldLink RX4 16 "GlacierHut$Stores" "lotLast" "[I", Cond.fieldLink RX4 19 "GlacierHut$Stores" "palletKind" "[I", Cond.fieldLink RX4 22 "GlacierHut$Stores" "palletAmount" "[I", Cond.fieldLink RX4 25 "GlacierHut$Stores" "palletDays" "[I", Cond.fieldLink RX4 28 "GlacierHut$Stores" "brought" "[I", Cond.fieldLink RX4 31 "GlacierHut$Stores" "used" "[I", Cond.fieldLink RX4 34 "GlacierHut$Stores" "spoilt" "[I", Cond.fieldLink RX4 43 "GlacierHut$Stores" "lots" "I", Cond.fieldLink RX4 47 "GlacierHut$Stores" "onPallet" "I", Cond.methodLink RX1 40 yX2_copyFrom, Cond.instanceMethod yX2_copyFrom, Cond.selects RX2 yX2_copyFrom yX2_copyFrom]
def wsX6_storm_r3 : List Cond := [Cond.initialized RX2, Cond.code yX2_copyFrom cX2_copyFrom 2 none, Cond.fieldLink RX2 9 "GlacierHut$Parties" "size" "[I", Cond.methodLink RX2 28 arraycopyName, Cond.fieldLink RX2 13 "GlacierHut$Parties" "day" "[I", Cond.fieldLink RX2 16 "GlacierHut$Parties" "nights" "[I", Cond.fieldLink RX2 19 "GlacierHut$Parties" "status" "[I", Cond.fieldLink RX2 22 "GlacierHut$Parties" "slept" "[I", Cond.fieldLink RX2 25 "GlacierHut$Parties" "came" "[I", Cond.fieldLink RX2 34 "GlacierHut$Parties" "number" "I", Cond.methodLink RX6 71 yX1_tellStorm, Cond.instanceMethod yX1_tellStorm, Cond.selects RX1 yX1_tellStorm yX1_tellStorm, Cond.code yX1_tellStorm cX1_tellStorm 6 (some .int), Cond.methodLink RX6 56 yX6_recorded, Cond.instanceMethod yX6_recorded, Cond.selects RX6 yX6_recorded yX6_recorded, Cond.initialized RX6, Cond.code yX6_recorded cX6_recorded 2 (some .int), Cond.methodLink RX6 241 yX0_commit, Cond.instanceMethod yX0_commit, Cond.selects RX0 yX0_commit yX0_commit, Cond.code yX0_commit cX0_commit 3 none]
def wsX6_storm : List Cond := .code yX6_storm cX6_storm 3 (some .int) :: ((wsX6_storm_r1 ++ (wsX6_storm_r2 ++ wsX6_storm_r3)) ++ wsX60 ++ wsX00 ++ wsX10 ++ wsX40 ++ wsX20)
def wsX6_clear_r1 : List Cond := [Cond.fieldLink RX6 25 "GlacierHut" "history" "LGlacierHut$History;", Cond.fieldLink RX6 10 "GlacierHut" "now" "LGlacierHut$Hut;", Cond.methodLink RX6 49 yX0_prepare, Cond.instanceMethod yX0_prepare, Cond.selects RX0 yX0_prepare yX0_prepare, Cond.initialized RX0, Cond.code yX0_prepare cX0_prepare 3 none, Cond.fieldLink RX0 16 "GlacierHut$History" "length" "I", Cond.fieldLink RX0 11 "GlacierHut$History" "states" "[LGlacierHut$Hut;", Cond.methodLink RX0 20 yX1_copyFrom, Cond.instanceMethod yX1_copyFrom, Cond.selects RX1 yX1_copyFrom yX1_copyFrom, Cond.initialized RX1, Cond.code yX1_copyFrom cX1_copyFrom 2 none, Cond.fieldLink RX1 12 "GlacierHut$Hut" "stores" "LGlacierHut$Stores;", Cond.fieldLink RX1 21 "GlacierHut$Hut" "parties" "LGlacierHut$Parties;", Cond.fieldLink RX1 25 "GlacierHut$Hut" "storms" "[Z", Cond.methodLink RX1 43 arraycopyName, Cond.native arraycopyName, Cond.static arraycopyName, Cond.initialized "java/lang/System", Cond.fieldLink RX1 29 "GlacierHut$Hut" "settings" "[I", Cond.fieldLink RX1 49 "GlacierHut$Hut" "day" "I", Cond.fieldLink RX1 53 "GlacierHut$Hut" "flights" "I"]
def wsX6_clear_r2 : List Cond := [Cond.fieldLink RX1 56 "GlacierHut$Hut" "hungry" "I", Cond.fieldLink RX1 59 "GlacierHut$Hut" "coldNights" "I", Cond.fieldLink RX1 62 "GlacierHut$Hut" "guestNights" "I", Cond.fieldLink RX1 65 "GlacierHut$Hut" "cutSuppers" "I", Cond.methodLink RX1 36 yX4_copyFrom, Cond.instanceMethod yX4_copyFrom, Cond.selects RX4 yX4_copyFrom yX4_copyFrom, Cond.initialized RX4, Cond.code yX4_copyFrom cX4_copyFrom 2 none, Cond.fieldLink RX4 9 "GlacierHut$Stores" "lotKind" "[I", Cond.methodLink RX4 37 arraycopyName, Cond.fieldLink RX4 13 "GlacierHut$Stores" "lotAmount" "[I", Cond.fieldLink RX4 16 "GlacierHut$Stores" "lotLast" "[I", Cond.fieldLink RX4 19 "GlacierHut$Stores" "palletKind" "[I", Cond.fieldLink RX4 22 "GlacierHut$Stores" "palletAmount" "[I", Cond.fieldLink RX4 25 "GlacierHut$Stores" "palletDays" "[I", Cond.fieldLink RX4 28 "GlacierHut$Stores" "brought" "[I", Cond.fieldLink RX4 31 "GlacierHut$Stores" "used" "[I", Cond.fieldLink RX4 34 "GlacierHut$Stores" "spoilt" "[I", Cond.fieldLink RX4 43 "GlacierHut$Stores" "lots" "I", Cond.fieldLink RX4 47 "GlacierHut$Stores" "onPallet" "I", Cond.methodLink RX1 40 yX2_copyFrom, Cond.instanceMethod yX2_copyFrom, Cond.selects RX2 yX2_copyFrom yX2_copyFrom]
def wsX6_clear_r3 : List Cond := [Cond.initialized RX2, Cond.code yX2_copyFrom cX2_copyFrom 2 none, Cond.fieldLink RX2 9 "GlacierHut$Parties" "size" "[I", Cond.methodLink RX2 28 arraycopyName, Cond.fieldLink RX2 13 "GlacierHut$Parties" "day" "[I", Cond.fieldLink RX2 16 "GlacierHut$Parties" "nights" "[I", Cond.fieldLink RX2 19 "GlacierHut$Parties" "status" "[I", Cond.fieldLink RX2 22 "GlacierHut$Parties" "slept" "[I", Cond.fieldLink RX2 25 "GlacierHut$Parties" "came" "[I", Cond.fieldLink RX2 34 "GlacierHut$Parties" "number" "I", Cond.methodLink RX6 75 yX1_tellCalm, Cond.instanceMethod yX1_tellCalm, Cond.selects RX1 yX1_tellCalm yX1_tellCalm, Cond.code yX1_tellCalm cX1_tellCalm 3 (some .int), Cond.methodLink RX6 56 yX6_recorded, Cond.instanceMethod yX6_recorded, Cond.selects RX6 yX6_recorded yX6_recorded, Cond.initialized RX6, Cond.code yX6_recorded cX6_recorded 2 (some .int), Cond.methodLink RX6 241 yX0_commit, Cond.instanceMethod yX0_commit, Cond.selects RX0 yX0_commit yX0_commit, Cond.code yX0_commit cX0_commit 3 none]
def wsX6_clear : List Cond := .code yX6_clear cX6_clear 2 (some .int) :: ((wsX6_clear_r1 ++ (wsX6_clear_r2 ++ wsX6_clear_r3)) ++ wsX60 ++ wsX00 ++ wsX10 ++ wsX40 ++ wsX20)
def wsX6_sleep_r1 : List Cond := [Cond.fieldLink RX6 25 "GlacierHut" "history" "LGlacierHut$History;", Cond.fieldLink RX6 10 "GlacierHut" "now" "LGlacierHut$Hut;", Cond.methodLink RX6 49 yX0_prepare, Cond.instanceMethod yX0_prepare, Cond.selects RX0 yX0_prepare yX0_prepare, Cond.initialized RX0, Cond.code yX0_prepare cX0_prepare 3 none, Cond.fieldLink RX0 16 "GlacierHut$History" "length" "I", Cond.fieldLink RX0 11 "GlacierHut$History" "states" "[LGlacierHut$Hut;", Cond.methodLink RX0 20 yX1_copyFrom, Cond.instanceMethod yX1_copyFrom, Cond.selects RX1 yX1_copyFrom yX1_copyFrom, Cond.initialized RX1, Cond.code yX1_copyFrom cX1_copyFrom 2 none, Cond.fieldLink RX1 12 "GlacierHut$Hut" "stores" "LGlacierHut$Stores;", Cond.fieldLink RX1 21 "GlacierHut$Hut" "parties" "LGlacierHut$Parties;", Cond.fieldLink RX1 25 "GlacierHut$Hut" "storms" "[Z", Cond.methodLink RX1 43 arraycopyName, Cond.native arraycopyName, Cond.static arraycopyName, Cond.initialized "java/lang/System", Cond.fieldLink RX1 29 "GlacierHut$Hut" "settings" "[I", Cond.fieldLink RX1 49 "GlacierHut$Hut" "day" "I", Cond.fieldLink RX1 53 "GlacierHut$Hut" "flights" "I"]
def wsX6_sleep_r2 : List Cond := [Cond.fieldLink RX1 56 "GlacierHut$Hut" "hungry" "I", Cond.fieldLink RX1 59 "GlacierHut$Hut" "coldNights" "I", Cond.fieldLink RX1 62 "GlacierHut$Hut" "guestNights" "I", Cond.fieldLink RX1 65 "GlacierHut$Hut" "cutSuppers" "I", Cond.methodLink RX1 36 yX4_copyFrom, Cond.instanceMethod yX4_copyFrom, Cond.selects RX4 yX4_copyFrom yX4_copyFrom, Cond.initialized RX4, Cond.code yX4_copyFrom cX4_copyFrom 2 none, Cond.fieldLink RX4 9 "GlacierHut$Stores" "lotKind" "[I", Cond.methodLink RX4 37 arraycopyName, Cond.fieldLink RX4 13 "GlacierHut$Stores" "lotAmount" "[I", Cond.fieldLink RX4 16 "GlacierHut$Stores" "lotLast" "[I", Cond.fieldLink RX4 19 "GlacierHut$Stores" "palletKind" "[I", Cond.fieldLink RX4 22 "GlacierHut$Stores" "palletAmount" "[I", Cond.fieldLink RX4 25 "GlacierHut$Stores" "palletDays" "[I", Cond.fieldLink RX4 28 "GlacierHut$Stores" "brought" "[I", Cond.fieldLink RX4 31 "GlacierHut$Stores" "used" "[I", Cond.fieldLink RX4 34 "GlacierHut$Stores" "spoilt" "[I", Cond.fieldLink RX4 43 "GlacierHut$Stores" "lots" "I", Cond.fieldLink RX4 47 "GlacierHut$Stores" "onPallet" "I", Cond.methodLink RX1 40 yX2_copyFrom, Cond.instanceMethod yX2_copyFrom, Cond.selects RX2 yX2_copyFrom yX2_copyFrom]
def wsX6_sleep_r3 : List Cond := [Cond.initialized RX2, Cond.code yX2_copyFrom cX2_copyFrom 2 none, Cond.fieldLink RX2 9 "GlacierHut$Parties" "size" "[I", Cond.methodLink RX2 28 arraycopyName, Cond.fieldLink RX2 13 "GlacierHut$Parties" "day" "[I", Cond.fieldLink RX2 16 "GlacierHut$Parties" "nights" "[I", Cond.fieldLink RX2 19 "GlacierHut$Parties" "status" "[I", Cond.fieldLink RX2 22 "GlacierHut$Parties" "slept" "[I", Cond.fieldLink RX2 25 "GlacierHut$Parties" "came" "[I", Cond.fieldLink RX2 34 "GlacierHut$Parties" "number" "I", Cond.methodLink RX6 78 yX1_passNights, Cond.instanceMethod yX1_passNights, Cond.selects RX1 yX1_passNights yX1_passNights, Cond.code yX1_passNights cX1_passNights 4 (some .int), Cond.methodLink RX1 110 yX1_passNight, Cond.instanceMethod yX1_passNight, Cond.selects RX1 yX1_passNight yX1_passNight, Cond.code yX1_passNight cX1_passNight 9 (some .boolean), Cond.methodLink RX1 144 Lib.Math.min.name, Cond.static Lib.Math.min.name, Cond.initialized "java/lang/Math", Cond.code Lib.Math.min.name Lib.Math.min.code 2 (some .int), Cond.methodLink RX1 79 yX1_isStorm, Cond.instanceMethod yX1_isStorm]
def wsX6_sleep_r4 : List Cond := [Cond.selects RX1 yX1_isStorm yX1_isStorm, Cond.code yX1_isStorm cX1_isStorm 1 (some .boolean), Cond.methodLink RX1 123 yX2_leave, Cond.instanceMethod yX2_leave, Cond.selects RX2 yX2_leave yX2_leave, Cond.code yX2_leave cX2_leave 2 none, Cond.methodLink RX1 126 yX2_guests, Cond.instanceMethod yX2_guests, Cond.selects RX2 yX2_guests yX2_guests, Cond.code yX2_guests cX2_guests 3 (some .int), Cond.methodLink RX1 130 yX2_arrive, Cond.instanceMethod yX2_arrive, Cond.selects RX2 yX2_arrive yX2_arrive, Cond.code yX2_arrive cX2_arrive 7 (some .boolean), Cond.methodLink RX1 134 yX4_stock, Cond.instanceMethod yX4_stock, Cond.selects RX4 yX4_stock yX4_stock, Cond.code yX4_stock cX4_stock 4 (some .int), Cond.methodLink RX1 137 yX1_rationFor, Cond.instanceMethod yX1_rationFor, Cond.selects RX1 yX1_rationFor yX1_rationFor, Cond.code yX1_rationFor cX1_rationFor 4 (some .int), Cond.methodLink RX1 141 yX4_take, Cond.instanceMethod yX4_take]
def wsX6_sleep_r5 : List Cond := [Cond.selects RX4 yX4_take yX4_take, Cond.code yX4_take cX4_take 7 (some .int), Cond.methodLink RX1 149 yX1_gasFor, Cond.instanceMethod yX1_gasFor, Cond.selects RX1 yX1_gasFor yX1_gasFor, Cond.code yX1_gasFor cX1_gasFor 3 (some .int), Cond.methodLink RX1 153 yX2_sleepOnce, Cond.instanceMethod yX2_sleepOnce, Cond.selects RX2 yX2_sleepOnce yX2_sleepOnce, Cond.code yX2_sleepOnce cX2_sleepOnce 2 none, Cond.methodLink RX1 156 yX4_spoil, Cond.instanceMethod yX4_spoil, Cond.selects RX4 yX4_spoil yX4_spoil, Cond.code yX4_spoil cX4_spoil 4 none, Cond.methodLink RX1 159 yX4_dropEmptyLots, Cond.instanceMethod yX4_dropEmptyLots, Cond.selects RX4 yX4_dropEmptyLots yX4_dropEmptyLots, Cond.code yX4_dropEmptyLots cX4_dropEmptyLots 3 none, Cond.methodLink RX6 56 yX6_recorded, Cond.instanceMethod yX6_recorded, Cond.selects RX6 yX6_recorded yX6_recorded, Cond.initialized RX6, Cond.code yX6_recorded cX6_recorded 2 (some .int), Cond.methodLink RX6 241 yX0_commit]
def wsX6_sleep_r6 : List Cond := [Cond.instanceMethod yX0_commit, Cond.selects RX0 yX0_commit yX0_commit, Cond.code yX0_commit cX0_commit 3 none]
def wsX6_sleep : List Cond := .code yX6_sleep cX6_sleep 2 (some .int) :: ((wsX6_sleep_r1 ++ (wsX6_sleep_r2 ++ (wsX6_sleep_r3 ++ (wsX6_sleep_r4 ++ (wsX6_sleep_r5 ++ wsX6_sleep_r6))))) ++ wsX60 ++ wsX00 ++ wsX10 ++ wsX40 ++ wsX20)
def wsX6_set_r1 : List Cond := [Cond.fieldLink RX6 25 "GlacierHut" "history" "LGlacierHut$History;", Cond.fieldLink RX6 10 "GlacierHut" "now" "LGlacierHut$Hut;", Cond.methodLink RX6 49 yX0_prepare, Cond.instanceMethod yX0_prepare, Cond.selects RX0 yX0_prepare yX0_prepare, Cond.initialized RX0, Cond.code yX0_prepare cX0_prepare 3 none, Cond.fieldLink RX0 16 "GlacierHut$History" "length" "I", Cond.fieldLink RX0 11 "GlacierHut$History" "states" "[LGlacierHut$Hut;", Cond.methodLink RX0 20 yX1_copyFrom, Cond.instanceMethod yX1_copyFrom, Cond.selects RX1 yX1_copyFrom yX1_copyFrom, Cond.initialized RX1, Cond.code yX1_copyFrom cX1_copyFrom 2 none, Cond.fieldLink RX1 12 "GlacierHut$Hut" "stores" "LGlacierHut$Stores;", Cond.fieldLink RX1 21 "GlacierHut$Hut" "parties" "LGlacierHut$Parties;", Cond.fieldLink RX1 25 "GlacierHut$Hut" "storms" "[Z", Cond.methodLink RX1 43 arraycopyName, Cond.native arraycopyName, Cond.static arraycopyName, Cond.initialized "java/lang/System", Cond.fieldLink RX1 29 "GlacierHut$Hut" "settings" "[I", Cond.fieldLink RX1 49 "GlacierHut$Hut" "day" "I", Cond.fieldLink RX1 53 "GlacierHut$Hut" "flights" "I"]
def wsX6_set_r2 : List Cond := [Cond.fieldLink RX1 56 "GlacierHut$Hut" "hungry" "I", Cond.fieldLink RX1 59 "GlacierHut$Hut" "coldNights" "I", Cond.fieldLink RX1 62 "GlacierHut$Hut" "guestNights" "I", Cond.fieldLink RX1 65 "GlacierHut$Hut" "cutSuppers" "I", Cond.methodLink RX1 36 yX4_copyFrom, Cond.instanceMethod yX4_copyFrom, Cond.selects RX4 yX4_copyFrom yX4_copyFrom, Cond.initialized RX4, Cond.code yX4_copyFrom cX4_copyFrom 2 none, Cond.fieldLink RX4 9 "GlacierHut$Stores" "lotKind" "[I", Cond.methodLink RX4 37 arraycopyName, Cond.fieldLink RX4 13 "GlacierHut$Stores" "lotAmount" "[I", Cond.fieldLink RX4 16 "GlacierHut$Stores" "lotLast" "[I", Cond.fieldLink RX4 19 "GlacierHut$Stores" "palletKind" "[I", Cond.fieldLink RX4 22 "GlacierHut$Stores" "palletAmount" "[I", Cond.fieldLink RX4 25 "GlacierHut$Stores" "palletDays" "[I", Cond.fieldLink RX4 28 "GlacierHut$Stores" "brought" "[I", Cond.fieldLink RX4 31 "GlacierHut$Stores" "used" "[I", Cond.fieldLink RX4 34 "GlacierHut$Stores" "spoilt" "[I", Cond.fieldLink RX4 43 "GlacierHut$Stores" "lots" "I", Cond.fieldLink RX4 47 "GlacierHut$Stores" "onPallet" "I", Cond.methodLink RX1 40 yX2_copyFrom, Cond.instanceMethod yX2_copyFrom, Cond.selects RX2 yX2_copyFrom yX2_copyFrom]
def wsX6_set_r3 : List Cond := [Cond.initialized RX2, Cond.code yX2_copyFrom cX2_copyFrom 2 none, Cond.fieldLink RX2 9 "GlacierHut$Parties" "size" "[I", Cond.methodLink RX2 28 arraycopyName, Cond.fieldLink RX2 13 "GlacierHut$Parties" "day" "[I", Cond.fieldLink RX2 16 "GlacierHut$Parties" "nights" "[I", Cond.fieldLink RX2 19 "GlacierHut$Parties" "status" "[I", Cond.fieldLink RX2 22 "GlacierHut$Parties" "slept" "[I", Cond.fieldLink RX2 25 "GlacierHut$Parties" "came" "[I", Cond.fieldLink RX2 34 "GlacierHut$Parties" "number" "I", Cond.methodLink RX6 81 yX1_changeSetting, Cond.instanceMethod yX1_changeSetting, Cond.selects RX1 yX1_changeSetting yX1_changeSetting, Cond.code yX1_changeSetting cX1_changeSetting 4 (some .int), Cond.fieldLink RX1 162 "GlacierHut$Hut" "LOWEST" "[I", Cond.fieldLink RX1 165 "GlacierHut$Hut" "HIGHEST" "[I", Cond.methodLink RX6 56 yX6_recorded, Cond.instanceMethod yX6_recorded, Cond.selects RX6 yX6_recorded yX6_recorded, Cond.initialized RX6, Cond.code yX6_recorded cX6_recorded 2 (some .int), Cond.methodLink RX6 241 yX0_commit, Cond.instanceMethod yX0_commit, Cond.selects RX0 yX0_commit yX0_commit]
def wsX6_set_r4 : List Cond := [Cond.code yX0_commit cX0_commit 3 none]
def wsX6_set : List Cond := .code yX6_set cX6_set 3 (some .int) :: ((wsX6_set_r1 ++ (wsX6_set_r2 ++ (wsX6_set_r3 ++ wsX6_set_r4))) ++ wsX60 ++ wsX00 ++ wsX10 ++ wsX40 ++ wsX20)
def wsX6_lotOf : List Cond := .code yX6_lotOf cX6_lotOf 5 (some .int) :: ([.fieldLink RX6 10 "GlacierHut" "now" "LGlacierHut$Hut;", .fieldLink RX6 90 "GlacierHut$Hut" "stores" "LGlacierHut$Stores;", .fieldLink RX6 97 "GlacierHut$Stores" "lotAmount" "[I", .fieldLink RX6 101 "GlacierHut$Stores" "lotLast" "[I", .methodLink RX6 84 yX4_isKind, .static yX4_isKind, .initialized RX4, .code yX4_isKind cX4_isKind 1 (some .boolean), .methodLink RX6 94 yX4_find, .instanceMethod yX4_find, .selects RX4 yX4_find yX4_find, .code yX4_find cX4_find 5 (some .int), .fieldLink RX4 43 "GlacierHut$Stores" "lots" "I", .fieldLink RX4 9 "GlacierHut$Stores" "lotKind" "[I"] ++ wsX60 ++ wsX10 ++ wsX40)
def wsX6_storeOf_r1 : List Cond := [Cond.fieldLink RX6 10 "GlacierHut" "now" "LGlacierHut$Hut;", Cond.fieldLink RX6 90 "GlacierHut$Hut" "stores" "LGlacierHut$Stores;", Cond.fieldLink RX6 107 "GlacierHut$Stores" "brought" "[I", Cond.fieldLink RX6 110 "GlacierHut$Stores" "used" "[I", Cond.fieldLink RX6 113 "GlacierHut$Stores" "spoilt" "[I", Cond.methodLink RX6 84 yX4_isKind, Cond.static yX4_isKind, Cond.initialized RX4, Cond.code yX4_isKind cX4_isKind 1 (some .boolean), Cond.methodLink RX6 104 yX4_stock, Cond.instanceMethod yX4_stock, Cond.selects RX4 yX4_stock yX4_stock, Cond.code yX4_stock cX4_stock 4 (some .int), Cond.fieldLink RX4 43 "GlacierHut$Stores" "lots" "I", Cond.fieldLink RX4 9 "GlacierHut$Stores" "lotKind" "[I", Cond.fieldLink RX4 13 "GlacierHut$Stores" "lotAmount" "[I", Cond.methodLink RX6 116 yX4_lotsOfKind, Cond.instanceMethod yX4_lotsOfKind, Cond.selects RX4 yX4_lotsOfKind yX4_lotsOfKind, Cond.code yX4_lotsOfKind cX4_lotsOfKind 4 (some .int), Cond.methodLink RX6 119 yX4_amountOnPallet, Cond.instanceMethod yX4_amountOnPallet, Cond.selects RX4 yX4_amountOnPallet yX4_amountOnPallet, Cond.code yX4_amountOnPallet cX4_amountOnPallet 4 (some .int)]
def wsX6_storeOf_r2 : List Cond := [Cond.fieldLink RX4 47 "GlacierHut$Stores" "onPallet" "I", Cond.fieldLink RX4 19 "GlacierHut$Stores" "palletKind" "[I", Cond.fieldLink RX4 22 "GlacierHut$Stores" "palletAmount" "[I"]
def wsX6_storeOf : List Cond := .code yX6_storeOf cX6_storeOf 4 (some .int) :: ((wsX6_storeOf_r1 ++ wsX6_storeOf_r2) ++ wsX60 ++ wsX10 ++ wsX40)
def wsX6_partyOf : List Cond := .code yX6_partyOf cX6_partyOf 4 (some .int) :: ([.fieldLink RX6 10 "GlacierHut" "now" "LGlacierHut$Hut;", .fieldLink RX6 122 "GlacierHut$Hut" "parties" "LGlacierHut$Parties;", .fieldLink RX6 131 "GlacierHut$Parties" "size" "[I", .fieldLink RX6 134 "GlacierHut$Parties" "day" "[I", .fieldLink RX6 137 "GlacierHut$Parties" "nights" "[I", .fieldLink RX6 140 "GlacierHut$Parties" "status" "[I", .fieldLink RX6 143 "GlacierHut$Parties" "slept" "[I", .fieldLink RX6 146 "GlacierHut$Parties" "came" "[I", .methodLink RX6 149 Lib.Math.max.name, .static Lib.Math.max.name, .initialized "java/lang/Math", .code Lib.Math.max.name Lib.Math.max.code 2 (some .int), .methodLink RX6 126 yX2_has, .instanceMethod yX2_has, .selects RX2 yX2_has yX2_has, .initialized RX2, .code yX2_has cX2_has 2 (some .boolean), .fieldLink RX2 34 "GlacierHut$Parties" "number" "I"] ++ wsX60 ++ wsX10 ++ wsX20)
def wsX6_count_r1 : List Cond := [Cond.fieldLink RX6 10 "GlacierHut" "now" "LGlacierHut$Hut;", Cond.fieldLink RX6 122 "GlacierHut$Hut" "parties" "LGlacierHut$Parties;", Cond.fieldLink RX6 154 "GlacierHut$Parties" "number" "I", Cond.fieldLink RX6 164 "GlacierHut$Hut" "day" "I", Cond.fieldLink RX6 170 "GlacierHut$Hut" "flights" "I", Cond.fieldLink RX6 90 "GlacierHut$Hut" "stores" "LGlacierHut$Stores;", Cond.fieldLink RX6 173 "GlacierHut$Stores" "onPallet" "I", Cond.fieldLink RX6 176 "GlacierHut$Hut" "hungry" "I", Cond.fieldLink RX6 179 "GlacierHut$Hut" "coldNights" "I", Cond.fieldLink RX6 182 "GlacierHut$Hut" "guestNights" "I", Cond.fieldLink RX6 185 "GlacierHut$Hut" "cutSuppers" "I", Cond.fieldLink RX6 25 "GlacierHut" "history" "LGlacierHut$History;", Cond.fieldLink RX6 188 "GlacierHut$History" "length" "I", Cond.fieldLink RX6 32 "GlacierHut" "text" "LGlacierHut$Text;", Cond.fieldLink RX6 191 "GlacierHut$Text" "length" "I", Cond.fieldLink RX6 45 "GlacierHut" "kept" "Z", Cond.methodLink RX6 158 yX2_withStatus, Cond.instanceMethod yX2_withStatus, Cond.selects RX2 yX2_withStatus yX2_withStatus, Cond.initialized RX2, Cond.code yX2_withStatus cX2_withStatus 4 (some .int), Cond.fieldLink RX2 34 "GlacierHut$Parties" "number" "I", Cond.fieldLink RX2 19 "GlacierHut$Parties" "status" "[I", Cond.methodLink RX6 161 yX2_guests]
def wsX6_count_r2 : List Cond := [Cond.instanceMethod yX2_guests, Cond.selects RX2 yX2_guests yX2_guests, Cond.code yX2_guests cX2_guests 3 (some .int), Cond.fieldLink RX2 9 "GlacierHut$Parties" "size" "[I", Cond.methodLink RX6 166 yX1_isStorm, Cond.instanceMethod yX1_isStorm, Cond.selects RX1 yX1_isStorm yX1_isStorm, Cond.initialized RX1, Cond.code yX1_isStorm cX1_isStorm 1 (some .boolean), Cond.fieldLink RX1 49 "GlacierHut$Hut" "day" "I", Cond.fieldLink RX1 25 "GlacierHut$Hut" "storms" "[Z", Cond.methodLink RX6 192 yX1_settingAt, Cond.instanceMethod yX1_settingAt, Cond.selects RX1 yX1_settingAt yX1_settingAt, Cond.code yX1_settingAt cX1_settingAt 2 (some .int), Cond.fieldLink RX1 29 "GlacierHut$Hut" "settings" "[I"]
def wsX6_count : List Cond := .code yX6_count cX6_count 2 (some .int) :: ((wsX6_count_r1 ++ wsX6_count_r2) ++ wsX60 ++ wsX10 ++ wsX20 ++ wsX40 ++ wsX00 ++ wsX50)
def wsX6_goneOn_r1 : List Cond := [Cond.fieldLink RX6 10 "GlacierHut" "now" "LGlacierHut$Hut;", Cond.fieldLink RX6 122 "GlacierHut$Hut" "parties" "LGlacierHut$Parties;", Cond.fieldLink RX6 16 "GlacierHut" "trial" "LGlacierHut$Hut;", Cond.methodLink RX6 126 yX2_has, Cond.instanceMethod yX2_has, Cond.selects RX2 yX2_has yX2_has, Cond.initialized RX2, Cond.code yX2_has cX2_has 2 (some .boolean), Cond.fieldLink RX2 34 "GlacierHut$Parties" "number" "I", Cond.methodLink RX6 195 yX2_isAwaited, Cond.instanceMethod yX2_isAwaited, Cond.selects RX2 yX2_isAwaited yX2_isAwaited, Cond.code yX2_isAwaited cX2_isAwaited 2 (some .boolean), Cond.fieldLink RX2 19 "GlacierHut$Parties" "status" "[I", Cond.methodLink RX2 38 yX2_has, Cond.methodLink RX6 198 yX1_copyFrom, Cond.instanceMethod yX1_copyFrom, Cond.selects RX1 yX1_copyFrom yX1_copyFrom, Cond.initialized RX1, Cond.code yX1_copyFrom cX1_copyFrom 2 none, Cond.fieldLink RX1 12 "GlacierHut$Hut" "stores" "LGlacierHut$Stores;", Cond.fieldLink RX1 21 "GlacierHut$Hut" "parties" "LGlacierHut$Parties;", Cond.fieldLink RX1 25 "GlacierHut$Hut" "storms" "[Z", Cond.methodLink RX1 43 arraycopyName]
def wsX6_goneOn_r2 : List Cond := [Cond.native arraycopyName, Cond.static arraycopyName, Cond.initialized "java/lang/System", Cond.fieldLink RX1 29 "GlacierHut$Hut" "settings" "[I", Cond.fieldLink RX1 49 "GlacierHut$Hut" "day" "I", Cond.fieldLink RX1 53 "GlacierHut$Hut" "flights" "I", Cond.fieldLink RX1 56 "GlacierHut$Hut" "hungry" "I", Cond.fieldLink RX1 59 "GlacierHut$Hut" "coldNights" "I", Cond.fieldLink RX1 62 "GlacierHut$Hut" "guestNights" "I", Cond.fieldLink RX1 65 "GlacierHut$Hut" "cutSuppers" "I", Cond.methodLink RX1 36 yX4_copyFrom, Cond.instanceMethod yX4_copyFrom, Cond.selects RX4 yX4_copyFrom yX4_copyFrom, Cond.initialized RX4, Cond.code yX4_copyFrom cX4_copyFrom 2 none, Cond.fieldLink RX4 9 "GlacierHut$Stores" "lotKind" "[I", Cond.methodLink RX4 37 arraycopyName, Cond.fieldLink RX4 13 "GlacierHut$Stores" "lotAmount" "[I", Cond.fieldLink RX4 16 "GlacierHut$Stores" "lotLast" "[I", Cond.fieldLink RX4 19 "GlacierHut$Stores" "palletKind" "[I", Cond.fieldLink RX4 22 "GlacierHut$Stores" "palletAmount" "[I", Cond.fieldLink RX4 25 "GlacierHut$Stores" "palletDays" "[I", Cond.fieldLink RX4 28 "GlacierHut$Stores" "brought" "[I", Cond.fieldLink RX4 31 "GlacierHut$Stores" "used" "[I"]
def wsX6_goneOn_r3 : List Cond := [Cond.fieldLink RX4 34 "GlacierHut$Stores" "spoilt" "[I", Cond.fieldLink RX4 43 "GlacierHut$Stores" "lots" "I", Cond.fieldLink RX4 47 "GlacierHut$Stores" "onPallet" "I", Cond.methodLink RX1 40 yX2_copyFrom, Cond.instanceMethod yX2_copyFrom, Cond.selects RX2 yX2_copyFrom yX2_copyFrom, Cond.code yX2_copyFrom cX2_copyFrom 2 none, Cond.fieldLink RX2 9 "GlacierHut$Parties" "size" "[I", Cond.methodLink RX2 28 arraycopyName, Cond.fieldLink RX2 13 "GlacierHut$Parties" "day" "[I", Cond.fieldLink RX2 16 "GlacierHut$Parties" "nights" "[I", Cond.fieldLink RX2 22 "GlacierHut$Parties" "slept" "[I", Cond.fieldLink RX2 25 "GlacierHut$Parties" "came" "[I", Cond.methodLink RX6 201 yX1_dayWhenGone, Cond.instanceMethod yX1_dayWhenGone, Cond.selects RX1 yX1_dayWhenGone yX1_dayWhenGone, Cond.code yX1_dayWhenGone cX1_dayWhenGone 3 (some .int), Cond.methodLink RX1 168 yX2_isAwaited, Cond.methodLink RX1 110 yX1_passNight, Cond.instanceMethod yX1_passNight, Cond.selects RX1 yX1_passNight yX1_passNight, Cond.code yX1_passNight cX1_passNight 9 (some .boolean), Cond.methodLink RX1 144 Lib.Math.min.name, Cond.static Lib.Math.min.name]
def wsX6_goneOn_r4 : List Cond := [Cond.initialized "java/lang/Math", Cond.code Lib.Math.min.name Lib.Math.min.code 2 (some .int), Cond.methodLink RX1 79 yX1_isStorm, Cond.instanceMethod yX1_isStorm, Cond.selects RX1 yX1_isStorm yX1_isStorm, Cond.code yX1_isStorm cX1_isStorm 1 (some .boolean), Cond.methodLink RX1 123 yX2_leave, Cond.instanceMethod yX2_leave, Cond.selects RX2 yX2_leave yX2_leave, Cond.code yX2_leave cX2_leave 2 none, Cond.methodLink RX1 126 yX2_guests, Cond.instanceMethod yX2_guests, Cond.selects RX2 yX2_guests yX2_guests, Cond.code yX2_guests cX2_guests 3 (some .int), Cond.methodLink RX1 130 yX2_arrive, Cond.instanceMethod yX2_arrive, Cond.selects RX2 yX2_arrive yX2_arrive, Cond.code yX2_arrive cX2_arrive 7 (some .boolean), Cond.methodLink RX1 134 yX4_stock, Cond.instanceMethod yX4_stock, Cond.selects RX4 yX4_stock yX4_stock, Cond.code yX4_stock cX4_stock 4 (some .int), Cond.methodLink RX1 137 yX1_rationFor, Cond.instanceMethod yX1_rationFor]
def wsX6_goneOn_r5 : List Cond := [Cond.selects RX1 yX1_rationFor yX1_rationFor, Cond.code yX1_rationFor cX1_rationFor 4 (some .int), Cond.methodLink RX1 141 yX4_take, Cond.instanceMethod yX4_take, Cond.selects RX4 yX4_take yX4_take, Cond.code yX4_take cX4_take 7 (some .int), Cond.methodLink RX1 149 yX1_gasFor, Cond.instanceMethod yX1_gasFor, Cond.selects RX1 yX1_gasFor yX1_gasFor, Cond.code yX1_gasFor cX1_gasFor 3 (some .int), Cond.methodLink RX1 153 yX2_sleepOnce, Cond.instanceMethod yX2_sleepOnce, Cond.selects RX2 yX2_sleepOnce yX2_sleepOnce, Cond.code yX2_sleepOnce cX2_sleepOnce 2 none, Cond.methodLink RX1 156 yX4_spoil, Cond.instanceMethod yX4_spoil, Cond.selects RX4 yX4_spoil yX4_spoil, Cond.code yX4_spoil cX4_spoil 4 none, Cond.methodLink RX1 159 yX4_dropEmptyLots, Cond.instanceMethod yX4_dropEmptyLots, Cond.selects RX4 yX4_dropEmptyLots yX4_dropEmptyLots, Cond.code yX4_dropEmptyLots cX4_dropEmptyLots 3 none, Cond.methodLink RX1 171 yX2_hasStatus, Cond.instanceMethod yX2_hasStatus]
def wsX6_goneOn_r6 : List Cond := [Cond.selects RX2 yX2_hasStatus yX2_hasStatus, Cond.code yX2_hasStatus cX2_hasStatus 3 (some .boolean)]
def wsX6_goneOn : List Cond := .code yX6_goneOn cX6_goneOn 2 (some .int) :: ((wsX6_goneOn_r1 ++ (wsX6_goneOn_r2 ++ (wsX6_goneOn_r3 ++ (wsX6_goneOn_r4 ++ (wsX6_goneOn_r5 ++ wsX6_goneOn_r6))))) ++ wsX60 ++ wsX10 ++ wsX20 ++ wsX40)
def wsX6_outOn_r1 : List Cond := [Cond.fieldLink RX6 16 "GlacierHut" "trial" "LGlacierHut$Hut;", Cond.fieldLink RX6 10 "GlacierHut" "now" "LGlacierHut$Hut;", Cond.methodLink RX6 84 yX4_isKind, Cond.static yX4_isKind, Cond.initialized RX4, Cond.code yX4_isKind cX4_isKind 1 (some .boolean), Cond.methodLink RX6 198 yX1_copyFrom, Cond.instanceMethod yX1_copyFrom, Cond.selects RX1 yX1_copyFrom yX1_copyFrom, Cond.initialized RX1, Cond.code yX1_copyFrom cX1_copyFrom 2 none, Cond.fieldLink RX1 12 "GlacierHut$Hut" "stores" "LGlacierHut$Stores;", Cond.fieldLink RX1 21 "GlacierHut$Hut" "parties" "LGlacierHut$Parties;", Cond.fieldLink RX1 25 "GlacierHut$Hut" "storms" "[Z", Cond.methodLink RX1 43 arraycopyName, Cond.native arraycopyName, Cond.static arraycopyName, Cond.initialized "java/lang/System", Cond.fieldLink RX1 29 "GlacierHut$Hut" "settings" "[I", Cond.fieldLink RX1 49 "GlacierHut$Hut" "day" "I", Cond.fieldLink RX1 53 "GlacierHut$Hut" "flights" "I", Cond.fieldLink RX1 56 "GlacierHut$Hut" "hungry" "I", Cond.fieldLink RX1 59 "GlacierHut$Hut" "coldNights" "I", Cond.fieldLink RX1 62 "GlacierHut$Hut" "guestNights" "I"]
def wsX6_outOn_r2 : List Cond := [Cond.fieldLink RX1 65 "GlacierHut$Hut" "cutSuppers" "I", Cond.methodLink RX1 36 yX4_copyFrom, Cond.instanceMethod yX4_copyFrom, Cond.selects RX4 yX4_copyFrom yX4_copyFrom, Cond.code yX4_copyFrom cX4_copyFrom 2 none, Cond.fieldLink RX4 9 "GlacierHut$Stores" "lotKind" "[I", Cond.methodLink RX4 37 arraycopyName, Cond.fieldLink RX4 13 "GlacierHut$Stores" "lotAmount" "[I", Cond.fieldLink RX4 16 "GlacierHut$Stores" "lotLast" "[I", Cond.fieldLink RX4 19 "GlacierHut$Stores" "palletKind" "[I", Cond.fieldLink RX4 22 "GlacierHut$Stores" "palletAmount" "[I", Cond.fieldLink RX4 25 "GlacierHut$Stores" "palletDays" "[I", Cond.fieldLink RX4 28 "GlacierHut$Stores" "brought" "[I", Cond.fieldLink RX4 31 "GlacierHut$Stores" "used" "[I", Cond.fieldLink RX4 34 "GlacierHut$Stores" "spoilt" "[I", Cond.fieldLink RX4 43 "GlacierHut$Stores" "lots" "I", Cond.fieldLink RX4 47 "GlacierHut$Stores" "onPallet" "I", Cond.methodLink RX1 40 yX2_copyFrom, Cond.instanceMethod yX2_copyFrom, Cond.selects RX2 yX2_copyFrom yX2_copyFrom, Cond.initialized RX2, Cond.code yX2_copyFrom cX2_copyFrom 2 none, Cond.fieldLink RX2 9 "GlacierHut$Parties" "size" "[I", Cond.methodLink RX2 28 arraycopyName]
def wsX6_outOn_r3 : List Cond := [Cond.fieldLink RX2 13 "GlacierHut$Parties" "day" "[I", Cond.fieldLink RX2 16 "GlacierHut$Parties" "nights" "[I", Cond.fieldLink RX2 19 "GlacierHut$Parties" "status" "[I", Cond.fieldLink RX2 22 "GlacierHut$Parties" "slept" "[I", Cond.fieldLink RX2 25 "GlacierHut$Parties" "came" "[I", Cond.fieldLink RX2 34 "GlacierHut$Parties" "number" "I", Cond.methodLink RX6 204 yX1_dayWhenOut, Cond.instanceMethod yX1_dayWhenOut, Cond.selects RX1 yX1_dayWhenOut yX1_dayWhenOut, Cond.code yX1_dayWhenOut cX1_dayWhenOut 3 (some .int), Cond.methodLink RX1 107 yX2_anyAwaited, Cond.instanceMethod yX2_anyAwaited, Cond.selects RX2 yX2_anyAwaited yX2_anyAwaited, Cond.code yX2_anyAwaited cX2_anyAwaited 2 (some .boolean), Cond.methodLink RX1 110 yX1_passNight, Cond.instanceMethod yX1_passNight, Cond.selects RX1 yX1_passNight yX1_passNight, Cond.code yX1_passNight cX1_passNight 9 (some .boolean), Cond.methodLink RX1 144 Lib.Math.min.name, Cond.static Lib.Math.min.name, Cond.initialized "java/lang/Math", Cond.code Lib.Math.min.name Lib.Math.min.code 2 (some .int), Cond.methodLink RX1 79 yX1_isStorm, Cond.instanceMethod yX1_isStorm]
def wsX6_outOn_r4 : List Cond := [Cond.selects RX1 yX1_isStorm yX1_isStorm, Cond.code yX1_isStorm cX1_isStorm 1 (some .boolean), Cond.methodLink RX1 123 yX2_leave, Cond.instanceMethod yX2_leave, Cond.selects RX2 yX2_leave yX2_leave, Cond.code yX2_leave cX2_leave 2 none, Cond.methodLink RX1 126 yX2_guests, Cond.instanceMethod yX2_guests, Cond.selects RX2 yX2_guests yX2_guests, Cond.code yX2_guests cX2_guests 3 (some .int), Cond.methodLink RX1 130 yX2_arrive, Cond.instanceMethod yX2_arrive, Cond.selects RX2 yX2_arrive yX2_arrive, Cond.code yX2_arrive cX2_arrive 7 (some .boolean), Cond.methodLink RX1 134 yX4_stock, Cond.instanceMethod yX4_stock, Cond.selects RX4 yX4_stock yX4_stock, Cond.code yX4_stock cX4_stock 4 (some .int), Cond.methodLink RX1 137 yX1_rationFor, Cond.instanceMethod yX1_rationFor, Cond.selects RX1 yX1_rationFor yX1_rationFor, Cond.code yX1_rationFor cX1_rationFor 4 (some .int), Cond.methodLink RX1 141 yX4_take, Cond.instanceMethod yX4_take]
def wsX6_outOn_r5 : List Cond := [Cond.selects RX4 yX4_take yX4_take, Cond.code yX4_take cX4_take 7 (some .int), Cond.methodLink RX1 149 yX1_gasFor, Cond.instanceMethod yX1_gasFor, Cond.selects RX1 yX1_gasFor yX1_gasFor, Cond.code yX1_gasFor cX1_gasFor 3 (some .int), Cond.methodLink RX1 153 yX2_sleepOnce, Cond.instanceMethod yX2_sleepOnce, Cond.selects RX2 yX2_sleepOnce yX2_sleepOnce, Cond.code yX2_sleepOnce cX2_sleepOnce 2 none, Cond.methodLink RX1 156 yX4_spoil, Cond.instanceMethod yX4_spoil, Cond.selects RX4 yX4_spoil yX4_spoil, Cond.code yX4_spoil cX4_spoil 4 none, Cond.methodLink RX1 159 yX4_dropEmptyLots, Cond.instanceMethod yX4_dropEmptyLots, Cond.selects RX4 yX4_dropEmptyLots yX4_dropEmptyLots, Cond.code yX4_dropEmptyLots cX4_dropEmptyLots 3 none]
def wsX6_outOn : List Cond := .code yX6_outOn cX6_outOn 2 (some .int) :: ((wsX6_outOn_r1 ++ (wsX6_outOn_r2 ++ (wsX6_outOn_r3 ++ (wsX6_outOn_r4 ++ wsX6_outOn_r5)))) ++ wsX60 ++ wsX10 ++ wsX40 ++ wsX20)
def wsX6_most_r1 : List Cond := [Cond.fieldLink RX6 10 "GlacierHut" "now" "LGlacierHut$Hut;", Cond.fieldLink RX6 122 "GlacierHut$Hut" "parties" "LGlacierHut$Parties;", Cond.fieldLink RX6 154 "GlacierHut$Parties" "number" "I", Cond.fieldLink RX6 16 "GlacierHut" "trial" "LGlacierHut$Hut;", Cond.methodLink RX6 207 yX1_mayBeBooked, Cond.instanceMethod yX1_mayBeBooked, Cond.selects RX1 yX1_mayBeBooked yX1_mayBeBooked, Cond.initialized RX1, Cond.code yX1_mayBeBooked cX1_mayBeBooked 4 (some .boolean), Cond.fieldLink RX1 49 "GlacierHut$Hut" "day" "I", Cond.methodLink RX6 211 yX1_wouldSuffice, Cond.instanceMethod yX1_wouldSuffice, Cond.selects RX1 yX1_wouldSuffice yX1_wouldSuffice, Cond.code yX1_wouldSuffice cX1_wouldSuffice 6 (some .boolean), Cond.fieldLink RX1 21 "GlacierHut$Hut" "parties" "LGlacierHut$Parties;", Cond.methodLink RX1 104 yX1_copyFrom, Cond.instanceMethod yX1_copyFrom, Cond.selects RX1 yX1_copyFrom yX1_copyFrom, Cond.code yX1_copyFrom cX1_copyFrom 2 none, Cond.fieldLink RX1 12 "GlacierHut$Hut" "stores" "LGlacierHut$Stores;", Cond.fieldLink RX1 25 "GlacierHut$Hut" "storms" "[Z", Cond.methodLink RX1 43 arraycopyName, Cond.native arraycopyName, Cond.static arraycopyName]
def wsX6_most_r2 : List Cond := [Cond.initialized "java/lang/System", Cond.fieldLink RX1 29 "GlacierHut$Hut" "settings" "[I", Cond.fieldLink RX1 53 "GlacierHut$Hut" "flights" "I", Cond.fieldLink RX1 56 "GlacierHut$Hut" "hungry" "I", Cond.fieldLink RX1 59 "GlacierHut$Hut" "coldNights" "I", Cond.fieldLink RX1 62 "GlacierHut$Hut" "guestNights" "I", Cond.fieldLink RX1 65 "GlacierHut$Hut" "cutSuppers" "I", Cond.methodLink RX1 36 yX4_copyFrom, Cond.instanceMethod yX4_copyFrom, Cond.selects RX4 yX4_copyFrom yX4_copyFrom, Cond.initialized RX4, Cond.code yX4_copyFrom cX4_copyFrom 2 none, Cond.fieldLink RX4 9 "GlacierHut$Stores" "lotKind" "[I", Cond.methodLink RX4 37 arraycopyName, Cond.fieldLink RX4 13 "GlacierHut$Stores" "lotAmount" "[I", Cond.fieldLink RX4 16 "GlacierHut$Stores" "lotLast" "[I", Cond.fieldLink RX4 19 "GlacierHut$Stores" "palletKind" "[I", Cond.fieldLink RX4 22 "GlacierHut$Stores" "palletAmount" "[I", Cond.fieldLink RX4 25 "GlacierHut$Stores" "palletDays" "[I", Cond.fieldLink RX4 28 "GlacierHut$Stores" "brought" "[I", Cond.fieldLink RX4 31 "GlacierHut$Stores" "used" "[I", Cond.fieldLink RX4 34 "GlacierHut$Stores" "spoilt" "[I", Cond.fieldLink RX4 43 "GlacierHut$Stores" "lots" "I", Cond.fieldLink RX4 47 "GlacierHut$Stores" "onPallet" "I"]
def wsX6_most_r3 : List Cond := [Cond.methodLink RX1 40 yX2_copyFrom, Cond.instanceMethod yX2_copyFrom, Cond.selects RX2 yX2_copyFrom yX2_copyFrom, Cond.initialized RX2, Cond.code yX2_copyFrom cX2_copyFrom 2 none, Cond.fieldLink RX2 9 "GlacierHut$Parties" "size" "[I", Cond.methodLink RX2 28 arraycopyName, Cond.fieldLink RX2 13 "GlacierHut$Parties" "day" "[I", Cond.fieldLink RX2 16 "GlacierHut$Parties" "nights" "[I", Cond.fieldLink RX2 19 "GlacierHut$Parties" "status" "[I", Cond.fieldLink RX2 22 "GlacierHut$Parties" "slept" "[I", Cond.fieldLink RX2 25 "GlacierHut$Parties" "came" "[I", Cond.fieldLink RX2 34 "GlacierHut$Parties" "number" "I", Cond.methodLink RX1 101 yX2_add, Cond.instanceMethod yX2_add, Cond.selects RX2 yX2_add yX2_add, Cond.code yX2_add cX2_add 4 none, Cond.methodLink RX1 107 yX2_anyAwaited, Cond.instanceMethod yX2_anyAwaited, Cond.selects RX2 yX2_anyAwaited yX2_anyAwaited, Cond.code yX2_anyAwaited cX2_anyAwaited 2 (some .boolean), Cond.methodLink RX1 110 yX1_passNight, Cond.instanceMethod yX1_passNight, Cond.selects RX1 yX1_passNight yX1_passNight]
def wsX6_most_r4 : List Cond := [Cond.code yX1_passNight cX1_passNight 9 (some .boolean), Cond.methodLink RX1 144 Lib.Math.min.name, Cond.static Lib.Math.min.name, Cond.initialized "java/lang/Math", Cond.code Lib.Math.min.name Lib.Math.min.code 2 (some .int), Cond.methodLink RX1 79 yX1_isStorm, Cond.instanceMethod yX1_isStorm, Cond.selects RX1 yX1_isStorm yX1_isStorm, Cond.code yX1_isStorm cX1_isStorm 1 (some .boolean), Cond.methodLink RX1 123 yX2_leave, Cond.instanceMethod yX2_leave, Cond.selects RX2 yX2_leave yX2_leave, Cond.code yX2_leave cX2_leave 2 none, Cond.methodLink RX1 126 yX2_guests, Cond.instanceMethod yX2_guests, Cond.selects RX2 yX2_guests yX2_guests, Cond.code yX2_guests cX2_guests 3 (some .int), Cond.methodLink RX1 130 yX2_arrive, Cond.instanceMethod yX2_arrive, Cond.selects RX2 yX2_arrive yX2_arrive, Cond.code yX2_arrive cX2_arrive 7 (some .boolean), Cond.methodLink RX1 134 yX4_stock, Cond.instanceMethod yX4_stock, Cond.selects RX4 yX4_stock yX4_stock]
def wsX6_most_r5 : List Cond := [Cond.code yX4_stock cX4_stock 4 (some .int), Cond.methodLink RX1 137 yX1_rationFor, Cond.instanceMethod yX1_rationFor, Cond.selects RX1 yX1_rationFor yX1_rationFor, Cond.code yX1_rationFor cX1_rationFor 4 (some .int), Cond.methodLink RX1 141 yX4_take, Cond.instanceMethod yX4_take, Cond.selects RX4 yX4_take yX4_take, Cond.code yX4_take cX4_take 7 (some .int), Cond.methodLink RX1 149 yX1_gasFor, Cond.instanceMethod yX1_gasFor, Cond.selects RX1 yX1_gasFor yX1_gasFor, Cond.code yX1_gasFor cX1_gasFor 3 (some .int), Cond.methodLink RX1 153 yX2_sleepOnce, Cond.instanceMethod yX2_sleepOnce, Cond.selects RX2 yX2_sleepOnce yX2_sleepOnce, Cond.code yX2_sleepOnce cX2_sleepOnce 2 none, Cond.methodLink RX1 156 yX4_spoil, Cond.instanceMethod yX4_spoil, Cond.selects RX4 yX4_spoil yX4_spoil, Cond.code yX4_spoil cX4_spoil 4 none, Cond.methodLink RX1 159 yX4_dropEmptyLots, Cond.instanceMethod yX4_dropEmptyLots, Cond.selects RX4 yX4_dropEmptyLots yX4_dropEmptyLots]
def wsX6_most_r6 : List Cond := [Cond.code yX4_dropEmptyLots cX4_dropEmptyLots 3 none]
def wsX6_most : List Cond := .code yX6_most cX6_most 4 (some .int) :: ((wsX6_most_r1 ++ (wsX6_most_r2 ++ (wsX6_most_r3 ++ (wsX6_most_r4 ++ (wsX6_most_r5 ++ wsX6_most_r6))))) ++ wsX60 ++ wsX10 ++ wsX20 ++ wsX40)
def wsX6_keep_r1 : List Cond := [Cond.fieldLink RX6 19 "GlacierHut" "snapshot" "LGlacierHut$Hut;", Cond.fieldLink RX6 10 "GlacierHut" "now" "LGlacierHut$Hut;", Cond.fieldLink RX6 45 "GlacierHut" "kept" "Z", Cond.fieldLink RX6 164 "GlacierHut$Hut" "day" "I", Cond.methodLink RX6 198 yX1_copyFrom, Cond.instanceMethod yX1_copyFrom, Cond.selects RX1 yX1_copyFrom yX1_copyFrom, Cond.initialized RX1, Cond.code yX1_copyFrom cX1_copyFrom 2 none, Cond.fieldLink RX1 12 "GlacierHut$Hut" "stores" "LGlacierHut$Stores;", Cond.fieldLink RX1 21 "GlacierHut$Hut" "parties" "LGlacierHut$Parties;", Cond.fieldLink RX1 25 "GlacierHut$Hut" "storms" "[Z", Cond.methodLink RX1 43 arraycopyName, Cond.native arraycopyName, Cond.static arraycopyName, Cond.initialized "java/lang/System", Cond.fieldLink RX1 29 "GlacierHut$Hut" "settings" "[I", Cond.fieldLink RX1 49 "GlacierHut$Hut" "day" "I", Cond.fieldLink RX1 53 "GlacierHut$Hut" "flights" "I", Cond.fieldLink RX1 56 "GlacierHut$Hut" "hungry" "I", Cond.fieldLink RX1 59 "GlacierHut$Hut" "coldNights" "I", Cond.fieldLink RX1 62 "GlacierHut$Hut" "guestNights" "I", Cond.fieldLink RX1 65 "GlacierHut$Hut" "cutSuppers" "I", Cond.methodLink RX1 36 yX4_copyFrom]
def wsX6_keep_r2 : List Cond := [Cond.instanceMethod yX4_copyFrom, Cond.selects RX4 yX4_copyFrom yX4_copyFrom, Cond.initialized RX4, Cond.code yX4_copyFrom cX4_copyFrom 2 none, Cond.fieldLink RX4 9 "GlacierHut$Stores" "lotKind" "[I", Cond.methodLink RX4 37 arraycopyName, Cond.fieldLink RX4 13 "GlacierHut$Stores" "lotAmount" "[I", Cond.fieldLink RX4 16 "GlacierHut$Stores" "lotLast" "[I", Cond.fieldLink RX4 19 "GlacierHut$Stores" "palletKind" "[I", Cond.fieldLink RX4 22 "GlacierHut$Stores" "palletAmount" "[I", Cond.fieldLink RX4 25 "GlacierHut$Stores" "palletDays" "[I", Cond.fieldLink RX4 28 "GlacierHut$Stores" "brought" "[I", Cond.fieldLink RX4 31 "GlacierHut$Stores" "used" "[I", Cond.fieldLink RX4 34 "GlacierHut$Stores" "spoilt" "[I", Cond.fieldLink RX4 43 "GlacierHut$Stores" "lots" "I", Cond.fieldLink RX4 47 "GlacierHut$Stores" "onPallet" "I", Cond.methodLink RX1 40 yX2_copyFrom, Cond.instanceMethod yX2_copyFrom, Cond.selects RX2 yX2_copyFrom yX2_copyFrom, Cond.initialized RX2, Cond.code yX2_copyFrom cX2_copyFrom 2 none, Cond.fieldLink RX2 9 "GlacierHut$Parties" "size" "[I", Cond.methodLink RX2 28 arraycopyName, Cond.fieldLink RX2 13 "GlacierHut$Parties" "day" "[I"]
def wsX6_keep_r3 : List Cond := [Cond.fieldLink RX2 16 "GlacierHut$Parties" "nights" "[I", Cond.fieldLink RX2 19 "GlacierHut$Parties" "status" "[I", Cond.fieldLink RX2 22 "GlacierHut$Parties" "slept" "[I", Cond.fieldLink RX2 25 "GlacierHut$Parties" "came" "[I", Cond.fieldLink RX2 34 "GlacierHut$Parties" "number" "I"]
def wsX6_keep : List Cond := .code yX6_keep cX6_keep 1 (some .int) :: ((wsX6_keep_r1 ++ (wsX6_keep_r2 ++ wsX6_keep_r3)) ++ wsX60 ++ wsX10 ++ wsX40 ++ wsX20)
def wsX6_restore_r1 : List Cond := [Cond.fieldLink RX6 45 "GlacierHut" "kept" "Z", Cond.fieldLink RX6 25 "GlacierHut" "history" "LGlacierHut$History;", Cond.fieldLink RX6 10 "GlacierHut" "now" "LGlacierHut$Hut;", Cond.fieldLink RX6 19 "GlacierHut" "snapshot" "LGlacierHut$Hut;", Cond.fieldLink RX6 164 "GlacierHut$Hut" "day" "I", Cond.methodLink RX6 49 yX0_prepare, Cond.instanceMethod yX0_prepare, Cond.selects RX0 yX0_prepare yX0_prepare, Cond.initialized RX0, Cond.code yX0_prepare cX0_prepare 3 none, Cond.fieldLink RX0 16 "GlacierHut$History" "length" "I", Cond.fieldLink RX0 11 "GlacierHut$History" "states" "[LGlacierHut$Hut;", Cond.methodLink RX0 20 yX1_copyFrom, Cond.instanceMethod yX1_copyFrom, Cond.selects RX1 yX1_copyFrom yX1_copyFrom, Cond.initialized RX1, Cond.code yX1_copyFrom cX1_copyFrom 2 none, Cond.fieldLink RX1 12 "GlacierHut$Hut" "stores" "LGlacierHut$Stores;", Cond.fieldLink RX1 21 "GlacierHut$Hut" "parties" "LGlacierHut$Parties;", Cond.fieldLink RX1 25 "GlacierHut$Hut" "storms" "[Z", Cond.methodLink RX1 43 arraycopyName, Cond.native arraycopyName, Cond.static arraycopyName, Cond.initialized "java/lang/System"]
def wsX6_restore_r2 : List Cond := [Cond.fieldLink RX1 29 "GlacierHut$Hut" "settings" "[I", Cond.fieldLink RX1 49 "GlacierHut$Hut" "day" "I", Cond.fieldLink RX1 53 "GlacierHut$Hut" "flights" "I", Cond.fieldLink RX1 56 "GlacierHut$Hut" "hungry" "I", Cond.fieldLink RX1 59 "GlacierHut$Hut" "coldNights" "I", Cond.fieldLink RX1 62 "GlacierHut$Hut" "guestNights" "I", Cond.fieldLink RX1 65 "GlacierHut$Hut" "cutSuppers" "I", Cond.methodLink RX1 36 yX4_copyFrom, Cond.instanceMethod yX4_copyFrom, Cond.selects RX4 yX4_copyFrom yX4_copyFrom, Cond.initialized RX4, Cond.code yX4_copyFrom cX4_copyFrom 2 none, Cond.fieldLink RX4 9 "GlacierHut$Stores" "lotKind" "[I", Cond.methodLink RX4 37 arraycopyName, Cond.fieldLink RX4 13 "GlacierHut$Stores" "lotAmount" "[I", Cond.fieldLink RX4 16 "GlacierHut$Stores" "lotLast" "[I", Cond.fieldLink RX4 19 "GlacierHut$Stores" "palletKind" "[I", Cond.fieldLink RX4 22 "GlacierHut$Stores" "palletAmount" "[I", Cond.fieldLink RX4 25 "GlacierHut$Stores" "palletDays" "[I", Cond.fieldLink RX4 28 "GlacierHut$Stores" "brought" "[I", Cond.fieldLink RX4 31 "GlacierHut$Stores" "used" "[I", Cond.fieldLink RX4 34 "GlacierHut$Stores" "spoilt" "[I", Cond.fieldLink RX4 43 "GlacierHut$Stores" "lots" "I", Cond.fieldLink RX4 47 "GlacierHut$Stores" "onPallet" "I"]
def wsX6_restore_r3 : List Cond := [Cond.methodLink RX1 40 yX2_copyFrom, Cond.instanceMethod yX2_copyFrom, Cond.selects RX2 yX2_copyFrom yX2_copyFrom, Cond.initialized RX2, Cond.code yX2_copyFrom cX2_copyFrom 2 none, Cond.fieldLink RX2 9 "GlacierHut$Parties" "size" "[I", Cond.methodLink RX2 28 arraycopyName, Cond.fieldLink RX2 13 "GlacierHut$Parties" "day" "[I", Cond.fieldLink RX2 16 "GlacierHut$Parties" "nights" "[I", Cond.fieldLink RX2 19 "GlacierHut$Parties" "status" "[I", Cond.fieldLink RX2 22 "GlacierHut$Parties" "slept" "[I", Cond.fieldLink RX2 25 "GlacierHut$Parties" "came" "[I", Cond.fieldLink RX2 34 "GlacierHut$Parties" "number" "I", Cond.methodLink RX6 198 yX1_copyFrom, Cond.methodLink RX6 56 yX6_recorded, Cond.instanceMethod yX6_recorded, Cond.selects RX6 yX6_recorded yX6_recorded, Cond.initialized RX6, Cond.code yX6_recorded cX6_recorded 2 (some .int), Cond.methodLink RX6 241 yX0_commit, Cond.instanceMethod yX0_commit, Cond.selects RX0 yX0_commit yX0_commit, Cond.code yX0_commit cX0_commit 3 none]
def wsX6_restore : List Cond := .code yX6_restore cX6_restore 1 (some .int) :: ((wsX6_restore_r1 ++ (wsX6_restore_r2 ++ wsX6_restore_r3)) ++ wsX60 ++ wsX10 ++ wsX00 ++ wsX40 ++ wsX20)
def wsX6_undo_r1 : List Cond := [Cond.fieldLink RX6 25 "GlacierHut" "history" "LGlacierHut$History;", Cond.fieldLink RX6 188 "GlacierHut$History" "length" "I", Cond.fieldLink RX6 10 "GlacierHut" "now" "LGlacierHut$Hut;", Cond.methodLink RX6 215 yX0_takeBack, Cond.instanceMethod yX0_takeBack, Cond.selects RX0 yX0_takeBack yX0_takeBack, Cond.initialized RX0, Cond.code yX0_takeBack cX0_takeBack 3 none, Cond.fieldLink RX0 16 "GlacierHut$History" "length" "I", Cond.fieldLink RX0 11 "GlacierHut$History" "states" "[LGlacierHut$Hut;", Cond.methodLink RX0 20 yX1_copyFrom, Cond.instanceMethod yX1_copyFrom, Cond.selects RX1 yX1_copyFrom yX1_copyFrom, Cond.initialized RX1, Cond.code yX1_copyFrom cX1_copyFrom 2 none, Cond.fieldLink RX1 12 "GlacierHut$Hut" "stores" "LGlacierHut$Stores;", Cond.fieldLink RX1 21 "GlacierHut$Hut" "parties" "LGlacierHut$Parties;", Cond.fieldLink RX1 25 "GlacierHut$Hut" "storms" "[Z", Cond.methodLink RX1 43 arraycopyName, Cond.native arraycopyName, Cond.static arraycopyName, Cond.initialized "java/lang/System", Cond.fieldLink RX1 29 "GlacierHut$Hut" "settings" "[I", Cond.fieldLink RX1 49 "GlacierHut$Hut" "day" "I"]
def wsX6_undo_r2 : List Cond := [Cond.fieldLink RX1 53 "GlacierHut$Hut" "flights" "I", Cond.fieldLink RX1 56 "GlacierHut$Hut" "hungry" "I", Cond.fieldLink RX1 59 "GlacierHut$Hut" "coldNights" "I", Cond.fieldLink RX1 62 "GlacierHut$Hut" "guestNights" "I", Cond.fieldLink RX1 65 "GlacierHut$Hut" "cutSuppers" "I", Cond.methodLink RX1 36 yX4_copyFrom, Cond.instanceMethod yX4_copyFrom, Cond.selects RX4 yX4_copyFrom yX4_copyFrom, Cond.initialized RX4, Cond.code yX4_copyFrom cX4_copyFrom 2 none, Cond.fieldLink RX4 9 "GlacierHut$Stores" "lotKind" "[I", Cond.methodLink RX4 37 arraycopyName, Cond.fieldLink RX4 13 "GlacierHut$Stores" "lotAmount" "[I", Cond.fieldLink RX4 16 "GlacierHut$Stores" "lotLast" "[I", Cond.fieldLink RX4 19 "GlacierHut$Stores" "palletKind" "[I", Cond.fieldLink RX4 22 "GlacierHut$Stores" "palletAmount" "[I", Cond.fieldLink RX4 25 "GlacierHut$Stores" "palletDays" "[I", Cond.fieldLink RX4 28 "GlacierHut$Stores" "brought" "[I", Cond.fieldLink RX4 31 "GlacierHut$Stores" "used" "[I", Cond.fieldLink RX4 34 "GlacierHut$Stores" "spoilt" "[I", Cond.fieldLink RX4 43 "GlacierHut$Stores" "lots" "I", Cond.fieldLink RX4 47 "GlacierHut$Stores" "onPallet" "I", Cond.methodLink RX1 40 yX2_copyFrom, Cond.instanceMethod yX2_copyFrom]
def wsX6_undo_r3 : List Cond := [Cond.selects RX2 yX2_copyFrom yX2_copyFrom, Cond.initialized RX2, Cond.code yX2_copyFrom cX2_copyFrom 2 none, Cond.fieldLink RX2 9 "GlacierHut$Parties" "size" "[I", Cond.methodLink RX2 28 arraycopyName, Cond.fieldLink RX2 13 "GlacierHut$Parties" "day" "[I", Cond.fieldLink RX2 16 "GlacierHut$Parties" "nights" "[I", Cond.fieldLink RX2 19 "GlacierHut$Parties" "status" "[I", Cond.fieldLink RX2 22 "GlacierHut$Parties" "slept" "[I", Cond.fieldLink RX2 25 "GlacierHut$Parties" "came" "[I", Cond.fieldLink RX2 34 "GlacierHut$Parties" "number" "I"]
def wsX6_undo : List Cond := .code yX6_undo cX6_undo 1 (some .int) :: ((wsX6_undo_r1 ++ (wsX6_undo_r2 ++ wsX6_undo_r3)) ++ wsX60 ++ wsX00 ++ wsX10 ++ wsX40 ++ wsX20)
def wsX6_type : List Cond := .code yX6_type cX6_type 2 (some .int) :: ([.fieldLink RX6 32 "GlacierHut" "text" "LGlacierHut$Text;", .fieldLink RX6 191 "GlacierHut$Text" "length" "I", .methodLink RX6 218 yX5_append, .instanceMethod yX5_append, .selects RX5 yX5_append yX5_append, .initialized RX5, .code yX5_append cX5_append 2 none, .fieldLink RX5 17 "GlacierHut$Text" "length" "I", .fieldLink RX5 9 "GlacierHut$Text" "characters" "[C"] ++ wsX60 ++ wsX50)
def wsX6_clearText : List Cond := .code yX6_clearText cX6_clearText 2 (some .int) :: ([.fieldLink RX6 32 "GlacierHut" "text" "LGlacierHut$Text;", .fieldLink RX6 191 "GlacierHut$Text" "length" "I"] ++ wsX60 ++ wsX50)
def wsX6_fault_r1 : List Cond := [Cond.fieldLink RX6 41 "GlacierHut" "rehearsal" "LGlacierHut$Rehearsal;", Cond.fieldLink RX6 32 "GlacierHut" "text" "LGlacierHut$Text;", Cond.fieldLink RX6 10 "GlacierHut" "now" "LGlacierHut$Hut;", Cond.fieldLink RX6 226 "GlacierHut$Rehearsal" "reason" "I", Cond.fieldLink RX6 229 "GlacierHut$Rehearsal" "position" "I", Cond.fieldLink RX6 232 "GlacierHut$Rehearsal" "cause" "I", Cond.methodLink RX6 222 yX3_run, Cond.instanceMethod yX3_run, Cond.selects RX3 yX3_run yX3_run, Cond.initialized RX3, Cond.code yX3_run cX3_run 5 none, Cond.fieldLink RX3 12 "GlacierHut$Rehearsal" "hut" "LGlacierHut$Hut;", Cond.fieldLink RX3 25 "GlacierHut$Rehearsal" "commands" "I", Cond.fieldLink RX3 29 "GlacierHut$Rehearsal" "position" "I", Cond.fieldLink RX3 32 "GlacierHut$Rehearsal" "reason" "I", Cond.fieldLink RX3 35 "GlacierHut$Rehearsal" "cause" "I", Cond.fieldLink RX3 40 "GlacierHut$Text" "length" "I", Cond.fieldLink RX3 47 "GlacierHut$Text" "letter" "C", Cond.fieldLink RX3 51 "GlacierHut$Text" "numbers" "[I", Cond.fieldLink RX3 59 "GlacierHut$Text" "next" "I", Cond.methodLink RX3 21 yX1_copyFrom, Cond.instanceMethod yX1_copyFrom, Cond.selects RX1 yX1_copyFrom yX1_copyFrom, Cond.initialized RX1]
def wsX6_fault_r2 : List Cond := [Cond.code yX1_copyFrom cX1_copyFrom 2 none, Cond.fieldLink RX1 12 "GlacierHut$Hut" "stores" "LGlacierHut$Stores;", Cond.fieldLink RX1 21 "GlacierHut$Hut" "parties" "LGlacierHut$Parties;", Cond.fieldLink RX1 25 "GlacierHut$Hut" "storms" "[Z", Cond.methodLink RX1 43 arraycopyName, Cond.native arraycopyName, Cond.static arraycopyName, Cond.initialized "java/lang/System", Cond.fieldLink RX1 29 "GlacierHut$Hut" "settings" "[I", Cond.fieldLink RX1 49 "GlacierHut$Hut" "day" "I", Cond.fieldLink RX1 53 "GlacierHut$Hut" "flights" "I", Cond.fieldLink RX1 56 "GlacierHut$Hut" "hungry" "I", Cond.fieldLink RX1 59 "GlacierHut$Hut" "coldNights" "I", Cond.fieldLink RX1 62 "GlacierHut$Hut" "guestNights" "I", Cond.fieldLink RX1 65 "GlacierHut$Hut" "cutSuppers" "I", Cond.methodLink RX1 36 yX4_copyFrom, Cond.instanceMethod yX4_copyFrom, Cond.selects RX4 yX4_copyFrom yX4_copyFrom, Cond.initialized RX4, Cond.code yX4_copyFrom cX4_copyFrom 2 none, Cond.fieldLink RX4 9 "GlacierHut$Stores" "lotKind" "[I", Cond.methodLink RX4 37 arraycopyName, Cond.fieldLink RX4 13 "GlacierHut$Stores" "lotAmount" "[I", Cond.fieldLink RX4 16 "GlacierHut$Stores" "lotLast" "[I"]
def wsX6_fault_r3 : List Cond := [Cond.fieldLink RX4 19 "GlacierHut$Stores" "palletKind" "[I", Cond.fieldLink RX4 22 "GlacierHut$Stores" "palletAmount" "[I", Cond.fieldLink RX4 25 "GlacierHut$Stores" "palletDays" "[I", Cond.fieldLink RX4 28 "GlacierHut$Stores" "brought" "[I", Cond.fieldLink RX4 31 "GlacierHut$Stores" "used" "[I", Cond.fieldLink RX4 34 "GlacierHut$Stores" "spoilt" "[I", Cond.fieldLink RX4 43 "GlacierHut$Stores" "lots" "I", Cond.fieldLink RX4 47 "GlacierHut$Stores" "onPallet" "I", Cond.methodLink RX1 40 yX2_copyFrom, Cond.instanceMethod yX2_copyFrom, Cond.selects RX2 yX2_copyFrom yX2_copyFrom, Cond.initialized RX2, Cond.code yX2_copyFrom cX2_copyFrom 2 none, Cond.fieldLink RX2 9 "GlacierHut$Parties" "size" "[I", Cond.methodLink RX2 28 arraycopyName, Cond.fieldLink RX2 13 "GlacierHut$Parties" "day" "[I", Cond.fieldLink RX2 16 "GlacierHut$Parties" "nights" "[I", Cond.fieldLink RX2 19 "GlacierHut$Parties" "status" "[I", Cond.fieldLink RX2 22 "GlacierHut$Parties" "slept" "[I", Cond.fieldLink RX2 25 "GlacierHut$Parties" "came" "[I", Cond.fieldLink RX2 34 "GlacierHut$Parties" "number" "I", Cond.methodLink RX3 43 yX5_readCommand, Cond.instanceMethod yX5_readCommand, Cond.selects RX5 yX5_readCommand yX5_readCommand]
def wsX6_fault_r4 : List Cond := [Cond.initialized RX5, Cond.code yX5_readCommand cX5_readCommand 4 (some .boolean), Cond.fieldLink RX5 25 "GlacierHut$Text" "letter" "C", Cond.fieldLink RX5 29 "GlacierHut$Text" "next" "I", Cond.fieldLink RX5 13 "GlacierHut$Text" "numbers" "[I", Cond.methodLink RX5 21 yX5_at, Cond.instanceMethod yX5_at, Cond.selects RX5 yX5_at yX5_at, Cond.code yX5_at cX5_at 2 (some .char), Cond.fieldLink RX5 17 "GlacierHut$Text" "length" "I", Cond.fieldLink RX5 9 "GlacierHut$Text" "characters" "[C", Cond.methodLink RX5 32 yX5_numbersOf, Cond.instanceMethod yX5_numbersOf, Cond.selects RX5 yX5_numbersOf yX5_numbersOf, Cond.code yX5_numbersOf cX5_numbersOf 2 (some .int), Cond.methodLink RX5 36 yX5_passes, Cond.instanceMethod yX5_passes, Cond.selects RX5 yX5_passes yX5_passes, Cond.code yX5_passes cX5_passes 2 (some .boolean), Cond.methodLink RX5 40 yX5_readNumber, Cond.instanceMethod yX5_readNumber, Cond.selects RX5 yX5_readNumber yX5_readNumber, Cond.code yX5_readNumber cX5_readNumber 4 (some .int), Cond.methodLink RX5 44 Lib.Math.max.name]
def wsX6_fault_r5 : List Cond := [Cond.static Lib.Math.max.name, Cond.initialized "java/lang/Math", Cond.code Lib.Math.max.name Lib.Math.max.code 2 (some .int), Cond.methodLink RX3 55 yX3_obey, Cond.instanceMethod yX3_obey, Cond.selects RX3 yX3_obey yX3_obey, Cond.code yX3_obey cX3_obey 3 (some .int), Cond.fieldLink RX3 18 "GlacierHut$Rehearsal" "trial" "LGlacierHut$Hut;", Cond.methodLink RX3 62 yX1_putOnPallet, Cond.instanceMethod yX1_putOnPallet, Cond.selects RX1 yX1_putOnPallet yX1_putOnPallet, Cond.code yX1_putOnPallet cX1_putOnPallet 4 (some .int), Cond.fieldLink RX1 72 "GlacierHut$Stores" "onPallet" "I", Cond.methodLink RX1 68 yX4_isKind, Cond.static yX4_isKind, Cond.code yX4_isKind cX4_isKind 1 (some .boolean), Cond.methodLink RX1 75 yX4_addToPallet, Cond.instanceMethod yX4_addToPallet, Cond.selects RX4 yX4_addToPallet yX4_addToPallet, Cond.code yX4_addToPallet cX4_addToPallet 4 none, Cond.methodLink RX3 66 yX1_bringPallet, Cond.instanceMethod yX1_bringPallet, Cond.selects RX1 yX1_bringPallet yX1_bringPallet, Cond.code yX1_bringPallet cX1_bringPallet 2 (some .int)]
def wsX6_fault_r6 : List Cond := [Cond.fieldLink RX1 83 "GlacierHut$Stores" "lots" "I", Cond.methodLink RX1 79 yX1_isStorm, Cond.instanceMethod yX1_isStorm, Cond.selects RX1 yX1_isStorm yX1_isStorm, Cond.code yX1_isStorm cX1_isStorm 1 (some .boolean), Cond.methodLink RX1 86 yX4_unloadPallet, Cond.instanceMethod yX4_unloadPallet, Cond.selects RX4 yX4_unloadPallet yX4_unloadPallet, Cond.code yX4_unloadPallet cX4_unloadPallet 3 none, Cond.methodLink RX4 50 yX4_addLot, Cond.instanceMethod yX4_addLot, Cond.selects RX4 yX4_addLot yX4_addLot, Cond.code yX4_addLot cX4_addLot 5 none, Cond.methodLink RX4 54 yX4_isKind, Cond.methodLink RX3 70 yX1_takeBooking, Cond.instanceMethod yX1_takeBooking, Cond.selects RX1 yX1_takeBooking yX1_takeBooking, Cond.code yX1_takeBooking cX1_takeBooking 5 (some .int), Cond.fieldLink RX1 98 "GlacierHut$Parties" "number" "I", Cond.methodLink RX1 90 yX1_mayBeBooked, Cond.instanceMethod yX1_mayBeBooked, Cond.selects RX1 yX1_mayBeBooked yX1_mayBeBooked, Cond.code yX1_mayBeBooked cX1_mayBeBooked 4 (some .boolean), Cond.methodLink RX1 94 yX1_wouldSuffice]
def wsX6_fault_r7 : List Cond := [Cond.instanceMethod yX1_wouldSuffice, Cond.selects RX1 yX1_wouldSuffice yX1_wouldSuffice, Cond.code yX1_wouldSuffice cX1_wouldSuffice 6 (some .boolean), Cond.methodLink RX1 104 yX1_copyFrom, Cond.methodLink RX1 101 yX2_add, Cond.instanceMethod yX2_add, Cond.selects RX2 yX2_add yX2_add, Cond.code yX2_add cX2_add 4 none, Cond.methodLink RX1 107 yX2_anyAwaited, Cond.instanceMethod yX2_anyAwaited, Cond.selects RX2 yX2_anyAwaited yX2_anyAwaited, Cond.code yX2_anyAwaited cX2_anyAwaited 2 (some .boolean), Cond.methodLink RX1 110 yX1_passNight, Cond.instanceMethod yX1_passNight, Cond.selects RX1 yX1_passNight yX1_passNight, Cond.code yX1_passNight cX1_passNight 9 (some .boolean), Cond.methodLink RX1 144 Lib.Math.min.name, Cond.static Lib.Math.min.name, Cond.code Lib.Math.min.name Lib.Math.min.code 2 (some .int), Cond.methodLink RX1 123 yX2_leave, Cond.instanceMethod yX2_leave, Cond.selects RX2 yX2_leave yX2_leave, Cond.code yX2_leave cX2_leave 2 none, Cond.methodLink RX1 126 yX2_guests]
def wsX6_fault_r8 : List Cond := [Cond.instanceMethod yX2_guests, Cond.selects RX2 yX2_guests yX2_guests, Cond.code yX2_guests cX2_guests 3 (some .int), Cond.methodLink RX1 130 yX2_arrive, Cond.instanceMethod yX2_arrive, Cond.selects RX2 yX2_arrive yX2_arrive, Cond.code yX2_arrive cX2_arrive 7 (some .boolean), Cond.methodLink RX1 134 yX4_stock, Cond.instanceMethod yX4_stock, Cond.selects RX4 yX4_stock yX4_stock, Cond.code yX4_stock cX4_stock 4 (some .int), Cond.methodLink RX1 137 yX1_rationFor, Cond.instanceMethod yX1_rationFor, Cond.selects RX1 yX1_rationFor yX1_rationFor, Cond.code yX1_rationFor cX1_rationFor 4 (some .int), Cond.methodLink RX1 141 yX4_take, Cond.instanceMethod yX4_take, Cond.selects RX4 yX4_take yX4_take, Cond.code yX4_take cX4_take 7 (some .int), Cond.methodLink RX1 149 yX1_gasFor, Cond.instanceMethod yX1_gasFor, Cond.selects RX1 yX1_gasFor yX1_gasFor, Cond.code yX1_gasFor cX1_gasFor 3 (some .int), Cond.methodLink RX1 153 yX2_sleepOnce]
def wsX6_fault_r9 : List Cond := [Cond.instanceMethod yX2_sleepOnce, Cond.selects RX2 yX2_sleepOnce yX2_sleepOnce, Cond.code yX2_sleepOnce cX2_sleepOnce 2 none, Cond.methodLink RX1 156 yX4_spoil, Cond.instanceMethod yX4_spoil, Cond.selects RX4 yX4_spoil yX4_spoil, Cond.code yX4_spoil cX4_spoil 4 none, Cond.methodLink RX1 159 yX4_dropEmptyLots, Cond.instanceMethod yX4_dropEmptyLots, Cond.selects RX4 yX4_dropEmptyLots yX4_dropEmptyLots, Cond.code yX4_dropEmptyLots cX4_dropEmptyLots 3 none, Cond.methodLink RX3 74 yX1_callOff, Cond.instanceMethod yX1_callOff, Cond.selects RX1 yX1_callOff yX1_callOff, Cond.code yX1_callOff cX1_callOff 2 (some .int), Cond.fieldLink RX1 116 "GlacierHut$Parties" "status" "[I", Cond.methodLink RX1 113 yX2_has, Cond.instanceMethod yX2_has, Cond.selects RX2 yX2_has yX2_has, Cond.code yX2_has cX2_has 2 (some .boolean), Cond.methodLink RX1 119 yX2_withStatus, Cond.instanceMethod yX2_withStatus, Cond.selects RX2 yX2_withStatus yX2_withStatus, Cond.code yX2_withStatus cX2_withStatus 4 (some .int)]
def wsX6_fault_r10 : List Cond := [Cond.methodLink RX3 78 yX1_tellStorm, Cond.instanceMethod yX1_tellStorm, Cond.selects RX1 yX1_tellStorm yX1_tellStorm, Cond.code yX1_tellStorm cX1_tellStorm 6 (some .int), Cond.methodLink RX3 82 yX1_passNights, Cond.instanceMethod yX1_passNights, Cond.selects RX1 yX1_passNights yX1_passNights, Cond.code yX1_passNights cX1_passNights 4 (some .int)]
def wsX6_fault : List Cond := .code yX6_fault cX6_fault 2 (some .int) :: ((wsX6_fault_r1 ++ (wsX6_fault_r2 ++ (wsX6_fault_r3 ++ (wsX6_fault_r4 ++ (wsX6_fault_r5 ++ (wsX6_fault_r6 ++ (wsX6_fault_r7 ++ (wsX6_fault_r8 ++ (wsX6_fault_r9 ++ wsX6_fault_r10))))))))) ++ wsX60 ++ wsX30 ++ wsX50 ++ wsX10 ++ wsX40 ++ wsX20)
def wsX6_play_r1 : List Cond := [Cond.fieldLink RX6 41 "GlacierHut" "rehearsal" "LGlacierHut$Rehearsal;", Cond.fieldLink RX6 32 "GlacierHut" "text" "LGlacierHut$Text;", Cond.fieldLink RX6 10 "GlacierHut" "now" "LGlacierHut$Hut;", Cond.fieldLink RX6 226 "GlacierHut$Rehearsal" "reason" "I", Cond.fieldLink RX6 25 "GlacierHut" "history" "LGlacierHut$History;", Cond.fieldLink RX6 235 "GlacierHut$Rehearsal" "hut" "LGlacierHut$Hut;", Cond.fieldLink RX6 238 "GlacierHut$Rehearsal" "commands" "I", Cond.methodLink RX6 222 yX3_run, Cond.instanceMethod yX3_run, Cond.selects RX3 yX3_run yX3_run, Cond.initialized RX3, Cond.code yX3_run cX3_run 5 none, Cond.fieldLink RX3 12 "GlacierHut$Rehearsal" "hut" "LGlacierHut$Hut;", Cond.fieldLink RX3 25 "GlacierHut$Rehearsal" "commands" "I", Cond.fieldLink RX3 29 "GlacierHut$Rehearsal" "position" "I", Cond.fieldLink RX3 32 "GlacierHut$Rehearsal" "reason" "I", Cond.fieldLink RX3 35 "GlacierHut$Rehearsal" "cause" "I", Cond.fieldLink RX3 40 "GlacierHut$Text" "length" "I", Cond.fieldLink RX3 47 "GlacierHut$Text" "letter" "C", Cond.fieldLink RX3 51 "GlacierHut$Text" "numbers" "[I", Cond.fieldLink RX3 59 "GlacierHut$Text" "next" "I", Cond.methodLink RX3 21 yX1_copyFrom, Cond.instanceMethod yX1_copyFrom, Cond.selects RX1 yX1_copyFrom yX1_copyFrom]
def wsX6_play_r2 : List Cond := [Cond.initialized RX1, Cond.code yX1_copyFrom cX1_copyFrom 2 none, Cond.fieldLink RX1 12 "GlacierHut$Hut" "stores" "LGlacierHut$Stores;", Cond.fieldLink RX1 21 "GlacierHut$Hut" "parties" "LGlacierHut$Parties;", Cond.fieldLink RX1 25 "GlacierHut$Hut" "storms" "[Z", Cond.methodLink RX1 43 arraycopyName, Cond.native arraycopyName, Cond.static arraycopyName, Cond.initialized "java/lang/System", Cond.fieldLink RX1 29 "GlacierHut$Hut" "settings" "[I", Cond.fieldLink RX1 49 "GlacierHut$Hut" "day" "I", Cond.fieldLink RX1 53 "GlacierHut$Hut" "flights" "I", Cond.fieldLink RX1 56 "GlacierHut$Hut" "hungry" "I", Cond.fieldLink RX1 59 "GlacierHut$Hut" "coldNights" "I", Cond.fieldLink RX1 62 "GlacierHut$Hut" "guestNights" "I", Cond.fieldLink RX1 65 "GlacierHut$Hut" "cutSuppers" "I", Cond.methodLink RX1 36 yX4_copyFrom, Cond.instanceMethod yX4_copyFrom, Cond.selects RX4 yX4_copyFrom yX4_copyFrom, Cond.initialized RX4, Cond.code yX4_copyFrom cX4_copyFrom 2 none, Cond.fieldLink RX4 9 "GlacierHut$Stores" "lotKind" "[I", Cond.methodLink RX4 37 arraycopyName, Cond.fieldLink RX4 13 "GlacierHut$Stores" "lotAmount" "[I"]
def wsX6_play_r3 : List Cond := [Cond.fieldLink RX4 16 "GlacierHut$Stores" "lotLast" "[I", Cond.fieldLink RX4 19 "GlacierHut$Stores" "palletKind" "[I", Cond.fieldLink RX4 22 "GlacierHut$Stores" "palletAmount" "[I", Cond.fieldLink RX4 25 "GlacierHut$Stores" "palletDays" "[I", Cond.fieldLink RX4 28 "GlacierHut$Stores" "brought" "[I", Cond.fieldLink RX4 31 "GlacierHut$Stores" "used" "[I", Cond.fieldLink RX4 34 "GlacierHut$Stores" "spoilt" "[I", Cond.fieldLink RX4 43 "GlacierHut$Stores" "lots" "I", Cond.fieldLink RX4 47 "GlacierHut$Stores" "onPallet" "I", Cond.methodLink RX1 40 yX2_copyFrom, Cond.instanceMethod yX2_copyFrom, Cond.selects RX2 yX2_copyFrom yX2_copyFrom, Cond.initialized RX2, Cond.code yX2_copyFrom cX2_copyFrom 2 none, Cond.fieldLink RX2 9 "GlacierHut$Parties" "size" "[I", Cond.methodLink RX2 28 arraycopyName, Cond.fieldLink RX2 13 "GlacierHut$Parties" "day" "[I", Cond.fieldLink RX2 16 "GlacierHut$Parties" "nights" "[I", Cond.fieldLink RX2 19 "GlacierHut$Parties" "status" "[I", Cond.fieldLink RX2 22 "GlacierHut$Parties" "slept" "[I", Cond.fieldLink RX2 25 "GlacierHut$Parties" "came" "[I", Cond.fieldLink RX2 34 "GlacierHut$Parties" "number" "I", Cond.methodLink RX3 43 yX5_readCommand, Cond.instanceMethod yX5_readCommand]
def wsX6_play_r4 : List Cond := [Cond.selects RX5 yX5_readCommand yX5_readCommand, Cond.initialized RX5, Cond.code yX5_readCommand cX5_readCommand 4 (some .boolean), Cond.fieldLink RX5 25 "GlacierHut$Text" "letter" "C", Cond.fieldLink RX5 29 "GlacierHut$Text" "next" "I", Cond.fieldLink RX5 13 "GlacierHut$Text" "numbers" "[I", Cond.methodLink RX5 21 yX5_at, Cond.instanceMethod yX5_at, Cond.selects RX5 yX5_at yX5_at, Cond.code yX5_at cX5_at 2 (some .char), Cond.fieldLink RX5 17 "GlacierHut$Text" "length" "I", Cond.fieldLink RX5 9 "GlacierHut$Text" "characters" "[C", Cond.methodLink RX5 32 yX5_numbersOf, Cond.instanceMethod yX5_numbersOf, Cond.selects RX5 yX5_numbersOf yX5_numbersOf, Cond.code yX5_numbersOf cX5_numbersOf 2 (some .int), Cond.methodLink RX5 36 yX5_passes, Cond.instanceMethod yX5_passes, Cond.selects RX5 yX5_passes yX5_passes, Cond.code yX5_passes cX5_passes 2 (some .boolean), Cond.methodLink RX5 40 yX5_readNumber, Cond.instanceMethod yX5_readNumber, Cond.selects RX5 yX5_readNumber yX5_readNumber, Cond.code yX5_readNumber cX5_readNumber 4 (some .int)]
def wsX6_play_r5 : List Cond := [Cond.methodLink RX5 44 Lib.Math.max.name, Cond.static Lib.Math.max.name, Cond.initialized "java/lang/Math", Cond.code Lib.Math.max.name Lib.Math.max.code 2 (some .int), Cond.methodLink RX3 55 yX3_obey, Cond.instanceMethod yX3_obey, Cond.selects RX3 yX3_obey yX3_obey, Cond.code yX3_obey cX3_obey 3 (some .int), Cond.fieldLink RX3 18 "GlacierHut$Rehearsal" "trial" "LGlacierHut$Hut;", Cond.methodLink RX3 62 yX1_putOnPallet, Cond.instanceMethod yX1_putOnPallet, Cond.selects RX1 yX1_putOnPallet yX1_putOnPallet, Cond.code yX1_putOnPallet cX1_putOnPallet 4 (some .int), Cond.fieldLink RX1 72 "GlacierHut$Stores" "onPallet" "I", Cond.methodLink RX1 68 yX4_isKind, Cond.static yX4_isKind, Cond.code yX4_isKind cX4_isKind 1 (some .boolean), Cond.methodLink RX1 75 yX4_addToPallet, Cond.instanceMethod yX4_addToPallet, Cond.selects RX4 yX4_addToPallet yX4_addToPallet, Cond.code yX4_addToPallet cX4_addToPallet 4 none, Cond.methodLink RX3 66 yX1_bringPallet, Cond.instanceMethod yX1_bringPallet, Cond.selects RX1 yX1_bringPallet yX1_bringPallet]
def wsX6_play_r6 : List Cond := [Cond.code yX1_bringPallet cX1_bringPallet 2 (some .int), Cond.fieldLink RX1 83 "GlacierHut$Stores" "lots" "I", Cond.methodLink RX1 79 yX1_isStorm, Cond.instanceMethod yX1_isStorm, Cond.selects RX1 yX1_isStorm yX1_isStorm, Cond.code yX1_isStorm cX1_isStorm 1 (some .boolean), Cond.methodLink RX1 86 yX4_unloadPallet, Cond.instanceMethod yX4_unloadPallet, Cond.selects RX4 yX4_unloadPallet yX4_unloadPallet, Cond.code yX4_unloadPallet cX4_unloadPallet 3 none, Cond.methodLink RX4 50 yX4_addLot, Cond.instanceMethod yX4_addLot, Cond.selects RX4 yX4_addLot yX4_addLot, Cond.code yX4_addLot cX4_addLot 5 none, Cond.methodLink RX4 54 yX4_isKind, Cond.methodLink RX3 70 yX1_takeBooking, Cond.instanceMethod yX1_takeBooking, Cond.selects RX1 yX1_takeBooking yX1_takeBooking, Cond.code yX1_takeBooking cX1_takeBooking 5 (some .int), Cond.fieldLink RX1 98 "GlacierHut$Parties" "number" "I", Cond.methodLink RX1 90 yX1_mayBeBooked, Cond.instanceMethod yX1_mayBeBooked, Cond.selects RX1 yX1_mayBeBooked yX1_mayBeBooked, Cond.code yX1_mayBeBooked cX1_mayBeBooked 4 (some .boolean)]
def wsX6_play_r7 : List Cond := [Cond.methodLink RX1 94 yX1_wouldSuffice, Cond.instanceMethod yX1_wouldSuffice, Cond.selects RX1 yX1_wouldSuffice yX1_wouldSuffice, Cond.code yX1_wouldSuffice cX1_wouldSuffice 6 (some .boolean), Cond.methodLink RX1 104 yX1_copyFrom, Cond.methodLink RX1 101 yX2_add, Cond.instanceMethod yX2_add, Cond.selects RX2 yX2_add yX2_add, Cond.code yX2_add cX2_add 4 none, Cond.methodLink RX1 107 yX2_anyAwaited, Cond.instanceMethod yX2_anyAwaited, Cond.selects RX2 yX2_anyAwaited yX2_anyAwaited, Cond.code yX2_anyAwaited cX2_anyAwaited 2 (some .boolean), Cond.methodLink RX1 110 yX1_passNight, Cond.instanceMethod yX1_passNight, Cond.selects RX1 yX1_passNight yX1_passNight, Cond.code yX1_passNight cX1_passNight 9 (some .boolean), Cond.methodLink RX1 144 Lib.Math.min.name, Cond.static Lib.Math.min.name, Cond.code Lib.Math.min.name Lib.Math.min.code 2 (some .int), Cond.methodLink RX1 123 yX2_leave, Cond.instanceMethod yX2_leave, Cond.selects RX2 yX2_leave yX2_leave, Cond.code yX2_leave cX2_leave 2 none]
def wsX6_play_r8 : List Cond := [Cond.methodLink RX1 126 yX2_guests, Cond.instanceMethod yX2_guests, Cond.selects RX2 yX2_guests yX2_guests, Cond.code yX2_guests cX2_guests 3 (some .int), Cond.methodLink RX1 130 yX2_arrive, Cond.instanceMethod yX2_arrive, Cond.selects RX2 yX2_arrive yX2_arrive, Cond.code yX2_arrive cX2_arrive 7 (some .boolean), Cond.methodLink RX1 134 yX4_stock, Cond.instanceMethod yX4_stock, Cond.selects RX4 yX4_stock yX4_stock, Cond.code yX4_stock cX4_stock 4 (some .int), Cond.methodLink RX1 137 yX1_rationFor, Cond.instanceMethod yX1_rationFor, Cond.selects RX1 yX1_rationFor yX1_rationFor, Cond.code yX1_rationFor cX1_rationFor 4 (some .int), Cond.methodLink RX1 141 yX4_take, Cond.instanceMethod yX4_take, Cond.selects RX4 yX4_take yX4_take, Cond.code yX4_take cX4_take 7 (some .int), Cond.methodLink RX1 149 yX1_gasFor, Cond.instanceMethod yX1_gasFor, Cond.selects RX1 yX1_gasFor yX1_gasFor, Cond.code yX1_gasFor cX1_gasFor 3 (some .int)]
def wsX6_play_r9 : List Cond := [Cond.methodLink RX1 153 yX2_sleepOnce, Cond.instanceMethod yX2_sleepOnce, Cond.selects RX2 yX2_sleepOnce yX2_sleepOnce, Cond.code yX2_sleepOnce cX2_sleepOnce 2 none, Cond.methodLink RX1 156 yX4_spoil, Cond.instanceMethod yX4_spoil, Cond.selects RX4 yX4_spoil yX4_spoil, Cond.code yX4_spoil cX4_spoil 4 none, Cond.methodLink RX1 159 yX4_dropEmptyLots, Cond.instanceMethod yX4_dropEmptyLots, Cond.selects RX4 yX4_dropEmptyLots yX4_dropEmptyLots, Cond.code yX4_dropEmptyLots cX4_dropEmptyLots 3 none, Cond.methodLink RX3 74 yX1_callOff, Cond.instanceMethod yX1_callOff, Cond.selects RX1 yX1_callOff yX1_callOff, Cond.code yX1_callOff cX1_callOff 2 (some .int), Cond.fieldLink RX1 116 "GlacierHut$Parties" "status" "[I", Cond.methodLink RX1 113 yX2_has, Cond.instanceMethod yX2_has, Cond.selects RX2 yX2_has yX2_has, Cond.code yX2_has cX2_has 2 (some .boolean), Cond.methodLink RX1 119 yX2_withStatus, Cond.instanceMethod yX2_withStatus, Cond.selects RX2 yX2_withStatus yX2_withStatus]
def wsX6_play_r10 : List Cond := [Cond.code yX2_withStatus cX2_withStatus 4 (some .int), Cond.methodLink RX3 78 yX1_tellStorm, Cond.instanceMethod yX1_tellStorm, Cond.selects RX1 yX1_tellStorm yX1_tellStorm, Cond.code yX1_tellStorm cX1_tellStorm 6 (some .int), Cond.methodLink RX3 82 yX1_passNights, Cond.instanceMethod yX1_passNights, Cond.selects RX1 yX1_passNights yX1_passNights, Cond.code yX1_passNights cX1_passNights 4 (some .int), Cond.methodLink RX6 49 yX0_prepare, Cond.instanceMethod yX0_prepare, Cond.selects RX0 yX0_prepare yX0_prepare, Cond.initialized RX0, Cond.code yX0_prepare cX0_prepare 3 none, Cond.fieldLink RX0 16 "GlacierHut$History" "length" "I", Cond.fieldLink RX0 11 "GlacierHut$History" "states" "[LGlacierHut$Hut;", Cond.methodLink RX0 20 yX1_copyFrom, Cond.methodLink RX6 198 yX1_copyFrom, Cond.methodLink RX6 56 yX6_recorded, Cond.instanceMethod yX6_recorded, Cond.selects RX6 yX6_recorded yX6_recorded, Cond.initialized RX6, Cond.code yX6_recorded cX6_recorded 2 (some .int), Cond.methodLink RX6 241 yX0_commit]
def wsX6_play_r11 : List Cond := [Cond.instanceMethod yX0_commit, Cond.selects RX0 yX0_commit yX0_commit, Cond.code yX0_commit cX0_commit 3 none]
def wsX6_play : List Cond := .code yX6_play cX6_play 1 (some .int) :: ((wsX6_play_r1 ++ (wsX6_play_r2 ++ (wsX6_play_r3 ++ (wsX6_play_r4 ++ (wsX6_play_r5 ++ (wsX6_play_r6 ++ (wsX6_play_r7 ++ (wsX6_play_r8 ++ (wsX6_play_r9 ++ (wsX6_play_r10 ++ wsX6_play_r11)))))))))) ++ wsX60 ++ wsX30 ++ wsX50 ++ wsX10 ++ wsX40 ++ wsX20 ++ wsX00)
def wsX7_init : List Cond := .code yX7_init cX7_init 1 none :: ([.methodLink RX7 1 objectInit, .instanceMethod objectInit, .code objectInit ⟨#[0xb1]⟩ 1 none, .arrayClass .int, .fieldLink RX7 7 "GlacierHutModel" "s" "[I", .fieldLink RX7 13 "GlacierHutModel" "begun" "[I", .fieldLink RX7 16 "GlacierHutModel" "kept" "[I", .fieldLink RX7 19 "GlacierHutModel" "past" "[I", .fieldLink RX7 22 "GlacierHutModel" "text" "[I", .fieldLink RX7 25 "GlacierHutModel" "aside" "[I", .fieldLink RX7 28 "GlacierHutModel" "numbers" "[I"] ++ wsX70)
def wsX7_in : List Cond := .code yX7_in cX7_in 3 (some .boolean) :: ([])
def wsX7_begins : List Cond := .code yX7_begins cX7_begins 2 none :: ([.fieldLink RX7 13 "GlacierHutModel" "begun" "[I", .fieldLink RX7 7 "GlacierHutModel" "s" "[I"] ++ wsX70)
def wsX7_returns : List Cond := .code yX7_returns cX7_returns 2 none :: ([.fieldLink RX7 7 "GlacierHutModel" "s" "[I", .fieldLink RX7 13 "GlacierHutModel" "begun" "[I"] ++ wsX70)
def wsX7_acted : List Cond := .code yX7_acted cX7_acted 3 (some .int) :: ([.fieldLink RX7 34 "GlacierHutModel" "states" "I", .fieldLink RX7 19 "GlacierHutModel" "past" "[I", .fieldLink RX7 13 "GlacierHutModel" "begun" "[I", .methodLink RX7 31 yX7_returns, .instanceMethod yX7_returns, .selects RX7 yX7_returns yX7_returns, .initialized RX7, .code yX7_returns cX7_returns 2 none, .fieldLink RX7 7 "GlacierHutModel" "s" "[I"] ++ wsX70)
def wsX7_ofLot : List Cond := .code yX7_ofLot cX7_ofLot 3 (some .int) :: ([.fieldLink RX7 7 "GlacierHutModel" "s" "[I"] ++ wsX70)
def wsX7_stock : List Cond := .code yX7_stock cX7_stock 4 (some .int) :: ([.fieldLink RX7 7 "GlacierHutModel" "s" "[I", .methodLink RX7 38 yX7_ofLot, .instanceMethod yX7_ofLot, .selects RX7 yX7_ofLot yX7_ofLot, .initialized RX7, .code yX7_ofLot cX7_ofLot 3 (some .int)] ++ wsX70)
def wsX7_removes : List Cond := .code yX7_removes cX7_removes 3 none :: ([.fieldLink RX7 7 "GlacierHutModel" "s" "[I"] ++ wsX70)
def wsX7_comes : List Cond := .code yX7_comes cX7_comes 6 none :: ([.fieldLink RX7 7 "GlacierHutModel" "s" "[I", .methodLink RX7 38 yX7_ofLot, .instanceMethod yX7_ofLot, .selects RX7 yX7_ofLot yX7_ofLot, .initialized RX7, .code yX7_ofLot cX7_ofLot 3 (some .int)] ++ wsX70)
def wsX7_firstOf : List Cond := .code yX7_firstOf cX7_firstOf 3 (some .int) :: ([.fieldLink RX7 7 "GlacierHutModel" "s" "[I", .methodLink RX7 38 yX7_ofLot, .instanceMethod yX7_ofLot, .selects RX7 yX7_ofLot yX7_ofLot, .initialized RX7, .code yX7_ofLot cX7_ofLot 3 (some .int)] ++ wsX70)
def wsX7_uses : List Cond := .code yX7_uses cX7_uses 6 (some .int) :: ([.fieldLink RX7 7 "GlacierHutModel" "s" "[I", .methodLink RX7 42 yX7_firstOf, .instanceMethod yX7_firstOf, .selects RX7 yX7_firstOf yX7_firstOf, .initialized RX7, .code yX7_firstOf cX7_firstOf 3 (some .int), .methodLink RX7 38 yX7_ofLot, .instanceMethod yX7_ofLot, .selects RX7 yX7_ofLot yX7_ofLot, .code yX7_ofLot cX7_ofLot 3 (some .int), .methodLink RX7 46 yX7_removes, .instanceMethod yX7_removes, .selects RX7 yX7_removes yX7_removes, .code yX7_removes cX7_removes 3 none] ++ wsX70)
def wsX7_spoils : List Cond := .code yX7_spoils cX7_spoils 2 none :: ([.fieldLink RX7 7 "GlacierHutModel" "s" "[I", .methodLink RX7 38 yX7_ofLot, .instanceMethod yX7_ofLot, .selects RX7 yX7_ofLot yX7_ofLot, .initialized RX7, .code yX7_ofLot cX7_ofLot 3 (some .int), .methodLink RX7 46 yX7_removes, .instanceMethod yX7_removes, .selects RX7 yX7_removes yX7_removes, .code yX7_removes cX7_removes 3 none] ++ wsX70)
def wsX7_ofParty : List Cond := .code yX7_ofParty cX7_ofParty 3 (some .int) :: ([.fieldLink RX7 7 "GlacierHutModel" "s" "[I"] ++ wsX70)
def wsX7_setParty : List Cond := .code yX7_setParty cX7_setParty 4 none :: ([.fieldLink RX7 7 "GlacierHutModel" "s" "[I"] ++ wsX70)
def wsX7_isParty : List Cond := .code yX7_isParty cX7_isParty 2 (some .boolean) :: ([.fieldLink RX7 7 "GlacierHutModel" "s" "[I", .methodLink RX7 50 yX7_in, .static yX7_in, .initialized RX7, .code yX7_in cX7_in 3 (some .boolean)] ++ wsX70)
def wsX7_isStorm : List Cond := .code yX7_isStorm cX7_isStorm 2 (some .boolean) :: ([.fieldLink RX7 7 "GlacierHutModel" "s" "[I"] ++ wsX70)
def wsX7_guests : List Cond := .code yX7_guests cX7_guests 3 (some .int) :: ([.fieldLink RX7 7 "GlacierHutModel" "s" "[I", .methodLink RX7 54 yX7_ofParty, .instanceMethod yX7_ofParty, .selects RX7 yX7_ofParty yX7_ofParty, .initialized RX7, .code yX7_ofParty cX7_ofParty 3 (some .int)] ++ wsX70)
def wsX7_partiesOf : List Cond := .code yX7_partiesOf cX7_partiesOf 4 (some .int) :: ([.fieldLink RX7 7 "GlacierHutModel" "s" "[I", .methodLink RX7 54 yX7_ofParty, .instanceMethod yX7_ofParty, .selects RX7 yX7_ofParty yX7_ofParty, .initialized RX7, .code yX7_ofParty cX7_ofParty 3 (some .int)] ++ wsX70)
def wsX7_isAny : List Cond := .code yX7_isAny cX7_isAny 1 (some .boolean) :: ([.methodLink RX7 57 yX7_partiesOf, .instanceMethod yX7_partiesOf, .selects RX7 yX7_partiesOf yX7_partiesOf, .initialized RX7, .code yX7_partiesOf cX7_partiesOf 4 (some .int), .fieldLink RX7 7 "GlacierHutModel" "s" "[I", .methodLink RX7 54 yX7_ofParty, .instanceMethod yX7_ofParty, .selects RX7 yX7_ofParty yX7_ofParty, .code yX7_ofParty cX7_ofParty 3 (some .int)] ++ wsX70)
def wsX7_leave : List Cond := .code yX7_leave cX7_leave 2 none :: ([.fieldLink RX7 7 "GlacierHutModel" "s" "[I", .methodLink RX7 54 yX7_ofParty, .instanceMethod yX7_ofParty, .selects RX7 yX7_ofParty yX7_ofParty, .initialized RX7, .code yX7_ofParty cX7_ofParty 3 (some .int), .methodLink RX7 60 yX7_setParty, .instanceMethod yX7_setParty, .selects RX7 yX7_setParty yX7_setParty, .code yX7_setParty cX7_setParty 4 none] ++ wsX70)
def wsX7_arrives : List Cond := .code yX7_arrives cX7_arrives 3 none :: ([.fieldLink RX7 7 "GlacierHutModel" "s" "[I", .methodLink RX7 54 yX7_ofParty, .instanceMethod yX7_ofParty, .selects RX7 yX7_ofParty yX7_ofParty, .initialized RX7, .code yX7_ofParty cX7_ofParty 3 (some .int), .methodLink RX7 60 yX7_setParty, .instanceMethod yX7_setParty, .selects RX7 yX7_setParty yX7_setParty, .code yX7_setParty cX7_setParty 4 none, .methodLink RX7 64 yX7_isStorm, .instanceMethod yX7_isStorm, .selects RX7 yX7_isStorm yX7_isStorm, .code yX7_isStorm cX7_isStorm 2 (some .boolean), .methodLink RX7 68 yX7_guests, .instanceMethod yX7_guests, .selects RX7 yX7_guests yX7_guests, .code yX7_guests cX7_guests 3 (some .int)] ++ wsX70)
def wsX7_sups : List Cond := .code yX7_sups cX7_sups 6 none :: ([.fieldLink RX7 7 "GlacierHutModel" "s" "[I", .methodLink RX7 72 yX7_stock, .instanceMethod yX7_stock, .selects RX7 yX7_stock yX7_stock, .initialized RX7, .code yX7_stock cX7_stock 4 (some .int), .methodLink RX7 38 yX7_ofLot, .instanceMethod yX7_ofLot, .selects RX7 yX7_ofLot yX7_ofLot, .code yX7_ofLot cX7_ofLot 3 (some .int), .methodLink RX7 75 yX7_uses, .instanceMethod yX7_uses, .selects RX7 yX7_uses yX7_uses, .code yX7_uses cX7_uses 6 (some .int), .methodLink RX7 42 yX7_firstOf, .instanceMethod yX7_firstOf, .selects RX7 yX7_firstOf yX7_firstOf, .code yX7_firstOf cX7_firstOf 3 (some .int), .methodLink RX7 46 yX7_removes, .instanceMethod yX7_removes, .selects RX7 yX7_removes yX7_removes, .code yX7_removes cX7_removes 3 none] ++ wsX70)
def wsX7_heats : List Cond := .code yX7_heats cX7_heats 3 none :: ([.fieldLink RX7 7 "GlacierHutModel" "s" "[I", .methodLink RX7 64 yX7_isStorm, .instanceMethod yX7_isStorm, .selects RX7 yX7_isStorm yX7_isStorm, .initialized RX7, .code yX7_isStorm cX7_isStorm 2 (some .boolean), .methodLink RX7 75 yX7_uses, .instanceMethod yX7_uses, .selects RX7 yX7_uses yX7_uses, .code yX7_uses cX7_uses 6 (some .int), .methodLink RX7 42 yX7_firstOf, .instanceMethod yX7_firstOf, .selects RX7 yX7_firstOf yX7_firstOf, .code yX7_firstOf cX7_firstOf 3 (some .int), .methodLink RX7 38 yX7_ofLot, .instanceMethod yX7_ofLot, .selects RX7 yX7_ofLot yX7_ofLot, .code yX7_ofLot cX7_ofLot 3 (some .int), .methodLink RX7 46 yX7_removes, .instanceMethod yX7_removes, .selects RX7 yX7_removes yX7_removes, .code yX7_removes cX7_removes 3 none] ++ wsX70)
def wsX7_night_r1 : List Cond := [Cond.fieldLink RX7 7 "GlacierHutModel" "s" "[I", Cond.methodLink RX7 64 yX7_isStorm, Cond.instanceMethod yX7_isStorm, Cond.selects RX7 yX7_isStorm yX7_isStorm, Cond.initialized RX7, Cond.code yX7_isStorm cX7_isStorm 2 (some .boolean), Cond.methodLink RX7 78 yX7_leave, Cond.instanceMethod yX7_leave, Cond.selects RX7 yX7_leave yX7_leave, Cond.code yX7_leave cX7_leave 2 none, Cond.methodLink RX7 54 yX7_ofParty, Cond.instanceMethod yX7_ofParty, Cond.selects RX7 yX7_ofParty yX7_ofParty, Cond.code yX7_ofParty cX7_ofParty 3 (some .int), Cond.methodLink RX7 60 yX7_setParty, Cond.instanceMethod yX7_setParty, Cond.selects RX7 yX7_setParty yX7_setParty, Cond.code yX7_setParty cX7_setParty 4 none, Cond.methodLink RX7 81 yX7_arrives, Cond.instanceMethod yX7_arrives, Cond.selects RX7 yX7_arrives yX7_arrives, Cond.code yX7_arrives cX7_arrives 3 none, Cond.methodLink RX7 68 yX7_guests, Cond.instanceMethod yX7_guests]
def wsX7_night_r2 : List Cond := [Cond.selects RX7 yX7_guests yX7_guests, Cond.code yX7_guests cX7_guests 3 (some .int), Cond.methodLink RX7 84 yX7_sups, Cond.instanceMethod yX7_sups, Cond.selects RX7 yX7_sups yX7_sups, Cond.code yX7_sups cX7_sups 6 none, Cond.methodLink RX7 72 yX7_stock, Cond.instanceMethod yX7_stock, Cond.selects RX7 yX7_stock yX7_stock, Cond.code yX7_stock cX7_stock 4 (some .int), Cond.methodLink RX7 38 yX7_ofLot, Cond.instanceMethod yX7_ofLot, Cond.selects RX7 yX7_ofLot yX7_ofLot, Cond.code yX7_ofLot cX7_ofLot 3 (some .int), Cond.methodLink RX7 75 yX7_uses, Cond.instanceMethod yX7_uses, Cond.selects RX7 yX7_uses yX7_uses, Cond.code yX7_uses cX7_uses 6 (some .int), Cond.methodLink RX7 42 yX7_firstOf, Cond.instanceMethod yX7_firstOf, Cond.selects RX7 yX7_firstOf yX7_firstOf, Cond.code yX7_firstOf cX7_firstOf 3 (some .int), Cond.methodLink RX7 46 yX7_removes, Cond.instanceMethod yX7_removes]
def wsX7_night_r3 : List Cond := [Cond.selects RX7 yX7_removes yX7_removes, Cond.code yX7_removes cX7_removes 3 none, Cond.methodLink RX7 87 yX7_heats, Cond.instanceMethod yX7_heats, Cond.selects RX7 yX7_heats yX7_heats, Cond.code yX7_heats cX7_heats 3 none, Cond.methodLink RX7 90 yX7_spoils, Cond.instanceMethod yX7_spoils, Cond.selects RX7 yX7_spoils yX7_spoils, Cond.code yX7_spoils cX7_spoils 2 none]
def wsX7_night : List Cond := .code yX7_night cX7_night 3 none :: ((wsX7_night_r1 ++ (wsX7_night_r2 ++ wsX7_night_r3)) ++ wsX70)
def wsX7_adds : List Cond := .code yX7_adds cX7_adds 5 none :: ([.fieldLink RX7 7 "GlacierHutModel" "s" "[I", .methodLink RX7 60 yX7_setParty, .instanceMethod yX7_setParty, .selects RX7 yX7_setParty yX7_setParty, .initialized RX7, .code yX7_setParty cX7_setParty 4 none] ++ wsX70)
def wsX7_isTaken_r1 : List Cond := [Cond.fieldLink RX7 25 "GlacierHutModel" "aside" "[I", Cond.fieldLink RX7 7 "GlacierHutModel" "s" "[I", Cond.methodLink RX7 93 yX7_adds, Cond.instanceMethod yX7_adds, Cond.selects RX7 yX7_adds yX7_adds, Cond.initialized RX7, Cond.code yX7_adds cX7_adds 5 none, Cond.methodLink RX7 60 yX7_setParty, Cond.instanceMethod yX7_setParty, Cond.selects RX7 yX7_setParty yX7_setParty, Cond.code yX7_setParty cX7_setParty 4 none, Cond.methodLink RX7 96 yX7_isAny, Cond.instanceMethod yX7_isAny, Cond.selects RX7 yX7_isAny yX7_isAny, Cond.code yX7_isAny cX7_isAny 1 (some .boolean), Cond.methodLink RX7 57 yX7_partiesOf, Cond.instanceMethod yX7_partiesOf, Cond.selects RX7 yX7_partiesOf yX7_partiesOf, Cond.code yX7_partiesOf cX7_partiesOf 4 (some .int), Cond.methodLink RX7 54 yX7_ofParty, Cond.instanceMethod yX7_ofParty, Cond.selects RX7 yX7_ofParty yX7_ofParty, Cond.code yX7_ofParty cX7_ofParty 3 (some .int), Cond.methodLink RX7 100 yX7_night]
def wsX7_isTaken_r2 : List Cond := [Cond.instanceMethod yX7_night, Cond.selects RX7 yX7_night yX7_night, Cond.code yX7_night cX7_night 3 none, Cond.methodLink RX7 64 yX7_isStorm, Cond.instanceMethod yX7_isStorm, Cond.selects RX7 yX7_isStorm yX7_isStorm, Cond.code yX7_isStorm cX7_isStorm 2 (some .boolean), Cond.methodLink RX7 78 yX7_leave, Cond.instanceMethod yX7_leave, Cond.selects RX7 yX7_leave yX7_leave, Cond.code yX7_leave cX7_leave 2 none, Cond.methodLink RX7 81 yX7_arrives, Cond.instanceMethod yX7_arrives, Cond.selects RX7 yX7_arrives yX7_arrives, Cond.code yX7_arrives cX7_arrives 3 none, Cond.methodLink RX7 68 yX7_guests, Cond.instanceMethod yX7_guests, Cond.selects RX7 yX7_guests yX7_guests, Cond.code yX7_guests cX7_guests 3 (some .int), Cond.methodLink RX7 84 yX7_sups, Cond.instanceMethod yX7_sups, Cond.selects RX7 yX7_sups yX7_sups, Cond.code yX7_sups cX7_sups 6 none, Cond.methodLink RX7 72 yX7_stock]
def wsX7_isTaken_r3 : List Cond := [Cond.instanceMethod yX7_stock, Cond.selects RX7 yX7_stock yX7_stock, Cond.code yX7_stock cX7_stock 4 (some .int), Cond.methodLink RX7 38 yX7_ofLot, Cond.instanceMethod yX7_ofLot, Cond.selects RX7 yX7_ofLot yX7_ofLot, Cond.code yX7_ofLot cX7_ofLot 3 (some .int), Cond.methodLink RX7 75 yX7_uses, Cond.instanceMethod yX7_uses, Cond.selects RX7 yX7_uses yX7_uses, Cond.code yX7_uses cX7_uses 6 (some .int), Cond.methodLink RX7 42 yX7_firstOf, Cond.instanceMethod yX7_firstOf, Cond.selects RX7 yX7_firstOf yX7_firstOf, Cond.code yX7_firstOf cX7_firstOf 3 (some .int), Cond.methodLink RX7 46 yX7_removes, Cond.instanceMethod yX7_removes, Cond.selects RX7 yX7_removes yX7_removes, Cond.code yX7_removes cX7_removes 3 none, Cond.methodLink RX7 87 yX7_heats, Cond.instanceMethod yX7_heats, Cond.selects RX7 yX7_heats yX7_heats, Cond.code yX7_heats cX7_heats 3 none, Cond.methodLink RX7 90 yX7_spoils]
def wsX7_isTaken_r4 : List Cond := [Cond.instanceMethod yX7_spoils, Cond.selects RX7 yX7_spoils yX7_spoils, Cond.code yX7_spoils cX7_spoils 2 none]
def wsX7_isTaken : List Cond := .code yX7_isTaken cX7_isTaken 6 (some .boolean) :: ((wsX7_isTaken_r1 ++ (wsX7_isTaken_r2 ++ (wsX7_isTaken_r3 ++ wsX7_isTaken_r4))) ++ wsX70)
def wsX7_loads : List Cond := .code yX7_loads cX7_loads 5 (some .int) :: ([.fieldLink RX7 7 "GlacierHutModel" "s" "[I", .methodLink RX7 50 yX7_in, .static yX7_in, .initialized RX7, .code yX7_in cX7_in 3 (some .boolean)] ++ wsX70)
def wsX7_flies : List Cond := .code yX7_flies cX7_flies 3 (some .int) :: ([.fieldLink RX7 7 "GlacierHutModel" "s" "[I", .methodLink RX7 64 yX7_isStorm, .instanceMethod yX7_isStorm, .selects RX7 yX7_isStorm yX7_isStorm, .initialized RX7, .code yX7_isStorm cX7_isStorm 2 (some .boolean), .methodLink RX7 103 yX7_comes, .instanceMethod yX7_comes, .selects RX7 yX7_comes yX7_comes, .code yX7_comes cX7_comes 6 none, .methodLink RX7 38 yX7_ofLot, .instanceMethod yX7_ofLot, .selects RX7 yX7_ofLot yX7_ofLot, .code yX7_ofLot cX7_ofLot 3 (some .int)] ++ wsX70)
def wsX7_isStay : List Cond := .code yX7_isStay cX7_isStay 3 (some .boolean) :: ([.fieldLink RX7 7 "GlacierHutModel" "s" "[I", .methodLink RX7 50 yX7_in, .static yX7_in, .initialized RX7, .code yX7_in cX7_in 3 (some .boolean)] ++ wsX70)
def wsX7_books_r1 : List Cond := [Cond.fieldLink RX7 7 "GlacierHutModel" "s" "[I", Cond.methodLink RX7 50 yX7_in, Cond.static yX7_in, Cond.initialized RX7, Cond.code yX7_in cX7_in 3 (some .boolean), Cond.methodLink RX7 106 yX7_isStay, Cond.instanceMethod yX7_isStay, Cond.selects RX7 yX7_isStay yX7_isStay, Cond.code yX7_isStay cX7_isStay 3 (some .boolean), Cond.methodLink RX7 110 yX7_isTaken, Cond.instanceMethod yX7_isTaken, Cond.selects RX7 yX7_isTaken yX7_isTaken, Cond.code yX7_isTaken cX7_isTaken 6 (some .boolean), Cond.fieldLink RX7 25 "GlacierHutModel" "aside" "[I", Cond.methodLink RX7 93 yX7_adds, Cond.instanceMethod yX7_adds, Cond.selects RX7 yX7_adds yX7_adds, Cond.code yX7_adds cX7_adds 5 none, Cond.methodLink RX7 60 yX7_setParty, Cond.instanceMethod yX7_setParty, Cond.selects RX7 yX7_setParty yX7_setParty, Cond.code yX7_setParty cX7_setParty 4 none, Cond.methodLink RX7 96 yX7_isAny, Cond.instanceMethod yX7_isAny]
def wsX7_books_r2 : List Cond := [Cond.selects RX7 yX7_isAny yX7_isAny, Cond.code yX7_isAny cX7_isAny 1 (some .boolean), Cond.methodLink RX7 57 yX7_partiesOf, Cond.instanceMethod yX7_partiesOf, Cond.selects RX7 yX7_partiesOf yX7_partiesOf, Cond.code yX7_partiesOf cX7_partiesOf 4 (some .int), Cond.methodLink RX7 54 yX7_ofParty, Cond.instanceMethod yX7_ofParty, Cond.selects RX7 yX7_ofParty yX7_ofParty, Cond.code yX7_ofParty cX7_ofParty 3 (some .int), Cond.methodLink RX7 100 yX7_night, Cond.instanceMethod yX7_night, Cond.selects RX7 yX7_night yX7_night, Cond.code yX7_night cX7_night 3 none, Cond.methodLink RX7 64 yX7_isStorm, Cond.instanceMethod yX7_isStorm, Cond.selects RX7 yX7_isStorm yX7_isStorm, Cond.code yX7_isStorm cX7_isStorm 2 (some .boolean), Cond.methodLink RX7 78 yX7_leave, Cond.instanceMethod yX7_leave, Cond.selects RX7 yX7_leave yX7_leave, Cond.code yX7_leave cX7_leave 2 none, Cond.methodLink RX7 81 yX7_arrives, Cond.instanceMethod yX7_arrives]
def wsX7_books_r3 : List Cond := [Cond.selects RX7 yX7_arrives yX7_arrives, Cond.code yX7_arrives cX7_arrives 3 none, Cond.methodLink RX7 68 yX7_guests, Cond.instanceMethod yX7_guests, Cond.selects RX7 yX7_guests yX7_guests, Cond.code yX7_guests cX7_guests 3 (some .int), Cond.methodLink RX7 84 yX7_sups, Cond.instanceMethod yX7_sups, Cond.selects RX7 yX7_sups yX7_sups, Cond.code yX7_sups cX7_sups 6 none, Cond.methodLink RX7 72 yX7_stock, Cond.instanceMethod yX7_stock, Cond.selects RX7 yX7_stock yX7_stock, Cond.code yX7_stock cX7_stock 4 (some .int), Cond.methodLink RX7 38 yX7_ofLot, Cond.instanceMethod yX7_ofLot, Cond.selects RX7 yX7_ofLot yX7_ofLot, Cond.code yX7_ofLot cX7_ofLot 3 (some .int), Cond.methodLink RX7 75 yX7_uses, Cond.instanceMethod yX7_uses, Cond.selects RX7 yX7_uses yX7_uses, Cond.code yX7_uses cX7_uses 6 (some .int), Cond.methodLink RX7 42 yX7_firstOf, Cond.instanceMethod yX7_firstOf]
def wsX7_books_r4 : List Cond := [Cond.selects RX7 yX7_firstOf yX7_firstOf, Cond.code yX7_firstOf cX7_firstOf 3 (some .int), Cond.methodLink RX7 46 yX7_removes, Cond.instanceMethod yX7_removes, Cond.selects RX7 yX7_removes yX7_removes, Cond.code yX7_removes cX7_removes 3 none, Cond.methodLink RX7 87 yX7_heats, Cond.instanceMethod yX7_heats, Cond.selects RX7 yX7_heats yX7_heats, Cond.code yX7_heats cX7_heats 3 none, Cond.methodLink RX7 90 yX7_spoils, Cond.instanceMethod yX7_spoils, Cond.selects RX7 yX7_spoils yX7_spoils, Cond.code yX7_spoils cX7_spoils 2 none]
def wsX7_books : List Cond := .code yX7_books cX7_books 4 (some .int) :: ((wsX7_books_r1 ++ (wsX7_books_r2 ++ (wsX7_books_r3 ++ wsX7_books_r4))) ++ wsX70)
def wsX7_cancels : List Cond := .code yX7_cancels cX7_cancels 2 (some .int) :: ([.methodLink RX7 113 yX7_isParty, .instanceMethod yX7_isParty, .selects RX7 yX7_isParty yX7_isParty, .initialized RX7, .code yX7_isParty cX7_isParty 2 (some .boolean), .fieldLink RX7 7 "GlacierHutModel" "s" "[I", .methodLink RX7 50 yX7_in, .static yX7_in, .code yX7_in cX7_in 3 (some .boolean), .methodLink RX7 54 yX7_ofParty, .instanceMethod yX7_ofParty, .selects RX7 yX7_ofParty yX7_ofParty, .code yX7_ofParty cX7_ofParty 3 (some .int), .methodLink RX7 60 yX7_setParty, .instanceMethod yX7_setParty, .selects RX7 yX7_setParty yX7_setParty, .code yX7_setParty cX7_setParty 4 none, .methodLink RX7 57 yX7_partiesOf, .instanceMethod yX7_partiesOf, .selects RX7 yX7_partiesOf yX7_partiesOf, .code yX7_partiesOf cX7_partiesOf 4 (some .int)] ++ wsX70)
def wsX7_stormsAhead : List Cond := .code yX7_stormsAhead cX7_stormsAhead 3 (some .int) :: ([.fieldLink RX7 7 "GlacierHutModel" "s" "[I"] ++ wsX70)
def wsX7_storms : List Cond := .code yX7_storms cX7_storms 4 (some .int) :: ([.fieldLink RX7 7 "GlacierHutModel" "s" "[I", .methodLink RX7 50 yX7_in, .static yX7_in, .initialized RX7, .code yX7_in cX7_in 3 (some .boolean), .methodLink RX7 116 yX7_stormsAhead, .instanceMethod yX7_stormsAhead, .selects RX7 yX7_stormsAhead yX7_stormsAhead, .code yX7_stormsAhead cX7_stormsAhead 3 (some .int)] ++ wsX70)
def wsX7_sleeps_r1 : List Cond := [Cond.fieldLink RX7 7 "GlacierHutModel" "s" "[I", Cond.methodLink RX7 50 yX7_in, Cond.static yX7_in, Cond.initialized RX7, Cond.code yX7_in cX7_in 3 (some .boolean), Cond.methodLink RX7 100 yX7_night, Cond.instanceMethod yX7_night, Cond.selects RX7 yX7_night yX7_night, Cond.code yX7_night cX7_night 3 none, Cond.methodLink RX7 64 yX7_isStorm, Cond.instanceMethod yX7_isStorm, Cond.selects RX7 yX7_isStorm yX7_isStorm, Cond.code yX7_isStorm cX7_isStorm 2 (some .boolean), Cond.methodLink RX7 78 yX7_leave, Cond.instanceMethod yX7_leave, Cond.selects RX7 yX7_leave yX7_leave, Cond.code yX7_leave cX7_leave 2 none, Cond.methodLink RX7 54 yX7_ofParty, Cond.instanceMethod yX7_ofParty, Cond.selects RX7 yX7_ofParty yX7_ofParty, Cond.code yX7_ofParty cX7_ofParty 3 (some .int), Cond.methodLink RX7 60 yX7_setParty, Cond.instanceMethod yX7_setParty, Cond.selects RX7 yX7_setParty yX7_setParty]
def wsX7_sleeps_r2 : List Cond := [Cond.code yX7_setParty cX7_setParty 4 none, Cond.methodLink RX7 81 yX7_arrives, Cond.instanceMethod yX7_arrives, Cond.selects RX7 yX7_arrives yX7_arrives, Cond.code yX7_arrives cX7_arrives 3 none, Cond.methodLink RX7 68 yX7_guests, Cond.instanceMethod yX7_guests, Cond.selects RX7 yX7_guests yX7_guests, Cond.code yX7_guests cX7_guests 3 (some .int), Cond.methodLink RX7 84 yX7_sups, Cond.instanceMethod yX7_sups, Cond.selects RX7 yX7_sups yX7_sups, Cond.code yX7_sups cX7_sups 6 none, Cond.methodLink RX7 72 yX7_stock, Cond.instanceMethod yX7_stock, Cond.selects RX7 yX7_stock yX7_stock, Cond.code yX7_stock cX7_stock 4 (some .int), Cond.methodLink RX7 38 yX7_ofLot, Cond.instanceMethod yX7_ofLot, Cond.selects RX7 yX7_ofLot yX7_ofLot, Cond.code yX7_ofLot cX7_ofLot 3 (some .int), Cond.methodLink RX7 75 yX7_uses, Cond.instanceMethod yX7_uses, Cond.selects RX7 yX7_uses yX7_uses]
def wsX7_sleeps_r3 : List Cond := [Cond.code yX7_uses cX7_uses 6 (some .int), Cond.methodLink RX7 42 yX7_firstOf, Cond.instanceMethod yX7_firstOf, Cond.selects RX7 yX7_firstOf yX7_firstOf, Cond.code yX7_firstOf cX7_firstOf 3 (some .int), Cond.methodLink RX7 46 yX7_removes, Cond.instanceMethod yX7_removes, Cond.selects RX7 yX7_removes yX7_removes, Cond.code yX7_removes cX7_removes 3 none, Cond.methodLink RX7 87 yX7_heats, Cond.instanceMethod yX7_heats, Cond.selects RX7 yX7_heats yX7_heats, Cond.code yX7_heats cX7_heats 3 none, Cond.methodLink RX7 90 yX7_spoils, Cond.instanceMethod yX7_spoils, Cond.selects RX7 yX7_spoils yX7_spoils, Cond.code yX7_spoils cX7_spoils 2 none]
def wsX7_sleeps : List Cond := .code yX7_sleeps cX7_sleeps 4 (some .int) :: ((wsX7_sleeps_r1 ++ (wsX7_sleeps_r2 ++ wsX7_sleeps_r3)) ++ wsX70)
def wsX7_load : List Cond := .code yX7_load cX7_load 4 (some .int) :: ([.methodLink RX7 119 yX7_begins, .instanceMethod yX7_begins, .selects RX7 yX7_begins yX7_begins, .initialized RX7, .code yX7_begins cX7_begins 2 none, .fieldLink RX7 13 "GlacierHutModel" "begun" "[I", .fieldLink RX7 7 "GlacierHutModel" "s" "[I", .methodLink RX7 122 yX7_loads, .instanceMethod yX7_loads, .selects RX7 yX7_loads yX7_loads, .code yX7_loads cX7_loads 5 (some .int), .methodLink RX7 50 yX7_in, .static yX7_in, .code yX7_in cX7_in 3 (some .boolean), .methodLink RX7 126 yX7_acted, .instanceMethod yX7_acted, .selects RX7 yX7_acted yX7_acted, .code yX7_acted cX7_acted 3 (some .int), .fieldLink RX7 34 "GlacierHutModel" "states" "I", .fieldLink RX7 19 "GlacierHutModel" "past" "[I", .methodLink RX7 31 yX7_returns, .instanceMethod yX7_returns, .selects RX7 yX7_returns yX7_returns, .code yX7_returns cX7_returns 2 none] ++ wsX70)
def wsX7_fly_r1 : List Cond := [Cond.methodLink RX7 119 yX7_begins, Cond.instanceMethod yX7_begins, Cond.selects RX7 yX7_begins yX7_begins, Cond.initialized RX7, Cond.code yX7_begins cX7_begins 2 none, Cond.fieldLink RX7 13 "GlacierHutModel" "begun" "[I", Cond.fieldLink RX7 7 "GlacierHutModel" "s" "[I", Cond.methodLink RX7 129 yX7_flies, Cond.instanceMethod yX7_flies, Cond.selects RX7 yX7_flies yX7_flies, Cond.code yX7_flies cX7_flies 3 (some .int), Cond.methodLink RX7 64 yX7_isStorm, Cond.instanceMethod yX7_isStorm, Cond.selects RX7 yX7_isStorm yX7_isStorm, Cond.code yX7_isStorm cX7_isStorm 2 (some .boolean), Cond.methodLink RX7 103 yX7_comes, Cond.instanceMethod yX7_comes, Cond.selects RX7 yX7_comes yX7_comes, Cond.code yX7_comes cX7_comes 6 none, Cond.methodLink RX7 38 yX7_ofLot, Cond.instanceMethod yX7_ofLot, Cond.selects RX7 yX7_ofLot yX7_ofLot, Cond.code yX7_ofLot cX7_ofLot 3 (some .int), Cond.methodLink RX7 126 yX7_acted]
def wsX7_fly_r2 : List Cond := [Cond.instanceMethod yX7_acted, Cond.selects RX7 yX7_acted yX7_acted, Cond.code yX7_acted cX7_acted 3 (some .int), Cond.fieldLink RX7 34 "GlacierHutModel" "states" "I", Cond.fieldLink RX7 19 "GlacierHutModel" "past" "[I", Cond.methodLink RX7 31 yX7_returns, Cond.instanceMethod yX7_returns, Cond.selects RX7 yX7_returns yX7_returns, Cond.code yX7_returns cX7_returns 2 none]
def wsX7_fly : List Cond := .code yX7_fly cX7_fly 1 (some .int) :: ((wsX7_fly_r1 ++ wsX7_fly_r2) ++ wsX70)
def wsX7_book_r1 : List Cond := [Cond.methodLink RX7 119 yX7_begins, Cond.instanceMethod yX7_begins, Cond.selects RX7 yX7_begins yX7_begins, Cond.initialized RX7, Cond.code yX7_begins cX7_begins 2 none, Cond.fieldLink RX7 13 "GlacierHutModel" "begun" "[I", Cond.fieldLink RX7 7 "GlacierHutModel" "s" "[I", Cond.methodLink RX7 132 yX7_books, Cond.instanceMethod yX7_books, Cond.selects RX7 yX7_books yX7_books, Cond.code yX7_books cX7_books 4 (some .int), Cond.methodLink RX7 50 yX7_in, Cond.static yX7_in, Cond.code yX7_in cX7_in 3 (some .boolean), Cond.methodLink RX7 106 yX7_isStay, Cond.instanceMethod yX7_isStay, Cond.selects RX7 yX7_isStay yX7_isStay, Cond.code yX7_isStay cX7_isStay 3 (some .boolean), Cond.methodLink RX7 110 yX7_isTaken, Cond.instanceMethod yX7_isTaken, Cond.selects RX7 yX7_isTaken yX7_isTaken, Cond.code yX7_isTaken cX7_isTaken 6 (some .boolean), Cond.fieldLink RX7 25 "GlacierHutModel" "aside" "[I", Cond.methodLink RX7 93 yX7_adds]
def wsX7_book_r2 : List Cond := [Cond.instanceMethod yX7_adds, Cond.selects RX7 yX7_adds yX7_adds, Cond.code yX7_adds cX7_adds 5 none, Cond.methodLink RX7 60 yX7_setParty, Cond.instanceMethod yX7_setParty, Cond.selects RX7 yX7_setParty yX7_setParty, Cond.code yX7_setParty cX7_setParty 4 none, Cond.methodLink RX7 96 yX7_isAny, Cond.instanceMethod yX7_isAny, Cond.selects RX7 yX7_isAny yX7_isAny, Cond.code yX7_isAny cX7_isAny 1 (some .boolean), Cond.methodLink RX7 57 yX7_partiesOf, Cond.instanceMethod yX7_partiesOf, Cond.selects RX7 yX7_partiesOf yX7_partiesOf, Cond.code yX7_partiesOf cX7_partiesOf 4 (some .int), Cond.methodLink RX7 54 yX7_ofParty, Cond.instanceMethod yX7_ofParty, Cond.selects RX7 yX7_ofParty yX7_ofParty, Cond.code yX7_ofParty cX7_ofParty 3 (some .int), Cond.methodLink RX7 100 yX7_night, Cond.instanceMethod yX7_night, Cond.selects RX7 yX7_night yX7_night, Cond.code yX7_night cX7_night 3 none, Cond.methodLink RX7 64 yX7_isStorm]
def wsX7_book_r3 : List Cond := [Cond.instanceMethod yX7_isStorm, Cond.selects RX7 yX7_isStorm yX7_isStorm, Cond.code yX7_isStorm cX7_isStorm 2 (some .boolean), Cond.methodLink RX7 78 yX7_leave, Cond.instanceMethod yX7_leave, Cond.selects RX7 yX7_leave yX7_leave, Cond.code yX7_leave cX7_leave 2 none, Cond.methodLink RX7 81 yX7_arrives, Cond.instanceMethod yX7_arrives, Cond.selects RX7 yX7_arrives yX7_arrives, Cond.code yX7_arrives cX7_arrives 3 none, Cond.methodLink RX7 68 yX7_guests, Cond.instanceMethod yX7_guests, Cond.selects RX7 yX7_guests yX7_guests, Cond.code yX7_guests cX7_guests 3 (some .int), Cond.methodLink RX7 84 yX7_sups, Cond.instanceMethod yX7_sups, Cond.selects RX7 yX7_sups yX7_sups, Cond.code yX7_sups cX7_sups 6 none, Cond.methodLink RX7 72 yX7_stock, Cond.instanceMethod yX7_stock, Cond.selects RX7 yX7_stock yX7_stock, Cond.code yX7_stock cX7_stock 4 (some .int), Cond.methodLink RX7 38 yX7_ofLot]
def wsX7_book_r4 : List Cond := [Cond.instanceMethod yX7_ofLot, Cond.selects RX7 yX7_ofLot yX7_ofLot, Cond.code yX7_ofLot cX7_ofLot 3 (some .int), Cond.methodLink RX7 75 yX7_uses, Cond.instanceMethod yX7_uses, Cond.selects RX7 yX7_uses yX7_uses, Cond.code yX7_uses cX7_uses 6 (some .int), Cond.methodLink RX7 42 yX7_firstOf, Cond.instanceMethod yX7_firstOf, Cond.selects RX7 yX7_firstOf yX7_firstOf, Cond.code yX7_firstOf cX7_firstOf 3 (some .int), Cond.methodLink RX7 46 yX7_removes, Cond.instanceMethod yX7_removes, Cond.selects RX7 yX7_removes yX7_removes, Cond.code yX7_removes cX7_removes 3 none, Cond.methodLink RX7 87 yX7_heats, Cond.instanceMethod yX7_heats, Cond.selects RX7 yX7_heats yX7_heats, Cond.code yX7_heats cX7_heats 3 none, Cond.methodLink RX7 90 yX7_spoils, Cond.instanceMethod yX7_spoils, Cond.selects RX7 yX7_spoils yX7_spoils, Cond.code yX7_spoils cX7_spoils 2 none, Cond.methodLink RX7 126 yX7_acted]
def wsX7_book_r5 : List Cond := [Cond.instanceMethod yX7_acted, Cond.selects RX7 yX7_acted yX7_acted, Cond.code yX7_acted cX7_acted 3 (some .int), Cond.fieldLink RX7 34 "GlacierHutModel" "states" "I", Cond.fieldLink RX7 19 "GlacierHutModel" "past" "[I", Cond.methodLink RX7 31 yX7_returns, Cond.instanceMethod yX7_returns, Cond.selects RX7 yX7_returns yX7_returns, Cond.code yX7_returns cX7_returns 2 none]
def wsX7_book : List Cond := .code yX7_book cX7_book 4 (some .int) :: ((wsX7_book_r1 ++ (wsX7_book_r2 ++ (wsX7_book_r3 ++ (wsX7_book_r4 ++ wsX7_book_r5)))) ++ wsX70)
def wsX7_cancel_r1 : List Cond := [Cond.methodLink RX7 119 yX7_begins, Cond.instanceMethod yX7_begins, Cond.selects RX7 yX7_begins yX7_begins, Cond.initialized RX7, Cond.code yX7_begins cX7_begins 2 none, Cond.fieldLink RX7 13 "GlacierHutModel" "begun" "[I", Cond.fieldLink RX7 7 "GlacierHutModel" "s" "[I", Cond.methodLink RX7 135 yX7_cancels, Cond.instanceMethod yX7_cancels, Cond.selects RX7 yX7_cancels yX7_cancels, Cond.code yX7_cancels cX7_cancels 2 (some .int), Cond.methodLink RX7 113 yX7_isParty, Cond.instanceMethod yX7_isParty, Cond.selects RX7 yX7_isParty yX7_isParty, Cond.code yX7_isParty cX7_isParty 2 (some .boolean), Cond.methodLink RX7 50 yX7_in, Cond.static yX7_in, Cond.code yX7_in cX7_in 3 (some .boolean), Cond.methodLink RX7 54 yX7_ofParty, Cond.instanceMethod yX7_ofParty, Cond.selects RX7 yX7_ofParty yX7_ofParty, Cond.code yX7_ofParty cX7_ofParty 3 (some .int), Cond.methodLink RX7 60 yX7_setParty, Cond.instanceMethod yX7_setParty]
def wsX7_cancel_r2 : List Cond := [Cond.selects RX7 yX7_setParty yX7_setParty, Cond.code yX7_setParty cX7_setParty 4 none, Cond.methodLink RX7 57 yX7_partiesOf, Cond.instanceMethod yX7_partiesOf, Cond.selects RX7 yX7_partiesOf yX7_partiesOf, Cond.code yX7_partiesOf cX7_partiesOf 4 (some .int), Cond.methodLink RX7 126 yX7_acted, Cond.instanceMethod yX7_acted, Cond.selects RX7 yX7_acted yX7_acted, Cond.code yX7_acted cX7_acted 3 (some .int), Cond.fieldLink RX7 34 "GlacierHutModel" "states" "I", Cond.fieldLink RX7 19 "GlacierHutModel" "past" "[I", Cond.methodLink RX7 31 yX7_returns, Cond.instanceMethod yX7_returns, Cond.selects RX7 yX7_returns yX7_returns, Cond.code yX7_returns cX7_returns 2 none]
def wsX7_cancel : List Cond := .code yX7_cancel cX7_cancel 2 (some .int) :: ((wsX7_cancel_r1 ++ wsX7_cancel_r2) ++ wsX70)
def wsX7_storm_r1 : List Cond := [Cond.methodLink RX7 119 yX7_begins, Cond.instanceMethod yX7_begins, Cond.selects RX7 yX7_begins yX7_begins, Cond.initialized RX7, Cond.code yX7_begins cX7_begins 2 none, Cond.fieldLink RX7 13 "GlacierHutModel" "begun" "[I", Cond.fieldLink RX7 7 "GlacierHutModel" "s" "[I", Cond.methodLink RX7 138 yX7_storms, Cond.instanceMethod yX7_storms, Cond.selects RX7 yX7_storms yX7_storms, Cond.code yX7_storms cX7_storms 4 (some .int), Cond.methodLink RX7 50 yX7_in, Cond.static yX7_in, Cond.code yX7_in cX7_in 3 (some .boolean), Cond.methodLink RX7 116 yX7_stormsAhead, Cond.instanceMethod yX7_stormsAhead, Cond.selects RX7 yX7_stormsAhead yX7_stormsAhead, Cond.code yX7_stormsAhead cX7_stormsAhead 3 (some .int), Cond.methodLink RX7 126 yX7_acted, Cond.instanceMethod yX7_acted, Cond.selects RX7 yX7_acted yX7_acted, Cond.code yX7_acted cX7_acted 3 (some .int), Cond.fieldLink RX7 34 "GlacierHutModel" "states" "I", Cond.fieldLink RX7 19 "GlacierHutModel" "past" "[I"]
def wsX7_storm_r2 : List Cond := [Cond.methodLink RX7 31 yX7_returns, Cond.instanceMethod yX7_returns, Cond.selects RX7 yX7_returns yX7_returns, Cond.code yX7_returns cX7_returns 2 none]
def wsX7_storm : List Cond := .code yX7_storm cX7_storm 3 (some .int) :: ((wsX7_storm_r1 ++ wsX7_storm_r2) ++ wsX70)
def wsX7_clear : List Cond := .code yX7_clear cX7_clear 3 (some .int) :: ([.fieldLink RX7 7 "GlacierHutModel" "s" "[I", .methodLink RX7 119 yX7_begins, .instanceMethod yX7_begins, .selects RX7 yX7_begins yX7_begins, .initialized RX7, .code yX7_begins cX7_begins 2 none, .fieldLink RX7 13 "GlacierHutModel" "begun" "[I", .methodLink RX7 50 yX7_in, .static yX7_in, .code yX7_in cX7_in 3 (some .boolean), .methodLink RX7 126 yX7_acted, .instanceMethod yX7_acted, .selects RX7 yX7_acted yX7_acted, .code yX7_acted cX7_acted 3 (some .int), .fieldLink RX7 34 "GlacierHutModel" "states" "I", .fieldLink RX7 19 "GlacierHutModel" "past" "[I", .methodLink RX7 31 yX7_returns, .instanceMethod yX7_returns, .selects RX7 yX7_returns yX7_returns, .code yX7_returns cX7_returns 2 none] ++ wsX70)
def wsX7_sleep_r1 : List Cond := [Cond.methodLink RX7 119 yX7_begins, Cond.instanceMethod yX7_begins, Cond.selects RX7 yX7_begins yX7_begins, Cond.initialized RX7, Cond.code yX7_begins cX7_begins 2 none, Cond.fieldLink RX7 13 "GlacierHutModel" "begun" "[I", Cond.fieldLink RX7 7 "GlacierHutModel" "s" "[I", Cond.methodLink RX7 141 yX7_sleeps, Cond.instanceMethod yX7_sleeps, Cond.selects RX7 yX7_sleeps yX7_sleeps, Cond.code yX7_sleeps cX7_sleeps 4 (some .int), Cond.methodLink RX7 50 yX7_in, Cond.static yX7_in, Cond.code yX7_in cX7_in 3 (some .boolean), Cond.methodLink RX7 100 yX7_night, Cond.instanceMethod yX7_night, Cond.selects RX7 yX7_night yX7_night, Cond.code yX7_night cX7_night 3 none, Cond.methodLink RX7 64 yX7_isStorm, Cond.instanceMethod yX7_isStorm, Cond.selects RX7 yX7_isStorm yX7_isStorm, Cond.code yX7_isStorm cX7_isStorm 2 (some .boolean), Cond.methodLink RX7 78 yX7_leave, Cond.instanceMethod yX7_leave]
def wsX7_sleep_r2 : List Cond := [Cond.selects RX7 yX7_leave yX7_leave, Cond.code yX7_leave cX7_leave 2 none, Cond.methodLink RX7 54 yX7_ofParty, Cond.instanceMethod yX7_ofParty, Cond.selects RX7 yX7_ofParty yX7_ofParty, Cond.code yX7_ofParty cX7_ofParty 3 (some .int), Cond.methodLink RX7 60 yX7_setParty, Cond.instanceMethod yX7_setParty, Cond.selects RX7 yX7_setParty yX7_setParty, Cond.code yX7_setParty cX7_setParty 4 none, Cond.methodLink RX7 81 yX7_arrives, Cond.instanceMethod yX7_arrives, Cond.selects RX7 yX7_arrives yX7_arrives, Cond.code yX7_arrives cX7_arrives 3 none, Cond.methodLink RX7 68 yX7_guests, Cond.instanceMethod yX7_guests, Cond.selects RX7 yX7_guests yX7_guests, Cond.code yX7_guests cX7_guests 3 (some .int), Cond.methodLink RX7 84 yX7_sups, Cond.instanceMethod yX7_sups, Cond.selects RX7 yX7_sups yX7_sups, Cond.code yX7_sups cX7_sups 6 none, Cond.methodLink RX7 72 yX7_stock, Cond.instanceMethod yX7_stock]
def wsX7_sleep_r3 : List Cond := [Cond.selects RX7 yX7_stock yX7_stock, Cond.code yX7_stock cX7_stock 4 (some .int), Cond.methodLink RX7 38 yX7_ofLot, Cond.instanceMethod yX7_ofLot, Cond.selects RX7 yX7_ofLot yX7_ofLot, Cond.code yX7_ofLot cX7_ofLot 3 (some .int), Cond.methodLink RX7 75 yX7_uses, Cond.instanceMethod yX7_uses, Cond.selects RX7 yX7_uses yX7_uses, Cond.code yX7_uses cX7_uses 6 (some .int), Cond.methodLink RX7 42 yX7_firstOf, Cond.instanceMethod yX7_firstOf, Cond.selects RX7 yX7_firstOf yX7_firstOf, Cond.code yX7_firstOf cX7_firstOf 3 (some .int), Cond.methodLink RX7 46 yX7_removes, Cond.instanceMethod yX7_removes, Cond.selects RX7 yX7_removes yX7_removes, Cond.code yX7_removes cX7_removes 3 none, Cond.methodLink RX7 87 yX7_heats, Cond.instanceMethod yX7_heats, Cond.selects RX7 yX7_heats yX7_heats, Cond.code yX7_heats cX7_heats 3 none, Cond.methodLink RX7 90 yX7_spoils, Cond.instanceMethod yX7_spoils]
def wsX7_sleep_r4 : List Cond := [Cond.selects RX7 yX7_spoils yX7_spoils, Cond.code yX7_spoils cX7_spoils 2 none, Cond.methodLink RX7 126 yX7_acted, Cond.instanceMethod yX7_acted, Cond.selects RX7 yX7_acted yX7_acted, Cond.code yX7_acted cX7_acted 3 (some .int), Cond.fieldLink RX7 34 "GlacierHutModel" "states" "I", Cond.fieldLink RX7 19 "GlacierHutModel" "past" "[I", Cond.methodLink RX7 31 yX7_returns, Cond.instanceMethod yX7_returns, Cond.selects RX7 yX7_returns yX7_returns, Cond.code yX7_returns cX7_returns 2 none]
def wsX7_sleep : List Cond := .code yX7_sleep cX7_sleep 2 (some .int) :: ((wsX7_sleep_r1 ++ (wsX7_sleep_r2 ++ (wsX7_sleep_r3 ++ wsX7_sleep_r4))) ++ wsX70)
def wsX7_isSetting : List Cond := .code yX7_isSetting cX7_isSetting 2 (some .boolean) :: ([.methodLink RX7 50 yX7_in, .static yX7_in, .initialized RX7, .code yX7_in cX7_in 3 (some .boolean)])
def wsX7_set : List Cond := .code yX7_set cX7_set 4 (some .int) :: ([.fieldLink RX7 7 "GlacierHutModel" "s" "[I", .methodLink RX7 119 yX7_begins, .instanceMethod yX7_begins, .selects RX7 yX7_begins yX7_begins, .initialized RX7, .code yX7_begins cX7_begins 2 none, .fieldLink RX7 13 "GlacierHutModel" "begun" "[I", .methodLink RX7 144 yX7_isSetting, .static yX7_isSetting, .code yX7_isSetting cX7_isSetting 2 (some .boolean), .methodLink RX7 50 yX7_in, .static yX7_in, .code yX7_in cX7_in 3 (some .boolean), .methodLink RX7 126 yX7_acted, .instanceMethod yX7_acted, .selects RX7 yX7_acted yX7_acted, .code yX7_acted cX7_acted 3 (some .int), .fieldLink RX7 34 "GlacierHutModel" "states" "I", .fieldLink RX7 19 "GlacierHutModel" "past" "[I", .methodLink RX7 31 yX7_returns, .instanceMethod yX7_returns, .selects RX7 yX7_returns yX7_returns, .code yX7_returns cX7_returns 2 none] ++ wsX70)
def wsX7_lotOf : List Cond := .code yX7_lotOf cX7_lotOf 7 (some .int) :: ([.fieldLink RX7 7 "GlacierHutModel" "s" "[I", .methodLink RX7 50 yX7_in, .static yX7_in, .initialized RX7, .code yX7_in cX7_in 3 (some .boolean), .methodLink RX7 38 yX7_ofLot, .instanceMethod yX7_ofLot, .selects RX7 yX7_ofLot yX7_ofLot, .code yX7_ofLot cX7_ofLot 3 (some .int)] ++ wsX70)
def wsX7_lotsOf : List Cond := .code yX7_lotsOf cX7_lotsOf 4 (some .int) :: ([.fieldLink RX7 7 "GlacierHutModel" "s" "[I", .methodLink RX7 38 yX7_ofLot, .instanceMethod yX7_ofLot, .selects RX7 yX7_ofLot yX7_ofLot, .initialized RX7, .code yX7_ofLot cX7_ofLot 3 (some .int)] ++ wsX70)
def wsX7_loadedOf : List Cond := .code yX7_loadedOf cX7_loadedOf 4 (some .int) :: ([.fieldLink RX7 7 "GlacierHutModel" "s" "[I"] ++ wsX70)
def wsX7_storeOf : List Cond := .code yX7_storeOf cX7_storeOf 3 (some .int) :: ([.fieldLink RX7 7 "GlacierHutModel" "s" "[I", .methodLink RX7 50 yX7_in, .static yX7_in, .initialized RX7, .code yX7_in cX7_in 3 (some .boolean), .methodLink RX7 72 yX7_stock, .instanceMethod yX7_stock, .selects RX7 yX7_stock yX7_stock, .code yX7_stock cX7_stock 4 (some .int), .methodLink RX7 38 yX7_ofLot, .instanceMethod yX7_ofLot, .selects RX7 yX7_ofLot yX7_ofLot, .code yX7_ofLot cX7_ofLot 3 (some .int), .methodLink RX7 147 yX7_lotsOf, .instanceMethod yX7_lotsOf, .selects RX7 yX7_lotsOf yX7_lotsOf, .code yX7_lotsOf cX7_lotsOf 4 (some .int), .methodLink RX7 150 yX7_loadedOf, .instanceMethod yX7_loadedOf, .selects RX7 yX7_loadedOf yX7_loadedOf, .code yX7_loadedOf cX7_loadedOf 4 (some .int)] ++ wsX70)
def wsX7_partyOf : List Cond := .code yX7_partyOf cX7_partyOf 4 (some .int) :: ([.methodLink RX7 113 yX7_isParty, .instanceMethod yX7_isParty, .selects RX7 yX7_isParty yX7_isParty, .initialized RX7, .code yX7_isParty cX7_isParty 2 (some .boolean), .fieldLink RX7 7 "GlacierHutModel" "s" "[I", .methodLink RX7 50 yX7_in, .static yX7_in, .code yX7_in cX7_in 3 (some .boolean), .methodLink RX7 54 yX7_ofParty, .instanceMethod yX7_ofParty, .selects RX7 yX7_ofParty yX7_ofParty, .code yX7_ofParty cX7_ofParty 3 (some .int)] ++ wsX70)
def wsX7_count : List Cond := .code yX7_count cX7_count 2 (some .int) :: ([.fieldLink RX7 7 "GlacierHutModel" "s" "[I", .fieldLink RX7 34 "GlacierHutModel" "states" "I", .fieldLink RX7 153 "GlacierHutModel" "length" "I", .fieldLink RX7 156 "GlacierHutModel" "isKept" "Z", .methodLink RX7 57 yX7_partiesOf, .instanceMethod yX7_partiesOf, .selects RX7 yX7_partiesOf yX7_partiesOf, .initialized RX7, .code yX7_partiesOf cX7_partiesOf 4 (some .int), .methodLink RX7 54 yX7_ofParty, .instanceMethod yX7_ofParty, .selects RX7 yX7_ofParty yX7_ofParty, .code yX7_ofParty cX7_ofParty 3 (some .int), .methodLink RX7 68 yX7_guests, .instanceMethod yX7_guests, .selects RX7 yX7_guests yX7_guests, .code yX7_guests cX7_guests 3 (some .int), .methodLink RX7 64 yX7_isStorm, .instanceMethod yX7_isStorm, .selects RX7 yX7_isStorm yX7_isStorm, .code yX7_isStorm cX7_isStorm 2 (some .boolean), .methodLink RX7 50 yX7_in, .static yX7_in, .code yX7_in cX7_in 3 (some .boolean)] ++ wsX70)
def wsX7_goneOn_r1 : List Cond := [Cond.fieldLink RX7 7 "GlacierHutModel" "s" "[I", Cond.methodLink RX7 113 yX7_isParty, Cond.instanceMethod yX7_isParty, Cond.selects RX7 yX7_isParty yX7_isParty, Cond.initialized RX7, Cond.code yX7_isParty cX7_isParty 2 (some .boolean), Cond.methodLink RX7 50 yX7_in, Cond.static yX7_in, Cond.code yX7_in cX7_in 3 (some .boolean), Cond.methodLink RX7 54 yX7_ofParty, Cond.instanceMethod yX7_ofParty, Cond.selects RX7 yX7_ofParty yX7_ofParty, Cond.code yX7_ofParty cX7_ofParty 3 (some .int), Cond.methodLink RX7 119 yX7_begins, Cond.instanceMethod yX7_begins, Cond.selects RX7 yX7_begins yX7_begins, Cond.code yX7_begins cX7_begins 2 none, Cond.fieldLink RX7 13 "GlacierHutModel" "begun" "[I", Cond.methodLink RX7 100 yX7_night, Cond.instanceMethod yX7_night, Cond.selects RX7 yX7_night yX7_night, Cond.code yX7_night cX7_night 3 none, Cond.methodLink RX7 64 yX7_isStorm, Cond.instanceMethod yX7_isStorm]
def wsX7_goneOn_r2 : List Cond := [Cond.selects RX7 yX7_isStorm yX7_isStorm, Cond.code yX7_isStorm cX7_isStorm 2 (some .boolean), Cond.methodLink RX7 78 yX7_leave, Cond.instanceMethod yX7_leave, Cond.selects RX7 yX7_leave yX7_leave, Cond.code yX7_leave cX7_leave 2 none, Cond.methodLink RX7 60 yX7_setParty, Cond.instanceMethod yX7_setParty, Cond.selects RX7 yX7_setParty yX7_setParty, Cond.code yX7_setParty cX7_setParty 4 none, Cond.methodLink RX7 81 yX7_arrives, Cond.instanceMethod yX7_arrives, Cond.selects RX7 yX7_arrives yX7_arrives, Cond.code yX7_arrives cX7_arrives 3 none, Cond.methodLink RX7 68 yX7_guests, Cond.instanceMethod yX7_guests, Cond.selects RX7 yX7_guests yX7_guests, Cond.code yX7_guests cX7_guests 3 (some .int), Cond.methodLink RX7 84 yX7_sups, Cond.instanceMethod yX7_sups, Cond.selects RX7 yX7_sups yX7_sups, Cond.code yX7_sups cX7_sups 6 none, Cond.methodLink RX7 72 yX7_stock, Cond.instanceMethod yX7_stock]
def wsX7_goneOn_r3 : List Cond := [Cond.selects RX7 yX7_stock yX7_stock, Cond.code yX7_stock cX7_stock 4 (some .int), Cond.methodLink RX7 38 yX7_ofLot, Cond.instanceMethod yX7_ofLot, Cond.selects RX7 yX7_ofLot yX7_ofLot, Cond.code yX7_ofLot cX7_ofLot 3 (some .int), Cond.methodLink RX7 75 yX7_uses, Cond.instanceMethod yX7_uses, Cond.selects RX7 yX7_uses yX7_uses, Cond.code yX7_uses cX7_uses 6 (some .int), Cond.methodLink RX7 42 yX7_firstOf, Cond.instanceMethod yX7_firstOf, Cond.selects RX7 yX7_firstOf yX7_firstOf, Cond.code yX7_firstOf cX7_firstOf 3 (some .int), Cond.methodLink RX7 46 yX7_removes, Cond.instanceMethod yX7_removes, Cond.selects RX7 yX7_removes yX7_removes, Cond.code yX7_removes cX7_removes 3 none, Cond.methodLink RX7 87 yX7_heats, Cond.instanceMethod yX7_heats, Cond.selects RX7 yX7_heats yX7_heats, Cond.code yX7_heats cX7_heats 3 none, Cond.methodLink RX7 90 yX7_spoils, Cond.instanceMethod yX7_spoils]
def wsX7_goneOn_r4 : List Cond := [Cond.selects RX7 yX7_spoils yX7_spoils, Cond.code yX7_spoils cX7_spoils 2 none, Cond.methodLink RX7 31 yX7_returns, Cond.instanceMethod yX7_returns, Cond.selects RX7 yX7_returns yX7_returns, Cond.code yX7_returns cX7_returns 2 none]
def wsX7_goneOn : List Cond := .code yX7_goneOn cX7_goneOn 3 (some .int) :: ((wsX7_goneOn_r1 ++ (wsX7_goneOn_r2 ++ (wsX7_goneOn_r3 ++ wsX7_goneOn_r4))) ++ wsX70)
def wsX7_outOn_r1 : List Cond := [Cond.fieldLink RX7 7 "GlacierHutModel" "s" "[I", Cond.methodLink RX7 50 yX7_in, Cond.static yX7_in, Cond.initialized RX7, Cond.code yX7_in cX7_in 3 (some .boolean), Cond.methodLink RX7 119 yX7_begins, Cond.instanceMethod yX7_begins, Cond.selects RX7 yX7_begins yX7_begins, Cond.code yX7_begins cX7_begins 2 none, Cond.fieldLink RX7 13 "GlacierHutModel" "begun" "[I", Cond.methodLink RX7 96 yX7_isAny, Cond.instanceMethod yX7_isAny, Cond.selects RX7 yX7_isAny yX7_isAny, Cond.code yX7_isAny cX7_isAny 1 (some .boolean), Cond.methodLink RX7 57 yX7_partiesOf, Cond.instanceMethod yX7_partiesOf, Cond.selects RX7 yX7_partiesOf yX7_partiesOf, Cond.code yX7_partiesOf cX7_partiesOf 4 (some .int), Cond.methodLink RX7 54 yX7_ofParty, Cond.instanceMethod yX7_ofParty, Cond.selects RX7 yX7_ofParty yX7_ofParty, Cond.code yX7_ofParty cX7_ofParty 3 (some .int), Cond.methodLink RX7 100 yX7_night, Cond.instanceMethod yX7_night]
def wsX7_outOn_r2 : List Cond := [Cond.selects RX7 yX7_night yX7_night, Cond.code yX7_night cX7_night 3 none, Cond.methodLink RX7 64 yX7_isStorm, Cond.instanceMethod yX7_isStorm, Cond.selects RX7 yX7_isStorm yX7_isStorm, Cond.code yX7_isStorm cX7_isStorm 2 (some .boolean), Cond.methodLink RX7 78 yX7_leave, Cond.instanceMethod yX7_leave, Cond.selects RX7 yX7_leave yX7_leave, Cond.code yX7_leave cX7_leave 2 none, Cond.methodLink RX7 60 yX7_setParty, Cond.instanceMethod yX7_setParty, Cond.selects RX7 yX7_setParty yX7_setParty, Cond.code yX7_setParty cX7_setParty 4 none, Cond.methodLink RX7 81 yX7_arrives, Cond.instanceMethod yX7_arrives, Cond.selects RX7 yX7_arrives yX7_arrives, Cond.code yX7_arrives cX7_arrives 3 none, Cond.methodLink RX7 68 yX7_guests, Cond.instanceMethod yX7_guests, Cond.selects RX7 yX7_guests yX7_guests, Cond.code yX7_guests cX7_guests 3 (some .int), Cond.methodLink RX7 84 yX7_sups, Cond.instanceMethod yX7_sups]
def wsX7_outOn_r3 : List Cond := [Cond.selects RX7 yX7_sups yX7_sups, Cond.code yX7_sups cX7_sups 6 none, Cond.methodLink RX7 72 yX7_stock, Cond.instanceMethod yX7_stock, Cond.selects RX7 yX7_stock yX7_stock, Cond.code yX7_stock cX7_stock 4 (some .int), Cond.methodLink RX7 38 yX7_ofLot, Cond.instanceMethod yX7_ofLot, Cond.selects RX7 yX7_ofLot yX7_ofLot, Cond.code yX7_ofLot cX7_ofLot 3 (some .int), Cond.methodLink RX7 75 yX7_uses, Cond.instanceMethod yX7_uses, Cond.selects RX7 yX7_uses yX7_uses, Cond.code yX7_uses cX7_uses 6 (some .int), Cond.methodLink RX7 42 yX7_firstOf, Cond.instanceMethod yX7_firstOf, Cond.selects RX7 yX7_firstOf yX7_firstOf, Cond.code yX7_firstOf cX7_firstOf 3 (some .int), Cond.methodLink RX7 46 yX7_removes, Cond.instanceMethod yX7_removes, Cond.selects RX7 yX7_removes yX7_removes, Cond.code yX7_removes cX7_removes 3 none, Cond.methodLink RX7 87 yX7_heats, Cond.instanceMethod yX7_heats]
def wsX7_outOn_r4 : List Cond := [Cond.selects RX7 yX7_heats yX7_heats, Cond.code yX7_heats cX7_heats 3 none, Cond.methodLink RX7 90 yX7_spoils, Cond.instanceMethod yX7_spoils, Cond.selects RX7 yX7_spoils yX7_spoils, Cond.code yX7_spoils cX7_spoils 2 none, Cond.methodLink RX7 31 yX7_returns, Cond.instanceMethod yX7_returns, Cond.selects RX7 yX7_returns yX7_returns, Cond.code yX7_returns cX7_returns 2 none]
def wsX7_outOn : List Cond := .code yX7_outOn cX7_outOn 3 (some .int) :: ((wsX7_outOn_r1 ++ (wsX7_outOn_r2 ++ (wsX7_outOn_r3 ++ wsX7_outOn_r4))) ++ wsX70)
def wsX7_most_r1 : List Cond := [Cond.fieldLink RX7 7 "GlacierHutModel" "s" "[I", Cond.methodLink RX7 106 yX7_isStay, Cond.instanceMethod yX7_isStay, Cond.selects RX7 yX7_isStay yX7_isStay, Cond.initialized RX7, Cond.code yX7_isStay cX7_isStay 3 (some .boolean), Cond.methodLink RX7 50 yX7_in, Cond.static yX7_in, Cond.code yX7_in cX7_in 3 (some .boolean), Cond.methodLink RX7 110 yX7_isTaken, Cond.instanceMethod yX7_isTaken, Cond.selects RX7 yX7_isTaken yX7_isTaken, Cond.code yX7_isTaken cX7_isTaken 6 (some .boolean), Cond.fieldLink RX7 25 "GlacierHutModel" "aside" "[I", Cond.methodLink RX7 93 yX7_adds, Cond.instanceMethod yX7_adds, Cond.selects RX7 yX7_adds yX7_adds, Cond.code yX7_adds cX7_adds 5 none, Cond.methodLink RX7 60 yX7_setParty, Cond.instanceMethod yX7_setParty, Cond.selects RX7 yX7_setParty yX7_setParty, Cond.code yX7_setParty cX7_setParty 4 none, Cond.methodLink RX7 96 yX7_isAny, Cond.instanceMethod yX7_isAny]
def wsX7_most_r2 : List Cond := [Cond.selects RX7 yX7_isAny yX7_isAny, Cond.code yX7_isAny cX7_isAny 1 (some .boolean), Cond.methodLink RX7 57 yX7_partiesOf, Cond.instanceMethod yX7_partiesOf, Cond.selects RX7 yX7_partiesOf yX7_partiesOf, Cond.code yX7_partiesOf cX7_partiesOf 4 (some .int), Cond.methodLink RX7 54 yX7_ofParty, Cond.instanceMethod yX7_ofParty, Cond.selects RX7 yX7_ofParty yX7_ofParty, Cond.code yX7_ofParty cX7_ofParty 3 (some .int), Cond.methodLink RX7 100 yX7_night, Cond.instanceMethod yX7_night, Cond.selects RX7 yX7_night yX7_night, Cond.code yX7_night cX7_night 3 none, Cond.methodLink RX7 64 yX7_isStorm, Cond.instanceMethod yX7_isStorm, Cond.selects RX7 yX7_isStorm yX7_isStorm, Cond.code yX7_isStorm cX7_isStorm 2 (some .boolean), Cond.methodLink RX7 78 yX7_leave, Cond.instanceMethod yX7_leave, Cond.selects RX7 yX7_leave yX7_leave, Cond.code yX7_leave cX7_leave 2 none, Cond.methodLink RX7 81 yX7_arrives, Cond.instanceMethod yX7_arrives]
def wsX7_most_r3 : List Cond := [Cond.selects RX7 yX7_arrives yX7_arrives, Cond.code yX7_arrives cX7_arrives 3 none, Cond.methodLink RX7 68 yX7_guests, Cond.instanceMethod yX7_guests, Cond.selects RX7 yX7_guests yX7_guests, Cond.code yX7_guests cX7_guests 3 (some .int), Cond.methodLink RX7 84 yX7_sups, Cond.instanceMethod yX7_sups, Cond.selects RX7 yX7_sups yX7_sups, Cond.code yX7_sups cX7_sups 6 none, Cond.methodLink RX7 72 yX7_stock, Cond.instanceMethod yX7_stock, Cond.selects RX7 yX7_stock yX7_stock, Cond.code yX7_stock cX7_stock 4 (some .int), Cond.methodLink RX7 38 yX7_ofLot, Cond.instanceMethod yX7_ofLot, Cond.selects RX7 yX7_ofLot yX7_ofLot, Cond.code yX7_ofLot cX7_ofLot 3 (some .int), Cond.methodLink RX7 75 yX7_uses, Cond.instanceMethod yX7_uses, Cond.selects RX7 yX7_uses yX7_uses, Cond.code yX7_uses cX7_uses 6 (some .int), Cond.methodLink RX7 42 yX7_firstOf, Cond.instanceMethod yX7_firstOf]
def wsX7_most_r4 : List Cond := [Cond.selects RX7 yX7_firstOf yX7_firstOf, Cond.code yX7_firstOf cX7_firstOf 3 (some .int), Cond.methodLink RX7 46 yX7_removes, Cond.instanceMethod yX7_removes, Cond.selects RX7 yX7_removes yX7_removes, Cond.code yX7_removes cX7_removes 3 none, Cond.methodLink RX7 87 yX7_heats, Cond.instanceMethod yX7_heats, Cond.selects RX7 yX7_heats yX7_heats, Cond.code yX7_heats cX7_heats 3 none, Cond.methodLink RX7 90 yX7_spoils, Cond.instanceMethod yX7_spoils, Cond.selects RX7 yX7_spoils yX7_spoils, Cond.code yX7_spoils cX7_spoils 2 none]
def wsX7_most : List Cond := .code yX7_most cX7_most 4 (some .int) :: ((wsX7_most_r1 ++ (wsX7_most_r2 ++ (wsX7_most_r3 ++ wsX7_most_r4))) ++ wsX70)
def wsX7_keep : List Cond := .code yX7_keep cX7_keep 2 (some .int) :: ([.fieldLink RX7 16 "GlacierHutModel" "kept" "[I", .fieldLink RX7 7 "GlacierHutModel" "s" "[I", .fieldLink RX7 156 "GlacierHutModel" "isKept" "Z"] ++ wsX70)
def wsX7_restore : List Cond := .code yX7_restore cX7_restore 2 (some .int) :: ([.fieldLink RX7 156 "GlacierHutModel" "isKept" "Z", .fieldLink RX7 7 "GlacierHutModel" "s" "[I", .fieldLink RX7 16 "GlacierHutModel" "kept" "[I", .methodLink RX7 119 yX7_begins, .instanceMethod yX7_begins, .selects RX7 yX7_begins yX7_begins, .initialized RX7, .code yX7_begins cX7_begins 2 none, .fieldLink RX7 13 "GlacierHutModel" "begun" "[I", .methodLink RX7 126 yX7_acted, .instanceMethod yX7_acted, .selects RX7 yX7_acted yX7_acted, .code yX7_acted cX7_acted 3 (some .int), .fieldLink RX7 34 "GlacierHutModel" "states" "I", .fieldLink RX7 19 "GlacierHutModel" "past" "[I", .methodLink RX7 31 yX7_returns, .instanceMethod yX7_returns, .selects RX7 yX7_returns yX7_returns, .code yX7_returns cX7_returns 2 none] ++ wsX70)
def wsX7_undo : List Cond := .code yX7_undo cX7_undo 2 (some .int) :: ([.fieldLink RX7 34 "GlacierHutModel" "states" "I", .fieldLink RX7 7 "GlacierHutModel" "s" "[I", .fieldLink RX7 19 "GlacierHutModel" "past" "[I"] ++ wsX70)
def wsX7_type : List Cond := .code yX7_type cX7_type 2 (some .int) :: ([.fieldLink RX7 153 "GlacierHutModel" "length" "I", .fieldLink RX7 22 "GlacierHutModel" "text" "[I", .methodLink RX7 50 yX7_in, .static yX7_in, .initialized RX7, .code yX7_in cX7_in 3 (some .boolean)] ++ wsX70)
def wsX7_clearText : List Cond := .code yX7_clearText cX7_clearText 2 (some .int) :: ([.fieldLink RX7 153 "GlacierHutModel" "length" "I"] ++ wsX70)
def wsX7_here : List Cond := .code yX7_here cX7_here 1 (some .int) :: ([.fieldLink RX7 160 "GlacierHutModel" "at" "I", .fieldLink RX7 153 "GlacierHutModel" "length" "I", .fieldLink RX7 22 "GlacierHutModel" "text" "[I"] ++ wsX70)
def wsX7_isDigit : List Cond := .code yX7_isDigit cX7_isDigit 1 (some .boolean) :: ([.methodLink RX7 163 yX7_here, .instanceMethod yX7_here, .selects RX7 yX7_here yX7_here, .initialized RX7, .code yX7_here cX7_here 1 (some .int), .fieldLink RX7 160 "GlacierHutModel" "at" "I", .fieldLink RX7 153 "GlacierHutModel" "length" "I", .fieldLink RX7 22 "GlacierHutModel" "text" "[I", .methodLink RX7 50 yX7_in, .static yX7_in, .code yX7_in cX7_in 3 (some .boolean)] ++ wsX70)
def wsX7_takesSign : List Cond := .code yX7_takesSign cX7_takesSign 2 none :: ([.fieldLink RX7 166 "GlacierHutModel" "isForm" "Z", .fieldLink RX7 160 "GlacierHutModel" "at" "I", .methodLink RX7 163 yX7_here, .instanceMethod yX7_here, .selects RX7 yX7_here yX7_here, .initialized RX7, .code yX7_here cX7_here 1 (some .int), .fieldLink RX7 153 "GlacierHutModel" "length" "I", .fieldLink RX7 22 "GlacierHutModel" "text" "[I"] ++ wsX70)
def wsX7_number : List Cond := .code yX7_number cX7_number 3 (some .int) :: ([.fieldLink RX7 166 "GlacierHutModel" "isForm" "Z", .fieldLink RX7 160 "GlacierHutModel" "at" "I", .methodLink RX7 169 yX7_isDigit, .instanceMethod yX7_isDigit, .selects RX7 yX7_isDigit yX7_isDigit, .initialized RX7, .code yX7_isDigit cX7_isDigit 1 (some .boolean), .methodLink RX7 163 yX7_here, .instanceMethod yX7_here, .selects RX7 yX7_here yX7_here, .code yX7_here cX7_here 1 (some .int), .fieldLink RX7 153 "GlacierHutModel" "length" "I", .fieldLink RX7 22 "GlacierHutModel" "text" "[I", .methodLink RX7 50 yX7_in, .static yX7_in, .code yX7_in cX7_in 3 (some .boolean)] ++ wsX70)
def wsX7_wants : List Cond := .code yX7_wants cX7_wants 1 (some .int) :: ([])
def wsX7_called_r1 : List Cond := [Cond.fieldLink RX7 28 "GlacierHutModel" "numbers" "[I", Cond.methodLink RX7 122 yX7_loads, Cond.instanceMethod yX7_loads, Cond.selects RX7 yX7_loads yX7_loads, Cond.initialized RX7, Cond.code yX7_loads cX7_loads 5 (some .int), Cond.fieldLink RX7 7 "GlacierHutModel" "s" "[I", Cond.methodLink RX7 50 yX7_in, Cond.static yX7_in, Cond.code yX7_in cX7_in 3 (some .boolean), Cond.methodLink RX7 132 yX7_books, Cond.instanceMethod yX7_books, Cond.selects RX7 yX7_books yX7_books, Cond.code yX7_books cX7_books 4 (some .int), Cond.methodLink RX7 106 yX7_isStay, Cond.instanceMethod yX7_isStay, Cond.selects RX7 yX7_isStay yX7_isStay, Cond.code yX7_isStay cX7_isStay 3 (some .boolean), Cond.methodLink RX7 110 yX7_isTaken, Cond.instanceMethod yX7_isTaken, Cond.selects RX7 yX7_isTaken yX7_isTaken, Cond.code yX7_isTaken cX7_isTaken 6 (some .boolean), Cond.fieldLink RX7 25 "GlacierHutModel" "aside" "[I", Cond.methodLink RX7 93 yX7_adds]
def wsX7_called_r2 : List Cond := [Cond.instanceMethod yX7_adds, Cond.selects RX7 yX7_adds yX7_adds, Cond.code yX7_adds cX7_adds 5 none, Cond.methodLink RX7 60 yX7_setParty, Cond.instanceMethod yX7_setParty, Cond.selects RX7 yX7_setParty yX7_setParty, Cond.code yX7_setParty cX7_setParty 4 none, Cond.methodLink RX7 96 yX7_isAny, Cond.instanceMethod yX7_isAny, Cond.selects RX7 yX7_isAny yX7_isAny, Cond.code yX7_isAny cX7_isAny 1 (some .boolean), Cond.methodLink RX7 57 yX7_partiesOf, Cond.instanceMethod yX7_partiesOf, Cond.selects RX7 yX7_partiesOf yX7_partiesOf, Cond.code yX7_partiesOf cX7_partiesOf 4 (some .int), Cond.methodLink RX7 54 yX7_ofParty, Cond.instanceMethod yX7_ofParty, Cond.selects RX7 yX7_ofParty yX7_ofParty, Cond.code yX7_ofParty cX7_ofParty 3 (some .int), Cond.methodLink RX7 100 yX7_night, Cond.instanceMethod yX7_night, Cond.selects RX7 yX7_night yX7_night, Cond.code yX7_night cX7_night 3 none, Cond.methodLink RX7 64 yX7_isStorm]
def wsX7_called_r3 : List Cond := [Cond.instanceMethod yX7_isStorm, Cond.selects RX7 yX7_isStorm yX7_isStorm, Cond.code yX7_isStorm cX7_isStorm 2 (some .boolean), Cond.methodLink RX7 78 yX7_leave, Cond.instanceMethod yX7_leave, Cond.selects RX7 yX7_leave yX7_leave, Cond.code yX7_leave cX7_leave 2 none, Cond.methodLink RX7 81 yX7_arrives, Cond.instanceMethod yX7_arrives, Cond.selects RX7 yX7_arrives yX7_arrives, Cond.code yX7_arrives cX7_arrives 3 none, Cond.methodLink RX7 68 yX7_guests, Cond.instanceMethod yX7_guests, Cond.selects RX7 yX7_guests yX7_guests, Cond.code yX7_guests cX7_guests 3 (some .int), Cond.methodLink RX7 84 yX7_sups, Cond.instanceMethod yX7_sups, Cond.selects RX7 yX7_sups yX7_sups, Cond.code yX7_sups cX7_sups 6 none, Cond.methodLink RX7 72 yX7_stock, Cond.instanceMethod yX7_stock, Cond.selects RX7 yX7_stock yX7_stock, Cond.code yX7_stock cX7_stock 4 (some .int), Cond.methodLink RX7 38 yX7_ofLot]
def wsX7_called_r4 : List Cond := [Cond.instanceMethod yX7_ofLot, Cond.selects RX7 yX7_ofLot yX7_ofLot, Cond.code yX7_ofLot cX7_ofLot 3 (some .int), Cond.methodLink RX7 75 yX7_uses, Cond.instanceMethod yX7_uses, Cond.selects RX7 yX7_uses yX7_uses, Cond.code yX7_uses cX7_uses 6 (some .int), Cond.methodLink RX7 42 yX7_firstOf, Cond.instanceMethod yX7_firstOf, Cond.selects RX7 yX7_firstOf yX7_firstOf, Cond.code yX7_firstOf cX7_firstOf 3 (some .int), Cond.methodLink RX7 46 yX7_removes, Cond.instanceMethod yX7_removes, Cond.selects RX7 yX7_removes yX7_removes, Cond.code yX7_removes cX7_removes 3 none, Cond.methodLink RX7 87 yX7_heats, Cond.instanceMethod yX7_heats, Cond.selects RX7 yX7_heats yX7_heats, Cond.code yX7_heats cX7_heats 3 none, Cond.methodLink RX7 90 yX7_spoils, Cond.instanceMethod yX7_spoils, Cond.selects RX7 yX7_spoils yX7_spoils, Cond.code yX7_spoils cX7_spoils 2 none, Cond.methodLink RX7 138 yX7_storms]
def wsX7_called_r5 : List Cond := [Cond.instanceMethod yX7_storms, Cond.selects RX7 yX7_storms yX7_storms, Cond.code yX7_storms cX7_storms 4 (some .int), Cond.methodLink RX7 116 yX7_stormsAhead, Cond.instanceMethod yX7_stormsAhead, Cond.selects RX7 yX7_stormsAhead yX7_stormsAhead, Cond.code yX7_stormsAhead cX7_stormsAhead 3 (some .int), Cond.methodLink RX7 135 yX7_cancels, Cond.instanceMethod yX7_cancels, Cond.selects RX7 yX7_cancels yX7_cancels, Cond.code yX7_cancels cX7_cancels 2 (some .int), Cond.methodLink RX7 113 yX7_isParty, Cond.instanceMethod yX7_isParty, Cond.selects RX7 yX7_isParty yX7_isParty, Cond.code yX7_isParty cX7_isParty 2 (some .boolean), Cond.methodLink RX7 141 yX7_sleeps, Cond.instanceMethod yX7_sleeps, Cond.selects RX7 yX7_sleeps yX7_sleeps, Cond.code yX7_sleeps cX7_sleeps 4 (some .int), Cond.methodLink RX7 129 yX7_flies, Cond.instanceMethod yX7_flies, Cond.selects RX7 yX7_flies yX7_flies, Cond.code yX7_flies cX7_flies 3 (some .int), Cond.methodLink RX7 103 yX7_comes]
def wsX7_called_r6 : List Cond := [Cond.instanceMethod yX7_comes, Cond.selects RX7 yX7_comes yX7_comes, Cond.code yX7_comes cX7_comes 6 none]
def wsX7_called : List Cond := .code yX7_called cX7_called 2 (some .int) :: ((wsX7_called_r1 ++ (wsX7_called_r2 ++ (wsX7_called_r3 ++ (wsX7_called_r4 ++ (wsX7_called_r5 ++ wsX7_called_r6))))) ++ wsX70)
def wsX7_does_r1 : List Cond := [Cond.fieldLink RX7 160 "GlacierHutModel" "at" "I", Cond.fieldLink RX7 172 "GlacierHutModel" "done" "I", Cond.fieldLink RX7 153 "GlacierHutModel" "length" "I", Cond.fieldLink RX7 166 "GlacierHutModel" "isForm" "Z", Cond.fieldLink RX7 28 "GlacierHutModel" "numbers" "[I", Cond.fieldLink RX7 187 "GlacierHutModel" "told" "I", Cond.methodLink RX7 163 yX7_here, Cond.instanceMethod yX7_here, Cond.selects RX7 yX7_here yX7_here, Cond.initialized RX7, Cond.code yX7_here cX7_here 1 (some .int), Cond.fieldLink RX7 22 "GlacierHutModel" "text" "[I", Cond.methodLink RX7 175 yX7_wants, Cond.static yX7_wants, Cond.code yX7_wants cX7_wants 1 (some .int), Cond.methodLink RX7 178 yX7_takesSign, Cond.instanceMethod yX7_takesSign, Cond.selects RX7 yX7_takesSign yX7_takesSign, Cond.code yX7_takesSign cX7_takesSign 2 none, Cond.methodLink RX7 181 yX7_number, Cond.instanceMethod yX7_number, Cond.selects RX7 yX7_number yX7_number, Cond.code yX7_number cX7_number 3 (some .int), Cond.methodLink RX7 169 yX7_isDigit]
def wsX7_does_r2 : List Cond := [Cond.instanceMethod yX7_isDigit, Cond.selects RX7 yX7_isDigit yX7_isDigit, Cond.code yX7_isDigit cX7_isDigit 1 (some .boolean), Cond.methodLink RX7 50 yX7_in, Cond.static yX7_in, Cond.code yX7_in cX7_in 3 (some .boolean), Cond.methodLink RX7 184 yX7_called, Cond.instanceMethod yX7_called, Cond.selects RX7 yX7_called yX7_called, Cond.code yX7_called cX7_called 2 (some .int), Cond.methodLink RX7 122 yX7_loads, Cond.instanceMethod yX7_loads, Cond.selects RX7 yX7_loads yX7_loads, Cond.code yX7_loads cX7_loads 5 (some .int), Cond.fieldLink RX7 7 "GlacierHutModel" "s" "[I", Cond.methodLink RX7 132 yX7_books, Cond.instanceMethod yX7_books, Cond.selects RX7 yX7_books yX7_books, Cond.code yX7_books cX7_books 4 (some .int), Cond.methodLink RX7 106 yX7_isStay, Cond.instanceMethod yX7_isStay, Cond.selects RX7 yX7_isStay yX7_isStay, Cond.code yX7_isStay cX7_isStay 3 (some .boolean), Cond.methodLink RX7 110 yX7_isTaken]
def wsX7_does_r3 : List Cond := [Cond.instanceMethod yX7_isTaken, Cond.selects RX7 yX7_isTaken yX7_isTaken, Cond.code yX7_isTaken cX7_isTaken 6 (some .boolean), Cond.fieldLink RX7 25 "GlacierHutModel" "aside" "[I", Cond.methodLink RX7 93 yX7_adds, Cond.instanceMethod yX7_adds, Cond.selects RX7 yX7_adds yX7_adds, Cond.code yX7_adds cX7_adds 5 none, Cond.methodLink RX7 60 yX7_setParty, Cond.instanceMethod yX7_setParty, Cond.selects RX7 yX7_setParty yX7_setParty, Cond.code yX7_setParty cX7_setParty 4 none, Cond.methodLink RX7 96 yX7_isAny, Cond.instanceMethod yX7_isAny, Cond.selects RX7 yX7_isAny yX7_isAny, Cond.code yX7_isAny cX7_isAny 1 (some .boolean), Cond.methodLink RX7 57 yX7_partiesOf, Cond.instanceMethod yX7_partiesOf, Cond.selects RX7 yX7_partiesOf yX7_partiesOf, Cond.code yX7_partiesOf cX7_partiesOf 4 (some .int), Cond.methodLink RX7 54 yX7_ofParty, Cond.instanceMethod yX7_ofParty, Cond.selects RX7 yX7_ofParty yX7_ofParty, Cond.code yX7_ofParty cX7_ofParty 3 (some .int)]
def wsX7_does_r4 : List Cond := [Cond.methodLink RX7 100 yX7_night, Cond.instanceMethod yX7_night, Cond.selects RX7 yX7_night yX7_night, Cond.code yX7_night cX7_night 3 none, Cond.methodLink RX7 64 yX7_isStorm, Cond.instanceMethod yX7_isStorm, Cond.selects RX7 yX7_isStorm yX7_isStorm, Cond.code yX7_isStorm cX7_isStorm 2 (some .boolean), Cond.methodLink RX7 78 yX7_leave, Cond.instanceMethod yX7_leave, Cond.selects RX7 yX7_leave yX7_leave, Cond.code yX7_leave cX7_leave 2 none, Cond.methodLink RX7 81 yX7_arrives, Cond.instanceMethod yX7_arrives, Cond.selects RX7 yX7_arrives yX7_arrives, Cond.code yX7_arrives cX7_arrives 3 none, Cond.methodLink RX7 68 yX7_guests, Cond.instanceMethod yX7_guests, Cond.selects RX7 yX7_guests yX7_guests, Cond.code yX7_guests cX7_guests 3 (some .int), Cond.methodLink RX7 84 yX7_sups, Cond.instanceMethod yX7_sups, Cond.selects RX7 yX7_sups yX7_sups, Cond.code yX7_sups cX7_sups 6 none]
def wsX7_does_r5 : List Cond := [Cond.methodLink RX7 72 yX7_stock, Cond.instanceMethod yX7_stock, Cond.selects RX7 yX7_stock yX7_stock, Cond.code yX7_stock cX7_stock 4 (some .int), Cond.methodLink RX7 38 yX7_ofLot, Cond.instanceMethod yX7_ofLot, Cond.selects RX7 yX7_ofLot yX7_ofLot, Cond.code yX7_ofLot cX7_ofLot 3 (some .int), Cond.methodLink RX7 75 yX7_uses, Cond.instanceMethod yX7_uses, Cond.selects RX7 yX7_uses yX7_uses, Cond.code yX7_uses cX7_uses 6 (some .int), Cond.methodLink RX7 42 yX7_firstOf, Cond.instanceMethod yX7_firstOf, Cond.selects RX7 yX7_firstOf yX7_firstOf, Cond.code yX7_firstOf cX7_firstOf 3 (some .int), Cond.methodLink RX7 46 yX7_removes, Cond.instanceMethod yX7_removes, Cond.selects RX7 yX7_removes yX7_removes, Cond.code yX7_removes cX7_removes 3 none, Cond.methodLink RX7 87 yX7_heats, Cond.instanceMethod yX7_heats, Cond.selects RX7 yX7_heats yX7_heats, Cond.code yX7_heats cX7_heats 3 none]
def wsX7_does_r6 : List Cond := [Cond.methodLink RX7 90 yX7_spoils, Cond.instanceMethod yX7_spoils, Cond.selects RX7 yX7_spoils yX7_spoils, Cond.code yX7_spoils cX7_spoils 2 none, Cond.methodLink RX7 138 yX7_storms, Cond.instanceMethod yX7_storms, Cond.selects RX7 yX7_storms yX7_storms, Cond.code yX7_storms cX7_storms 4 (some .int), Cond.methodLink RX7 116 yX7_stormsAhead, Cond.instanceMethod yX7_stormsAhead, Cond.selects RX7 yX7_stormsAhead yX7_stormsAhead, Cond.code yX7_stormsAhead cX7_stormsAhead 3 (some .int), Cond.methodLink RX7 135 yX7_cancels, Cond.instanceMethod yX7_cancels, Cond.selects RX7 yX7_cancels yX7_cancels, Cond.code yX7_cancels cX7_cancels 2 (some .int), Cond.methodLink RX7 113 yX7_isParty, Cond.instanceMethod yX7_isParty, Cond.selects RX7 yX7_isParty yX7_isParty, Cond.code yX7_isParty cX7_isParty 2 (some .boolean), Cond.methodLink RX7 141 yX7_sleeps, Cond.instanceMethod yX7_sleeps, Cond.selects RX7 yX7_sleeps yX7_sleeps, Cond.code yX7_sleeps cX7_sleeps 4 (some .int)]
def wsX7_does_r7 : List Cond := [Cond.methodLink RX7 129 yX7_flies, Cond.instanceMethod yX7_flies, Cond.selects RX7 yX7_flies yX7_flies, Cond.code yX7_flies cX7_flies 3 (some .int), Cond.methodLink RX7 103 yX7_comes, Cond.instanceMethod yX7_comes, Cond.selects RX7 yX7_comes yX7_comes, Cond.code yX7_comes cX7_comes 6 none]
def wsX7_does : List Cond := .code yX7_does cX7_does 4 (some .int) :: ((wsX7_does_r1 ++ (wsX7_does_r2 ++ (wsX7_does_r3 ++ (wsX7_does_r4 ++ (wsX7_does_r5 ++ (wsX7_does_r6 ++ wsX7_does_r7)))))) ++ wsX70)
def wsX7_fault_r1 : List Cond := [Cond.fieldLink RX7 166 "GlacierHutModel" "isForm" "Z", Cond.fieldLink RX7 187 "GlacierHutModel" "told" "I", Cond.methodLink RX7 50 yX7_in, Cond.static yX7_in, Cond.initialized RX7, Cond.code yX7_in cX7_in 3 (some .boolean), Cond.methodLink RX7 119 yX7_begins, Cond.instanceMethod yX7_begins, Cond.selects RX7 yX7_begins yX7_begins, Cond.code yX7_begins cX7_begins 2 none, Cond.fieldLink RX7 13 "GlacierHutModel" "begun" "[I", Cond.fieldLink RX7 7 "GlacierHutModel" "s" "[I", Cond.methodLink RX7 190 yX7_does, Cond.instanceMethod yX7_does, Cond.selects RX7 yX7_does yX7_does, Cond.code yX7_does cX7_does 4 (some .int), Cond.fieldLink RX7 160 "GlacierHutModel" "at" "I", Cond.fieldLink RX7 172 "GlacierHutModel" "done" "I", Cond.fieldLink RX7 153 "GlacierHutModel" "length" "I", Cond.fieldLink RX7 28 "GlacierHutModel" "numbers" "[I", Cond.methodLink RX7 163 yX7_here, Cond.instanceMethod yX7_here, Cond.selects RX7 yX7_here yX7_here, Cond.code yX7_here cX7_here 1 (some .int)]
def wsX7_fault_r2 : List Cond := [Cond.fieldLink RX7 22 "GlacierHutModel" "text" "[I", Cond.methodLink RX7 175 yX7_wants, Cond.static yX7_wants, Cond.code yX7_wants cX7_wants 1 (some .int), Cond.methodLink RX7 178 yX7_takesSign, Cond.instanceMethod yX7_takesSign, Cond.selects RX7 yX7_takesSign yX7_takesSign, Cond.code yX7_takesSign cX7_takesSign 2 none, Cond.methodLink RX7 181 yX7_number, Cond.instanceMethod yX7_number, Cond.selects RX7 yX7_number yX7_number, Cond.code yX7_number cX7_number 3 (some .int), Cond.methodLink RX7 169 yX7_isDigit, Cond.instanceMethod yX7_isDigit, Cond.selects RX7 yX7_isDigit yX7_isDigit, Cond.code yX7_isDigit cX7_isDigit 1 (some .boolean), Cond.methodLink RX7 184 yX7_called, Cond.instanceMethod yX7_called, Cond.selects RX7 yX7_called yX7_called, Cond.code yX7_called cX7_called 2 (some .int), Cond.methodLink RX7 122 yX7_loads, Cond.instanceMethod yX7_loads, Cond.selects RX7 yX7_loads yX7_loads, Cond.code yX7_loads cX7_loads 5 (some .int)]
def wsX7_fault_r3 : List Cond := [Cond.methodLink RX7 132 yX7_books, Cond.instanceMethod yX7_books, Cond.selects RX7 yX7_books yX7_books, Cond.code yX7_books cX7_books 4 (some .int), Cond.methodLink RX7 106 yX7_isStay, Cond.instanceMethod yX7_isStay, Cond.selects RX7 yX7_isStay yX7_isStay, Cond.code yX7_isStay cX7_isStay 3 (some .boolean), Cond.methodLink RX7 110 yX7_isTaken, Cond.instanceMethod yX7_isTaken, Cond.selects RX7 yX7_isTaken yX7_isTaken, Cond.code yX7_isTaken cX7_isTaken 6 (some .boolean), Cond.fieldLink RX7 25 "GlacierHutModel" "aside" "[I", Cond.methodLink RX7 93 yX7_adds, Cond.instanceMethod yX7_adds, Cond.selects RX7 yX7_adds yX7_adds, Cond.code yX7_adds cX7_adds 5 none, Cond.methodLink RX7 60 yX7_setParty, Cond.instanceMethod yX7_setParty, Cond.selects RX7 yX7_setParty yX7_setParty, Cond.code yX7_setParty cX7_setParty 4 none, Cond.methodLink RX7 96 yX7_isAny, Cond.instanceMethod yX7_isAny, Cond.selects RX7 yX7_isAny yX7_isAny]
def wsX7_fault_r4 : List Cond := [Cond.code yX7_isAny cX7_isAny 1 (some .boolean), Cond.methodLink RX7 57 yX7_partiesOf, Cond.instanceMethod yX7_partiesOf, Cond.selects RX7 yX7_partiesOf yX7_partiesOf, Cond.code yX7_partiesOf cX7_partiesOf 4 (some .int), Cond.methodLink RX7 54 yX7_ofParty, Cond.instanceMethod yX7_ofParty, Cond.selects RX7 yX7_ofParty yX7_ofParty, Cond.code yX7_ofParty cX7_ofParty 3 (some .int), Cond.methodLink RX7 100 yX7_night, Cond.instanceMethod yX7_night, Cond.selects RX7 yX7_night yX7_night, Cond.code yX7_night cX7_night 3 none, Cond.methodLink RX7 64 yX7_isStorm, Cond.instanceMethod yX7_isStorm, Cond.selects RX7 yX7_isStorm yX7_isStorm, Cond.code yX7_isStorm cX7_isStorm 2 (some .boolean), Cond.methodLink RX7 78 yX7_leave, Cond.instanceMethod yX7_leave, Cond.selects RX7 yX7_leave yX7_leave, Cond.code yX7_leave cX7_leave 2 none, Cond.methodLink RX7 81 yX7_arrives, Cond.instanceMethod yX7_arrives, Cond.selects RX7 yX7_arrives yX7_arrives]
def wsX7_fault_r5 : List Cond := [Cond.code yX7_arrives cX7_arrives 3 none, Cond.methodLink RX7 68 yX7_guests, Cond.instanceMethod yX7_guests, Cond.selects RX7 yX7_guests yX7_guests, Cond.code yX7_guests cX7_guests 3 (some .int), Cond.methodLink RX7 84 yX7_sups, Cond.instanceMethod yX7_sups, Cond.selects RX7 yX7_sups yX7_sups, Cond.code yX7_sups cX7_sups 6 none, Cond.methodLink RX7 72 yX7_stock, Cond.instanceMethod yX7_stock, Cond.selects RX7 yX7_stock yX7_stock, Cond.code yX7_stock cX7_stock 4 (some .int), Cond.methodLink RX7 38 yX7_ofLot, Cond.instanceMethod yX7_ofLot, Cond.selects RX7 yX7_ofLot yX7_ofLot, Cond.code yX7_ofLot cX7_ofLot 3 (some .int), Cond.methodLink RX7 75 yX7_uses, Cond.instanceMethod yX7_uses, Cond.selects RX7 yX7_uses yX7_uses, Cond.code yX7_uses cX7_uses 6 (some .int), Cond.methodLink RX7 42 yX7_firstOf, Cond.instanceMethod yX7_firstOf, Cond.selects RX7 yX7_firstOf yX7_firstOf]
def wsX7_fault_r6 : List Cond := [Cond.code yX7_firstOf cX7_firstOf 3 (some .int), Cond.methodLink RX7 46 yX7_removes, Cond.instanceMethod yX7_removes, Cond.selects RX7 yX7_removes yX7_removes, Cond.code yX7_removes cX7_removes 3 none, Cond.methodLink RX7 87 yX7_heats, Cond.instanceMethod yX7_heats, Cond.selects RX7 yX7_heats yX7_heats, Cond.code yX7_heats cX7_heats 3 none, Cond.methodLink RX7 90 yX7_spoils, Cond.instanceMethod yX7_spoils, Cond.selects RX7 yX7_spoils yX7_spoils, Cond.code yX7_spoils cX7_spoils 2 none, Cond.methodLink RX7 138 yX7_storms, Cond.instanceMethod yX7_storms, Cond.selects RX7 yX7_storms yX7_storms, Cond.code yX7_storms cX7_storms 4 (some .int), Cond.methodLink RX7 116 yX7_stormsAhead, Cond.instanceMethod yX7_stormsAhead, Cond.selects RX7 yX7_stormsAhead yX7_stormsAhead, Cond.code yX7_stormsAhead cX7_stormsAhead 3 (some .int), Cond.methodLink RX7 135 yX7_cancels, Cond.instanceMethod yX7_cancels, Cond.selects RX7 yX7_cancels yX7_cancels]
def wsX7_fault_r7 : List Cond := [Cond.code yX7_cancels cX7_cancels 2 (some .int), Cond.methodLink RX7 113 yX7_isParty, Cond.instanceMethod yX7_isParty, Cond.selects RX7 yX7_isParty yX7_isParty, Cond.code yX7_isParty cX7_isParty 2 (some .boolean), Cond.methodLink RX7 141 yX7_sleeps, Cond.instanceMethod yX7_sleeps, Cond.selects RX7 yX7_sleeps yX7_sleeps, Cond.code yX7_sleeps cX7_sleeps 4 (some .int), Cond.methodLink RX7 129 yX7_flies, Cond.instanceMethod yX7_flies, Cond.selects RX7 yX7_flies yX7_flies, Cond.code yX7_flies cX7_flies 3 (some .int), Cond.methodLink RX7 103 yX7_comes, Cond.instanceMethod yX7_comes, Cond.selects RX7 yX7_comes yX7_comes, Cond.code yX7_comes cX7_comes 6 none, Cond.methodLink RX7 31 yX7_returns, Cond.instanceMethod yX7_returns, Cond.selects RX7 yX7_returns yX7_returns, Cond.code yX7_returns cX7_returns 2 none]
def wsX7_fault : List Cond := .code yX7_fault cX7_fault 4 (some .int) :: ((wsX7_fault_r1 ++ (wsX7_fault_r2 ++ (wsX7_fault_r3 ++ (wsX7_fault_r4 ++ (wsX7_fault_r5 ++ (wsX7_fault_r6 ++ wsX7_fault_r7)))))) ++ wsX70)
def wsX7_play_r1 : List Cond := [Cond.fieldLink RX7 172 "GlacierHutModel" "done" "I", Cond.methodLink RX7 119 yX7_begins, Cond.instanceMethod yX7_begins, Cond.selects RX7 yX7_begins yX7_begins, Cond.initialized RX7, Cond.code yX7_begins cX7_begins 2 none, Cond.fieldLink RX7 13 "GlacierHutModel" "begun" "[I", Cond.fieldLink RX7 7 "GlacierHutModel" "s" "[I", Cond.methodLink RX7 190 yX7_does, Cond.instanceMethod yX7_does, Cond.selects RX7 yX7_does yX7_does, Cond.code yX7_does cX7_does 4 (some .int), Cond.fieldLink RX7 160 "GlacierHutModel" "at" "I", Cond.fieldLink RX7 153 "GlacierHutModel" "length" "I", Cond.fieldLink RX7 166 "GlacierHutModel" "isForm" "Z", Cond.fieldLink RX7 28 "GlacierHutModel" "numbers" "[I", Cond.fieldLink RX7 187 "GlacierHutModel" "told" "I", Cond.methodLink RX7 163 yX7_here, Cond.instanceMethod yX7_here, Cond.selects RX7 yX7_here yX7_here, Cond.code yX7_here cX7_here 1 (some .int), Cond.fieldLink RX7 22 "GlacierHutModel" "text" "[I", Cond.methodLink RX7 175 yX7_wants, Cond.static yX7_wants]
def wsX7_play_r2 : List Cond := [Cond.code yX7_wants cX7_wants 1 (some .int), Cond.methodLink RX7 178 yX7_takesSign, Cond.instanceMethod yX7_takesSign, Cond.selects RX7 yX7_takesSign yX7_takesSign, Cond.code yX7_takesSign cX7_takesSign 2 none, Cond.methodLink RX7 181 yX7_number, Cond.instanceMethod yX7_number, Cond.selects RX7 yX7_number yX7_number, Cond.code yX7_number cX7_number 3 (some .int), Cond.methodLink RX7 169 yX7_isDigit, Cond.instanceMethod yX7_isDigit, Cond.selects RX7 yX7_isDigit yX7_isDigit, Cond.code yX7_isDigit cX7_isDigit 1 (some .boolean), Cond.methodLink RX7 50 yX7_in, Cond.static yX7_in, Cond.code yX7_in cX7_in 3 (some .boolean), Cond.methodLink RX7 184 yX7_called, Cond.instanceMethod yX7_called, Cond.selects RX7 yX7_called yX7_called, Cond.code yX7_called cX7_called 2 (some .int), Cond.methodLink RX7 122 yX7_loads, Cond.instanceMethod yX7_loads, Cond.selects RX7 yX7_loads yX7_loads, Cond.code yX7_loads cX7_loads 5 (some .int)]
def wsX7_play_r3 : List Cond := [Cond.methodLink RX7 132 yX7_books, Cond.instanceMethod yX7_books, Cond.selects RX7 yX7_books yX7_books, Cond.code yX7_books cX7_books 4 (some .int), Cond.methodLink RX7 106 yX7_isStay, Cond.instanceMethod yX7_isStay, Cond.selects RX7 yX7_isStay yX7_isStay, Cond.code yX7_isStay cX7_isStay 3 (some .boolean), Cond.methodLink RX7 110 yX7_isTaken, Cond.instanceMethod yX7_isTaken, Cond.selects RX7 yX7_isTaken yX7_isTaken, Cond.code yX7_isTaken cX7_isTaken 6 (some .boolean), Cond.fieldLink RX7 25 "GlacierHutModel" "aside" "[I", Cond.methodLink RX7 93 yX7_adds, Cond.instanceMethod yX7_adds, Cond.selects RX7 yX7_adds yX7_adds, Cond.code yX7_adds cX7_adds 5 none, Cond.methodLink RX7 60 yX7_setParty, Cond.instanceMethod yX7_setParty, Cond.selects RX7 yX7_setParty yX7_setParty, Cond.code yX7_setParty cX7_setParty 4 none, Cond.methodLink RX7 96 yX7_isAny, Cond.instanceMethod yX7_isAny, Cond.selects RX7 yX7_isAny yX7_isAny]
def wsX7_play_r4 : List Cond := [Cond.code yX7_isAny cX7_isAny 1 (some .boolean), Cond.methodLink RX7 57 yX7_partiesOf, Cond.instanceMethod yX7_partiesOf, Cond.selects RX7 yX7_partiesOf yX7_partiesOf, Cond.code yX7_partiesOf cX7_partiesOf 4 (some .int), Cond.methodLink RX7 54 yX7_ofParty, Cond.instanceMethod yX7_ofParty, Cond.selects RX7 yX7_ofParty yX7_ofParty, Cond.code yX7_ofParty cX7_ofParty 3 (some .int), Cond.methodLink RX7 100 yX7_night, Cond.instanceMethod yX7_night, Cond.selects RX7 yX7_night yX7_night, Cond.code yX7_night cX7_night 3 none, Cond.methodLink RX7 64 yX7_isStorm, Cond.instanceMethod yX7_isStorm, Cond.selects RX7 yX7_isStorm yX7_isStorm, Cond.code yX7_isStorm cX7_isStorm 2 (some .boolean), Cond.methodLink RX7 78 yX7_leave, Cond.instanceMethod yX7_leave, Cond.selects RX7 yX7_leave yX7_leave, Cond.code yX7_leave cX7_leave 2 none, Cond.methodLink RX7 81 yX7_arrives, Cond.instanceMethod yX7_arrives, Cond.selects RX7 yX7_arrives yX7_arrives]
def wsX7_play_r5 : List Cond := [Cond.code yX7_arrives cX7_arrives 3 none, Cond.methodLink RX7 68 yX7_guests, Cond.instanceMethod yX7_guests, Cond.selects RX7 yX7_guests yX7_guests, Cond.code yX7_guests cX7_guests 3 (some .int), Cond.methodLink RX7 84 yX7_sups, Cond.instanceMethod yX7_sups, Cond.selects RX7 yX7_sups yX7_sups, Cond.code yX7_sups cX7_sups 6 none, Cond.methodLink RX7 72 yX7_stock, Cond.instanceMethod yX7_stock, Cond.selects RX7 yX7_stock yX7_stock, Cond.code yX7_stock cX7_stock 4 (some .int), Cond.methodLink RX7 38 yX7_ofLot, Cond.instanceMethod yX7_ofLot, Cond.selects RX7 yX7_ofLot yX7_ofLot, Cond.code yX7_ofLot cX7_ofLot 3 (some .int), Cond.methodLink RX7 75 yX7_uses, Cond.instanceMethod yX7_uses, Cond.selects RX7 yX7_uses yX7_uses, Cond.code yX7_uses cX7_uses 6 (some .int), Cond.methodLink RX7 42 yX7_firstOf, Cond.instanceMethod yX7_firstOf, Cond.selects RX7 yX7_firstOf yX7_firstOf]
def wsX7_play_r6 : List Cond := [Cond.code yX7_firstOf cX7_firstOf 3 (some .int), Cond.methodLink RX7 46 yX7_removes, Cond.instanceMethod yX7_removes, Cond.selects RX7 yX7_removes yX7_removes, Cond.code yX7_removes cX7_removes 3 none, Cond.methodLink RX7 87 yX7_heats, Cond.instanceMethod yX7_heats, Cond.selects RX7 yX7_heats yX7_heats, Cond.code yX7_heats cX7_heats 3 none, Cond.methodLink RX7 90 yX7_spoils, Cond.instanceMethod yX7_spoils, Cond.selects RX7 yX7_spoils yX7_spoils, Cond.code yX7_spoils cX7_spoils 2 none, Cond.methodLink RX7 138 yX7_storms, Cond.instanceMethod yX7_storms, Cond.selects RX7 yX7_storms yX7_storms, Cond.code yX7_storms cX7_storms 4 (some .int), Cond.methodLink RX7 116 yX7_stormsAhead, Cond.instanceMethod yX7_stormsAhead, Cond.selects RX7 yX7_stormsAhead yX7_stormsAhead, Cond.code yX7_stormsAhead cX7_stormsAhead 3 (some .int), Cond.methodLink RX7 135 yX7_cancels, Cond.instanceMethod yX7_cancels, Cond.selects RX7 yX7_cancels yX7_cancels]
def wsX7_play_r7 : List Cond := [Cond.code yX7_cancels cX7_cancels 2 (some .int), Cond.methodLink RX7 113 yX7_isParty, Cond.instanceMethod yX7_isParty, Cond.selects RX7 yX7_isParty yX7_isParty, Cond.code yX7_isParty cX7_isParty 2 (some .boolean), Cond.methodLink RX7 141 yX7_sleeps, Cond.instanceMethod yX7_sleeps, Cond.selects RX7 yX7_sleeps yX7_sleeps, Cond.code yX7_sleeps cX7_sleeps 4 (some .int), Cond.methodLink RX7 129 yX7_flies, Cond.instanceMethod yX7_flies, Cond.selects RX7 yX7_flies yX7_flies, Cond.code yX7_flies cX7_flies 3 (some .int), Cond.methodLink RX7 103 yX7_comes, Cond.instanceMethod yX7_comes, Cond.selects RX7 yX7_comes yX7_comes, Cond.code yX7_comes cX7_comes 6 none, Cond.methodLink RX7 126 yX7_acted, Cond.instanceMethod yX7_acted, Cond.selects RX7 yX7_acted yX7_acted, Cond.code yX7_acted cX7_acted 3 (some .int), Cond.fieldLink RX7 34 "GlacierHutModel" "states" "I", Cond.fieldLink RX7 19 "GlacierHutModel" "past" "[I", Cond.methodLink RX7 31 yX7_returns]
def wsX7_play_r8 : List Cond := [Cond.instanceMethod yX7_returns, Cond.selects RX7 yX7_returns yX7_returns, Cond.code yX7_returns cX7_returns 2 none]
def wsX7_play : List Cond := .code yX7_play cX7_play 1 (some .int) :: ((wsX7_play_r1 ++ (wsX7_play_r2 ++ (wsX7_play_r3 ++ (wsX7_play_r4 ++ (wsX7_play_r5 ++ (wsX7_play_r6 ++ (wsX7_play_r7 ++ wsX7_play_r8))))))) ++ wsX70)
def wsJ9_max_7cf53 : List Cond := .code yJ9_max_7cf53 cJ9_max_7cf53 2 (some .int) :: ([])
def wsJ9_min_7cf53 : List Cond := .code yJ9_min_7cf53 cJ9_min_7cf53 2 (some .int) :: ([])
def wsL_law_r1 : List Cond := [Cond.classLink RL 7 RX6, Cond.instantiable RX6 7, Cond.initialized RX6, Cond.classLink RL 10 RX7, Cond.instantiable RX7 14, Cond.initialized RX7, Cond.methodLink RL 9 yX6_init, Cond.instanceMethod yX6_init, Cond.code yX6_init cX6_init 1 none, Cond.methodLink RX6 1 objectInit, Cond.instanceMethod objectInit, Cond.code objectInit ⟨#[0xb1]⟩ 1 none, Cond.classLink RX6 7 RX1, Cond.instantiable RX1 10, Cond.initialized RX1, Cond.fieldLink RX6 10 "GlacierHut" "now" "LGlacierHut$Hut;", Cond.fieldLink RX6 16 "GlacierHut" "trial" "LGlacierHut$Hut;", Cond.fieldLink RX6 19 "GlacierHut" "snapshot" "LGlacierHut$Hut;", Cond.classLink RX6 22 RX0, Cond.instantiable RX0 2, Cond.initialized RX0, Cond.fieldLink RX6 25 "GlacierHut" "history" "LGlacierHut$History;", Cond.classLink RX6 29 RX5, Cond.instantiable RX5 5]
def wsL_law_r2 : List Cond := [Cond.initialized RX5, Cond.fieldLink RX6 32 "GlacierHut" "text" "LGlacierHut$Text;", Cond.classLink RX6 36 RX3, Cond.instantiable RX3 6, Cond.initialized RX3, Cond.fieldLink RX6 41 "GlacierHut" "rehearsal" "LGlacierHut$Rehearsal;", Cond.fieldLink RX6 45 "GlacierHut" "kept" "Z", Cond.methodLink RX6 9 yX1_init, Cond.instanceMethod yX1_init, Cond.code yX1_init cX1_init 2 none, Cond.methodLink RX1 3 objectInit, Cond.classLink RX1 9 RX4, Cond.instantiable RX4 11, Cond.initialized RX4, Cond.fieldLink RX1 12 "GlacierHut$Hut" "stores" "LGlacierHut$Stores;", Cond.classLink RX1 18 RX2, Cond.instantiable RX2 7, Cond.initialized RX2, Cond.fieldLink RX1 21 "GlacierHut$Hut" "parties" "LGlacierHut$Parties;", Cond.arrayClass .boolean, Cond.fieldLink RX1 25 "GlacierHut$Hut" "storms" "[Z", Cond.arrayClass .int, Cond.fieldLink RX1 29 "GlacierHut$Hut" "settings" "[I", Cond.fieldLink RX1 33 "GlacierHut$Hut" "FIRST" "[I"]
def wsL_law_r3 : List Cond := [Cond.methodLink RX1 11 yX4_init, Cond.instanceMethod yX4_init, Cond.code yX4_init cX4_init 1 none, Cond.methodLink RX4 1 objectInit, Cond.fieldLink RX4 9 "GlacierHut$Stores" "lotKind" "[I", Cond.fieldLink RX4 13 "GlacierHut$Stores" "lotAmount" "[I", Cond.fieldLink RX4 16 "GlacierHut$Stores" "lotLast" "[I", Cond.fieldLink RX4 19 "GlacierHut$Stores" "palletKind" "[I", Cond.fieldLink RX4 22 "GlacierHut$Stores" "palletAmount" "[I", Cond.fieldLink RX4 25 "GlacierHut$Stores" "palletDays" "[I", Cond.fieldLink RX4 28 "GlacierHut$Stores" "brought" "[I", Cond.fieldLink RX4 31 "GlacierHut$Stores" "used" "[I", Cond.fieldLink RX4 34 "GlacierHut$Stores" "spoilt" "[I", Cond.methodLink RX1 20 yX2_init, Cond.instanceMethod yX2_init, Cond.code yX2_init cX2_init 1 none, Cond.methodLink RX2 3 objectInit, Cond.fieldLink RX2 9 "GlacierHut$Parties" "size" "[I", Cond.fieldLink RX2 13 "GlacierHut$Parties" "day" "[I", Cond.fieldLink RX2 16 "GlacierHut$Parties" "nights" "[I", Cond.fieldLink RX2 19 "GlacierHut$Parties" "status" "[I", Cond.fieldLink RX2 22 "GlacierHut$Parties" "slept" "[I", Cond.fieldLink RX2 25 "GlacierHut$Parties" "came" "[I", Cond.methodLink RX6 24 yX0_init]
def wsL_law_r4 : List Cond := [Cond.instanceMethod yX0_init, Cond.code yX0_init cX0_init 2 none, Cond.methodLink RX0 1 objectInit, Cond.classLink RX0 9 RX1, Cond.fieldLink RX0 11 "GlacierHut$History" "states" "[LGlacierHut$Hut;", Cond.methodLink RX0 15 yX1_init, Cond.methodLink RX6 31 yX5_init, Cond.instanceMethod yX5_init, Cond.code yX5_init cX5_init 1 none, Cond.methodLink RX5 1 objectInit, Cond.arrayClass .char, Cond.fieldLink RX5 9 "GlacierHut$Text" "characters" "[C", Cond.fieldLink RX5 13 "GlacierHut$Text" "numbers" "[I", Cond.methodLink RX6 38 yX3_init, Cond.instanceMethod yX3_init, Cond.code yX3_init cX3_init 2 none, Cond.methodLink RX3 3 objectInit, Cond.classLink RX3 9 RX1, Cond.fieldLink RX3 12 "GlacierHut$Rehearsal" "hut" "LGlacierHut$Hut;", Cond.fieldLink RX3 18 "GlacierHut$Rehearsal" "trial" "LGlacierHut$Hut;", Cond.methodLink RX3 11 yX1_init, Cond.methodLink RL 12 yX7_init, Cond.instanceMethod yX7_init, Cond.code yX7_init cX7_init 1 none]
def wsL_law_r5 : List Cond := [Cond.methodLink RX7 1 objectInit, Cond.fieldLink RX7 7 "GlacierHutModel" "s" "[I", Cond.fieldLink RX7 13 "GlacierHutModel" "begun" "[I", Cond.fieldLink RX7 16 "GlacierHutModel" "kept" "[I", Cond.fieldLink RX7 19 "GlacierHutModel" "past" "[I", Cond.fieldLink RX7 22 "GlacierHutModel" "text" "[I", Cond.fieldLink RX7 25 "GlacierHutModel" "aside" "[I", Cond.fieldLink RX7 28 "GlacierHutModel" "numbers" "[I", Cond.methodLink RL 13 yX6_load, Cond.instanceMethod yX6_load, Cond.selects RX6 yX6_load yX6_load, Cond.code yX6_load cX6_load 4 (some .int), Cond.methodLink RX6 49 yX0_prepare, Cond.instanceMethod yX0_prepare, Cond.selects RX0 yX0_prepare yX0_prepare, Cond.code yX0_prepare cX0_prepare 3 none, Cond.fieldLink RX0 16 "GlacierHut$History" "length" "I", Cond.methodLink RX0 20 yX1_copyFrom, Cond.instanceMethod yX1_copyFrom, Cond.selects RX1 yX1_copyFrom yX1_copyFrom, Cond.code yX1_copyFrom cX1_copyFrom 2 none, Cond.methodLink RX1 43 arraycopyName, Cond.native arraycopyName, Cond.static arraycopyName]
def wsL_law_r6 : List Cond := [Cond.initialized "java/lang/System", Cond.fieldLink RX1 49 "GlacierHut$Hut" "day" "I", Cond.fieldLink RX1 53 "GlacierHut$Hut" "flights" "I", Cond.fieldLink RX1 56 "GlacierHut$Hut" "hungry" "I", Cond.fieldLink RX1 59 "GlacierHut$Hut" "coldNights" "I", Cond.fieldLink RX1 62 "GlacierHut$Hut" "guestNights" "I", Cond.fieldLink RX1 65 "GlacierHut$Hut" "cutSuppers" "I", Cond.methodLink RX1 36 yX4_copyFrom, Cond.instanceMethod yX4_copyFrom, Cond.selects RX4 yX4_copyFrom yX4_copyFrom, Cond.code yX4_copyFrom cX4_copyFrom 2 none, Cond.methodLink RX4 37 arraycopyName, Cond.fieldLink RX4 43 "GlacierHut$Stores" "lots" "I", Cond.fieldLink RX4 47 "GlacierHut$Stores" "onPallet" "I", Cond.methodLink RX1 40 yX2_copyFrom, Cond.instanceMethod yX2_copyFrom, Cond.selects RX2 yX2_copyFrom yX2_copyFrom, Cond.code yX2_copyFrom cX2_copyFrom 2 none, Cond.methodLink RX2 28 arraycopyName, Cond.fieldLink RX2 34 "GlacierHut$Parties" "number" "I", Cond.methodLink RX6 52 yX1_putOnPallet, Cond.instanceMethod yX1_putOnPallet, Cond.selects RX1 yX1_putOnPallet yX1_putOnPallet, Cond.code yX1_putOnPallet cX1_putOnPallet 4 (some .int)]
def wsL_law_r7 : List Cond := [Cond.fieldLink RX1 72 "GlacierHut$Stores" "onPallet" "I", Cond.methodLink RX1 68 yX4_isKind, Cond.static yX4_isKind, Cond.code yX4_isKind cX4_isKind 1 (some .boolean), Cond.methodLink RX1 75 yX4_addToPallet, Cond.instanceMethod yX4_addToPallet, Cond.selects RX4 yX4_addToPallet yX4_addToPallet, Cond.code yX4_addToPallet cX4_addToPallet 4 none, Cond.methodLink RX6 56 yX6_recorded, Cond.instanceMethod yX6_recorded, Cond.selects RX6 yX6_recorded yX6_recorded, Cond.code yX6_recorded cX6_recorded 2 (some .int), Cond.methodLink RX6 241 yX0_commit, Cond.instanceMethod yX0_commit, Cond.selects RX0 yX0_commit yX0_commit, Cond.code yX0_commit cX0_commit 3 none, Cond.methodLink RL 17 yX7_load, Cond.instanceMethod yX7_load, Cond.selects RX7 yX7_load yX7_load, Cond.code yX7_load cX7_load 4 (some .int), Cond.methodLink RX7 119 yX7_begins, Cond.instanceMethod yX7_begins, Cond.selects RX7 yX7_begins yX7_begins, Cond.code yX7_begins cX7_begins 2 none]
def wsL_law_r8 : List Cond := [Cond.methodLink RX7 122 yX7_loads, Cond.instanceMethod yX7_loads, Cond.selects RX7 yX7_loads yX7_loads, Cond.code yX7_loads cX7_loads 5 (some .int), Cond.methodLink RX7 50 yX7_in, Cond.static yX7_in, Cond.code yX7_in cX7_in 3 (some .boolean), Cond.methodLink RX7 126 yX7_acted, Cond.instanceMethod yX7_acted, Cond.selects RX7 yX7_acted yX7_acted, Cond.code yX7_acted cX7_acted 3 (some .int), Cond.fieldLink RX7 34 "GlacierHutModel" "states" "I", Cond.methodLink RX7 31 yX7_returns, Cond.instanceMethod yX7_returns, Cond.selects RX7 yX7_returns yX7_returns, Cond.code yX7_returns cX7_returns 2 none, Cond.methodLink RL 18 yX6_fly, Cond.instanceMethod yX6_fly, Cond.selects RX6 yX6_fly yX6_fly, Cond.code yX6_fly cX6_fly 1 (some .int), Cond.methodLink RX6 60 yX1_bringPallet, Cond.instanceMethod yX1_bringPallet, Cond.selects RX1 yX1_bringPallet yX1_bringPallet, Cond.code yX1_bringPallet cX1_bringPallet 2 (some .int)]
def wsL_law_r9 : List Cond := [Cond.fieldLink RX1 83 "GlacierHut$Stores" "lots" "I", Cond.methodLink RX1 79 yX1_isStorm, Cond.instanceMethod yX1_isStorm, Cond.selects RX1 yX1_isStorm yX1_isStorm, Cond.code yX1_isStorm cX1_isStorm 1 (some .boolean), Cond.methodLink RX1 86 yX4_unloadPallet, Cond.instanceMethod yX4_unloadPallet, Cond.selects RX4 yX4_unloadPallet yX4_unloadPallet, Cond.code yX4_unloadPallet cX4_unloadPallet 3 none, Cond.methodLink RX4 50 yX4_addLot, Cond.instanceMethod yX4_addLot, Cond.selects RX4 yX4_addLot yX4_addLot, Cond.code yX4_addLot cX4_addLot 5 none, Cond.methodLink RX4 54 yX4_isKind, Cond.methodLink RL 22 yX7_fly, Cond.instanceMethod yX7_fly, Cond.selects RX7 yX7_fly yX7_fly, Cond.code yX7_fly cX7_fly 1 (some .int), Cond.methodLink RX7 129 yX7_flies, Cond.instanceMethod yX7_flies, Cond.selects RX7 yX7_flies yX7_flies, Cond.code yX7_flies cX7_flies 3 (some .int), Cond.methodLink RX7 64 yX7_isStorm, Cond.instanceMethod yX7_isStorm]
def wsL_law_r10 : List Cond := [Cond.selects RX7 yX7_isStorm yX7_isStorm, Cond.code yX7_isStorm cX7_isStorm 2 (some .boolean), Cond.methodLink RX7 103 yX7_comes, Cond.instanceMethod yX7_comes, Cond.selects RX7 yX7_comes yX7_comes, Cond.code yX7_comes cX7_comes 6 none, Cond.methodLink RX7 38 yX7_ofLot, Cond.instanceMethod yX7_ofLot, Cond.selects RX7 yX7_ofLot yX7_ofLot, Cond.code yX7_ofLot cX7_ofLot 3 (some .int), Cond.methodLink RL 23 yX6_book, Cond.instanceMethod yX6_book, Cond.selects RX6 yX6_book yX6_book, Cond.code yX6_book cX6_book 4 (some .int), Cond.methodLink RX6 64 yX1_takeBooking, Cond.instanceMethod yX1_takeBooking, Cond.selects RX1 yX1_takeBooking yX1_takeBooking, Cond.code yX1_takeBooking cX1_takeBooking 5 (some .int), Cond.fieldLink RX1 98 "GlacierHut$Parties" "number" "I", Cond.methodLink RX1 90 yX1_mayBeBooked, Cond.instanceMethod yX1_mayBeBooked, Cond.selects RX1 yX1_mayBeBooked yX1_mayBeBooked, Cond.code yX1_mayBeBooked cX1_mayBeBooked 4 (some .boolean), Cond.methodLink RX1 94 yX1_wouldSuffice]
def wsL_law_r11 : List Cond := [Cond.instanceMethod yX1_wouldSuffice, Cond.selects RX1 yX1_wouldSuffice yX1_wouldSuffice, Cond.code yX1_wouldSuffice cX1_wouldSuffice 6 (some .boolean), Cond.methodLink RX1 104 yX1_copyFrom, Cond.methodLink RX1 101 yX2_add, Cond.instanceMethod yX2_add, Cond.selects RX2 yX2_add yX2_add, Cond.code yX2_add cX2_add 4 none, Cond.methodLink RX1 107 yX2_anyAwaited, Cond.instanceMethod yX2_anyAwaited, Cond.selects RX2 yX2_anyAwaited yX2_anyAwaited, Cond.code yX2_anyAwaited cX2_anyAwaited 2 (some .boolean), Cond.methodLink RX1 110 yX1_passNight, Cond.instanceMethod yX1_passNight, Cond.selects RX1 yX1_passNight yX1_passNight, Cond.code yX1_passNight cX1_passNight 9 (some .boolean), Cond.methodLink RX1 144 Lib.Math.min.name, Cond.static Lib.Math.min.name, Cond.initialized "java/lang/Math", Cond.code Lib.Math.min.name Lib.Math.min.code 2 (some .int), Cond.methodLink RX1 123 yX2_leave, Cond.instanceMethod yX2_leave, Cond.selects RX2 yX2_leave yX2_leave, Cond.code yX2_leave cX2_leave 2 none]
def wsL_law_r12 : List Cond := [Cond.methodLink RX1 126 yX2_guests, Cond.instanceMethod yX2_guests, Cond.selects RX2 yX2_guests yX2_guests, Cond.code yX2_guests cX2_guests 3 (some .int), Cond.methodLink RX1 130 yX2_arrive, Cond.instanceMethod yX2_arrive, Cond.selects RX2 yX2_arrive yX2_arrive, Cond.code yX2_arrive cX2_arrive 7 (some .boolean), Cond.methodLink RX1 134 yX4_stock, Cond.instanceMethod yX4_stock, Cond.selects RX4 yX4_stock yX4_stock, Cond.code yX4_stock cX4_stock 4 (some .int), Cond.methodLink RX1 137 yX1_rationFor, Cond.instanceMethod yX1_rationFor, Cond.selects RX1 yX1_rationFor yX1_rationFor, Cond.code yX1_rationFor cX1_rationFor 4 (some .int), Cond.methodLink RX1 141 yX4_take, Cond.instanceMethod yX4_take, Cond.selects RX4 yX4_take yX4_take, Cond.code yX4_take cX4_take 7 (some .int), Cond.methodLink RX1 149 yX1_gasFor, Cond.instanceMethod yX1_gasFor, Cond.selects RX1 yX1_gasFor yX1_gasFor, Cond.code yX1_gasFor cX1_gasFor 3 (some .int)]
def wsL_law_r13 : List Cond := [Cond.methodLink RX1 153 yX2_sleepOnce, Cond.instanceMethod yX2_sleepOnce, Cond.selects RX2 yX2_sleepOnce yX2_sleepOnce, Cond.code yX2_sleepOnce cX2_sleepOnce 2 none, Cond.methodLink RX1 156 yX4_spoil, Cond.instanceMethod yX4_spoil, Cond.selects RX4 yX4_spoil yX4_spoil, Cond.code yX4_spoil cX4_spoil 4 none, Cond.methodLink RX1 159 yX4_dropEmptyLots, Cond.instanceMethod yX4_dropEmptyLots, Cond.selects RX4 yX4_dropEmptyLots yX4_dropEmptyLots, Cond.code yX4_dropEmptyLots cX4_dropEmptyLots 3 none, Cond.methodLink RL 26 yX7_book, Cond.instanceMethod yX7_book, Cond.selects RX7 yX7_book yX7_book, Cond.code yX7_book cX7_book 4 (some .int), Cond.methodLink RX7 132 yX7_books, Cond.instanceMethod yX7_books, Cond.selects RX7 yX7_books yX7_books, Cond.code yX7_books cX7_books 4 (some .int), Cond.methodLink RX7 106 yX7_isStay, Cond.instanceMethod yX7_isStay, Cond.selects RX7 yX7_isStay yX7_isStay, Cond.code yX7_isStay cX7_isStay 3 (some .boolean)]
def wsL_law_r14 : List Cond := [Cond.methodLink RX7 110 yX7_isTaken, Cond.instanceMethod yX7_isTaken, Cond.selects RX7 yX7_isTaken yX7_isTaken, Cond.code yX7_isTaken cX7_isTaken 6 (some .boolean), Cond.methodLink RX7 93 yX7_adds, Cond.instanceMethod yX7_adds, Cond.selects RX7 yX7_adds yX7_adds, Cond.code yX7_adds cX7_adds 5 none, Cond.methodLink RX7 60 yX7_setParty, Cond.instanceMethod yX7_setParty, Cond.selects RX7 yX7_setParty yX7_setParty, Cond.code yX7_setParty cX7_setParty 4 none, Cond.methodLink RX7 96 yX7_isAny, Cond.instanceMethod yX7_isAny, Cond.selects RX7 yX7_isAny yX7_isAny, Cond.code yX7_isAny cX7_isAny 1 (some .boolean), Cond.methodLink RX7 57 yX7_partiesOf, Cond.instanceMethod yX7_partiesOf, Cond.selects RX7 yX7_partiesOf yX7_partiesOf, Cond.code yX7_partiesOf cX7_partiesOf 4 (some .int), Cond.methodLink RX7 54 yX7_ofParty, Cond.instanceMethod yX7_ofParty, Cond.selects RX7 yX7_ofParty yX7_ofParty, Cond.code yX7_ofParty cX7_ofParty 3 (some .int)]
def wsL_law_r15 : List Cond := [Cond.methodLink RX7 100 yX7_night, Cond.instanceMethod yX7_night, Cond.selects RX7 yX7_night yX7_night, Cond.code yX7_night cX7_night 3 none, Cond.methodLink RX7 78 yX7_leave, Cond.instanceMethod yX7_leave, Cond.selects RX7 yX7_leave yX7_leave, Cond.code yX7_leave cX7_leave 2 none, Cond.methodLink RX7 81 yX7_arrives, Cond.instanceMethod yX7_arrives, Cond.selects RX7 yX7_arrives yX7_arrives, Cond.code yX7_arrives cX7_arrives 3 none, Cond.methodLink RX7 68 yX7_guests, Cond.instanceMethod yX7_guests, Cond.selects RX7 yX7_guests yX7_guests, Cond.code yX7_guests cX7_guests 3 (some .int), Cond.methodLink RX7 84 yX7_sups, Cond.instanceMethod yX7_sups, Cond.selects RX7 yX7_sups yX7_sups, Cond.code yX7_sups cX7_sups 6 none, Cond.methodLink RX7 72 yX7_stock, Cond.instanceMethod yX7_stock, Cond.selects RX7 yX7_stock yX7_stock, Cond.code yX7_stock cX7_stock 4 (some .int)]
def wsL_law_r16 : List Cond := [Cond.methodLink RX7 75 yX7_uses, Cond.instanceMethod yX7_uses, Cond.selects RX7 yX7_uses yX7_uses, Cond.code yX7_uses cX7_uses 6 (some .int), Cond.methodLink RX7 42 yX7_firstOf, Cond.instanceMethod yX7_firstOf, Cond.selects RX7 yX7_firstOf yX7_firstOf, Cond.code yX7_firstOf cX7_firstOf 3 (some .int), Cond.methodLink RX7 46 yX7_removes, Cond.instanceMethod yX7_removes, Cond.selects RX7 yX7_removes yX7_removes, Cond.code yX7_removes cX7_removes 3 none, Cond.methodLink RX7 87 yX7_heats, Cond.instanceMethod yX7_heats, Cond.selects RX7 yX7_heats yX7_heats, Cond.code yX7_heats cX7_heats 3 none, Cond.methodLink RX7 90 yX7_spoils, Cond.instanceMethod yX7_spoils, Cond.selects RX7 yX7_spoils yX7_spoils, Cond.code yX7_spoils cX7_spoils 2 none, Cond.methodLink RL 27 yX6_cancel, Cond.instanceMethod yX6_cancel, Cond.selects RX6 yX6_cancel yX6_cancel, Cond.code yX6_cancel cX6_cancel 2 (some .int)]
def wsL_law_r17 : List Cond := [Cond.methodLink RX6 68 yX1_callOff, Cond.instanceMethod yX1_callOff, Cond.selects RX1 yX1_callOff yX1_callOff, Cond.code yX1_callOff cX1_callOff 2 (some .int), Cond.fieldLink RX1 116 "GlacierHut$Parties" "status" "[I", Cond.methodLink RX1 113 yX2_has, Cond.instanceMethod yX2_has, Cond.selects RX2 yX2_has yX2_has, Cond.code yX2_has cX2_has 2 (some .boolean), Cond.methodLink RX1 119 yX2_withStatus, Cond.instanceMethod yX2_withStatus, Cond.selects RX2 yX2_withStatus yX2_withStatus, Cond.code yX2_withStatus cX2_withStatus 4 (some .int), Cond.methodLink RL 31 yX7_cancel, Cond.instanceMethod yX7_cancel, Cond.selects RX7 yX7_cancel yX7_cancel, Cond.code yX7_cancel cX7_cancel 2 (some .int), Cond.methodLink RX7 135 yX7_cancels, Cond.instanceMethod yX7_cancels, Cond.selects RX7 yX7_cancels yX7_cancels, Cond.code yX7_cancels cX7_cancels 2 (some .int), Cond.methodLink RX7 113 yX7_isParty, Cond.instanceMethod yX7_isParty, Cond.selects RX7 yX7_isParty yX7_isParty]
def wsL_law_r18 : List Cond := [Cond.code yX7_isParty cX7_isParty 2 (some .boolean), Cond.methodLink RL 32 yX6_storm, Cond.instanceMethod yX6_storm, Cond.selects RX6 yX6_storm yX6_storm, Cond.code yX6_storm cX6_storm 3 (some .int), Cond.methodLink RX6 71 yX1_tellStorm, Cond.instanceMethod yX1_tellStorm, Cond.selects RX1 yX1_tellStorm yX1_tellStorm, Cond.code yX1_tellStorm cX1_tellStorm 6 (some .int), Cond.methodLink RL 36 yX7_storm, Cond.instanceMethod yX7_storm, Cond.selects RX7 yX7_storm yX7_storm, Cond.code yX7_storm cX7_storm 3 (some .int), Cond.methodLink RX7 138 yX7_storms, Cond.instanceMethod yX7_storms, Cond.selects RX7 yX7_storms yX7_storms, Cond.code yX7_storms cX7_storms 4 (some .int), Cond.methodLink RX7 116 yX7_stormsAhead, Cond.instanceMethod yX7_stormsAhead, Cond.selects RX7 yX7_stormsAhead yX7_stormsAhead, Cond.code yX7_stormsAhead cX7_stormsAhead 3 (some .int), Cond.methodLink RL 37 yX6_clear, Cond.instanceMethod yX6_clear, Cond.selects RX6 yX6_clear yX6_clear]
def wsL_law_r19 : List Cond := [Cond.code yX6_clear cX6_clear 2 (some .int), Cond.methodLink RX6 75 yX1_tellCalm, Cond.instanceMethod yX1_tellCalm, Cond.selects RX1 yX1_tellCalm yX1_tellCalm, Cond.code yX1_tellCalm cX1_tellCalm 3 (some .int), Cond.methodLink RL 40 yX7_clear, Cond.instanceMethod yX7_clear, Cond.selects RX7 yX7_clear yX7_clear, Cond.code yX7_clear cX7_clear 3 (some .int), Cond.methodLink RL 41 yX6_sleep, Cond.instanceMethod yX6_sleep, Cond.selects RX6 yX6_sleep yX6_sleep, Cond.code yX6_sleep cX6_sleep 2 (some .int), Cond.methodLink RX6 78 yX1_passNights, Cond.instanceMethod yX1_passNights, Cond.selects RX1 yX1_passNights yX1_passNights, Cond.code yX1_passNights cX1_passNights 4 (some .int), Cond.methodLink RL 44 yX7_sleep, Cond.instanceMethod yX7_sleep, Cond.selects RX7 yX7_sleep yX7_sleep, Cond.code yX7_sleep cX7_sleep 2 (some .int), Cond.methodLink RX7 141 yX7_sleeps, Cond.instanceMethod yX7_sleeps, Cond.selects RX7 yX7_sleeps yX7_sleeps]
def wsL_law_r20 : List Cond := [Cond.code yX7_sleeps cX7_sleeps 4 (some .int), Cond.methodLink RL 45 yX6_set, Cond.instanceMethod yX6_set, Cond.selects RX6 yX6_set yX6_set, Cond.code yX6_set cX6_set 3 (some .int), Cond.methodLink RX6 81 yX1_changeSetting, Cond.instanceMethod yX1_changeSetting, Cond.selects RX1 yX1_changeSetting yX1_changeSetting, Cond.code yX1_changeSetting cX1_changeSetting 4 (some .int), Cond.fieldLink RX1 162 "GlacierHut$Hut" "LOWEST" "[I", Cond.fieldLink RX1 165 "GlacierHut$Hut" "HIGHEST" "[I", Cond.methodLink RL 48 yX7_set, Cond.instanceMethod yX7_set, Cond.selects RX7 yX7_set yX7_set, Cond.code yX7_set cX7_set 4 (some .int), Cond.methodLink RX7 144 yX7_isSetting, Cond.static yX7_isSetting, Cond.code yX7_isSetting cX7_isSetting 2 (some .boolean), Cond.methodLink RL 49 yX6_lotOf, Cond.instanceMethod yX6_lotOf, Cond.selects RX6 yX6_lotOf yX6_lotOf, Cond.code yX6_lotOf cX6_lotOf 5 (some .int), Cond.fieldLink RX6 90 "GlacierHut$Hut" "stores" "LGlacierHut$Stores;", Cond.fieldLink RX6 97 "GlacierHut$Stores" "lotAmount" "[I"]
def wsL_law_r21 : List Cond := [Cond.fieldLink RX6 101 "GlacierHut$Stores" "lotLast" "[I", Cond.methodLink RX6 84 yX4_isKind, Cond.methodLink RX6 94 yX4_find, Cond.instanceMethod yX4_find, Cond.selects RX4 yX4_find yX4_find, Cond.code yX4_find cX4_find 5 (some .int), Cond.methodLink RL 52 yX7_lotOf, Cond.instanceMethod yX7_lotOf, Cond.selects RX7 yX7_lotOf yX7_lotOf, Cond.code yX7_lotOf cX7_lotOf 7 (some .int), Cond.methodLink RL 53 yX6_storeOf, Cond.instanceMethod yX6_storeOf, Cond.selects RX6 yX6_storeOf yX6_storeOf, Cond.code yX6_storeOf cX6_storeOf 4 (some .int), Cond.fieldLink RX6 107 "GlacierHut$Stores" "brought" "[I", Cond.fieldLink RX6 110 "GlacierHut$Stores" "used" "[I", Cond.fieldLink RX6 113 "GlacierHut$Stores" "spoilt" "[I", Cond.methodLink RX6 104 yX4_stock, Cond.methodLink RX6 116 yX4_lotsOfKind, Cond.instanceMethod yX4_lotsOfKind, Cond.selects RX4 yX4_lotsOfKind yX4_lotsOfKind, Cond.code yX4_lotsOfKind cX4_lotsOfKind 4 (some .int), Cond.methodLink RX6 119 yX4_amountOnPallet, Cond.instanceMethod yX4_amountOnPallet]
def wsL_law_r22 : List Cond := [Cond.selects RX4 yX4_amountOnPallet yX4_amountOnPallet, Cond.code yX4_amountOnPallet cX4_amountOnPallet 4 (some .int), Cond.methodLink RL 56 yX7_storeOf, Cond.instanceMethod yX7_storeOf, Cond.selects RX7 yX7_storeOf yX7_storeOf, Cond.code yX7_storeOf cX7_storeOf 3 (some .int), Cond.methodLink RX7 147 yX7_lotsOf, Cond.instanceMethod yX7_lotsOf, Cond.selects RX7 yX7_lotsOf yX7_lotsOf, Cond.code yX7_lotsOf cX7_lotsOf 4 (some .int), Cond.methodLink RX7 150 yX7_loadedOf, Cond.instanceMethod yX7_loadedOf, Cond.selects RX7 yX7_loadedOf yX7_loadedOf, Cond.code yX7_loadedOf cX7_loadedOf 4 (some .int), Cond.methodLink RL 57 yX6_partyOf, Cond.instanceMethod yX6_partyOf, Cond.selects RX6 yX6_partyOf yX6_partyOf, Cond.code yX6_partyOf cX6_partyOf 4 (some .int), Cond.fieldLink RX6 122 "GlacierHut$Hut" "parties" "LGlacierHut$Parties;", Cond.fieldLink RX6 131 "GlacierHut$Parties" "size" "[I", Cond.fieldLink RX6 134 "GlacierHut$Parties" "day" "[I", Cond.fieldLink RX6 137 "GlacierHut$Parties" "nights" "[I", Cond.fieldLink RX6 140 "GlacierHut$Parties" "status" "[I", Cond.fieldLink RX6 143 "GlacierHut$Parties" "slept" "[I"]
def wsL_law_r23 : List Cond := [Cond.fieldLink RX6 146 "GlacierHut$Parties" "came" "[I", Cond.methodLink RX6 149 Lib.Math.max.name, Cond.static Lib.Math.max.name, Cond.code Lib.Math.max.name Lib.Math.max.code 2 (some .int), Cond.methodLink RX6 126 yX2_has, Cond.methodLink RL 60 yX7_partyOf, Cond.instanceMethod yX7_partyOf, Cond.selects RX7 yX7_partyOf yX7_partyOf, Cond.code yX7_partyOf cX7_partyOf 4 (some .int), Cond.methodLink RL 61 yX6_count, Cond.instanceMethod yX6_count, Cond.selects RX6 yX6_count yX6_count, Cond.code yX6_count cX6_count 2 (some .int), Cond.fieldLink RX6 154 "GlacierHut$Parties" "number" "I", Cond.fieldLink RX6 164 "GlacierHut$Hut" "day" "I", Cond.fieldLink RX6 170 "GlacierHut$Hut" "flights" "I", Cond.fieldLink RX6 173 "GlacierHut$Stores" "onPallet" "I", Cond.fieldLink RX6 176 "GlacierHut$Hut" "hungry" "I", Cond.fieldLink RX6 179 "GlacierHut$Hut" "coldNights" "I", Cond.fieldLink RX6 182 "GlacierHut$Hut" "guestNights" "I", Cond.fieldLink RX6 185 "GlacierHut$Hut" "cutSuppers" "I", Cond.fieldLink RX6 188 "GlacierHut$History" "length" "I", Cond.fieldLink RX6 191 "GlacierHut$Text" "length" "I", Cond.methodLink RX6 158 yX2_withStatus]
def wsL_law_r24 : List Cond := [Cond.methodLink RX6 161 yX2_guests, Cond.methodLink RX6 166 yX1_isStorm, Cond.methodLink RX6 192 yX1_settingAt, Cond.instanceMethod yX1_settingAt, Cond.selects RX1 yX1_settingAt yX1_settingAt, Cond.code yX1_settingAt cX1_settingAt 2 (some .int), Cond.methodLink RL 64 yX7_count, Cond.instanceMethod yX7_count, Cond.selects RX7 yX7_count yX7_count, Cond.code yX7_count cX7_count 2 (some .int), Cond.fieldLink RX7 153 "GlacierHutModel" "length" "I", Cond.fieldLink RX7 156 "GlacierHutModel" "isKept" "Z", Cond.methodLink RL 65 yX6_goneOn, Cond.instanceMethod yX6_goneOn, Cond.selects RX6 yX6_goneOn yX6_goneOn, Cond.code yX6_goneOn cX6_goneOn 2 (some .int), Cond.methodLink RX6 195 yX2_isAwaited, Cond.instanceMethod yX2_isAwaited, Cond.selects RX2 yX2_isAwaited yX2_isAwaited, Cond.code yX2_isAwaited cX2_isAwaited 2 (some .boolean), Cond.methodLink RX2 38 yX2_has, Cond.methodLink RX6 198 yX1_copyFrom, Cond.methodLink RX6 201 yX1_dayWhenGone, Cond.instanceMethod yX1_dayWhenGone]
def wsL_law_r25 : List Cond := [Cond.selects RX1 yX1_dayWhenGone yX1_dayWhenGone, Cond.code yX1_dayWhenGone cX1_dayWhenGone 3 (some .int), Cond.methodLink RX1 168 yX2_isAwaited, Cond.methodLink RX1 171 yX2_hasStatus, Cond.instanceMethod yX2_hasStatus, Cond.selects RX2 yX2_hasStatus yX2_hasStatus, Cond.code yX2_hasStatus cX2_hasStatus 3 (some .boolean), Cond.methodLink RL 68 yX7_goneOn, Cond.instanceMethod yX7_goneOn, Cond.selects RX7 yX7_goneOn yX7_goneOn, Cond.code yX7_goneOn cX7_goneOn 3 (some .int), Cond.methodLink RL 69 yX6_outOn, Cond.instanceMethod yX6_outOn, Cond.selects RX6 yX6_outOn yX6_outOn, Cond.code yX6_outOn cX6_outOn 2 (some .int), Cond.methodLink RX6 204 yX1_dayWhenOut, Cond.instanceMethod yX1_dayWhenOut, Cond.selects RX1 yX1_dayWhenOut yX1_dayWhenOut, Cond.code yX1_dayWhenOut cX1_dayWhenOut 3 (some .int), Cond.methodLink RL 72 yX7_outOn, Cond.instanceMethod yX7_outOn, Cond.selects RX7 yX7_outOn yX7_outOn, Cond.code yX7_outOn cX7_outOn 3 (some .int), Cond.methodLink RL 73 yX6_most]
def wsL_law_r26 : List Cond := [Cond.instanceMethod yX6_most, Cond.selects RX6 yX6_most yX6_most, Cond.code yX6_most cX6_most 4 (some .int), Cond.methodLink RX6 207 yX1_mayBeBooked, Cond.methodLink RX6 211 yX1_wouldSuffice, Cond.methodLink RL 76 yX7_most, Cond.instanceMethod yX7_most, Cond.selects RX7 yX7_most yX7_most, Cond.code yX7_most cX7_most 4 (some .int), Cond.methodLink RL 77 yX6_keep, Cond.instanceMethod yX6_keep, Cond.selects RX6 yX6_keep yX6_keep, Cond.code yX6_keep cX6_keep 1 (some .int), Cond.methodLink RL 80 yX7_keep, Cond.instanceMethod yX7_keep, Cond.selects RX7 yX7_keep yX7_keep, Cond.code yX7_keep cX7_keep 2 (some .int), Cond.methodLink RL 81 yX6_restore, Cond.instanceMethod yX6_restore, Cond.selects RX6 yX6_restore yX6_restore, Cond.code yX6_restore cX6_restore 1 (some .int), Cond.methodLink RL 84 yX7_restore, Cond.instanceMethod yX7_restore, Cond.selects RX7 yX7_restore yX7_restore]
def wsL_law_r27 : List Cond := [Cond.code yX7_restore cX7_restore 2 (some .int), Cond.methodLink RL 85 yX6_undo, Cond.instanceMethod yX6_undo, Cond.selects RX6 yX6_undo yX6_undo, Cond.code yX6_undo cX6_undo 1 (some .int), Cond.methodLink RX6 215 yX0_takeBack, Cond.instanceMethod yX0_takeBack, Cond.selects RX0 yX0_takeBack yX0_takeBack, Cond.code yX0_takeBack cX0_takeBack 3 none, Cond.methodLink RL 88 yX7_undo, Cond.instanceMethod yX7_undo, Cond.selects RX7 yX7_undo yX7_undo, Cond.code yX7_undo cX7_undo 2 (some .int), Cond.methodLink RL 89 yX6_type, Cond.instanceMethod yX6_type, Cond.selects RX6 yX6_type yX6_type, Cond.code yX6_type cX6_type 2 (some .int), Cond.methodLink RX6 218 yX5_append, Cond.instanceMethod yX5_append, Cond.selects RX5 yX5_append yX5_append, Cond.code yX5_append cX5_append 2 none, Cond.fieldLink RX5 17 "GlacierHut$Text" "length" "I", Cond.methodLink RL 92 yX7_type, Cond.instanceMethod yX7_type]
def wsL_law_r28 : List Cond := [Cond.selects RX7 yX7_type yX7_type, Cond.code yX7_type cX7_type 2 (some .int), Cond.methodLink RL 93 yX6_clearText, Cond.instanceMethod yX6_clearText, Cond.selects RX6 yX6_clearText yX6_clearText, Cond.code yX6_clearText cX6_clearText 2 (some .int), Cond.methodLink RL 96 yX7_clearText, Cond.instanceMethod yX7_clearText, Cond.selects RX7 yX7_clearText yX7_clearText, Cond.code yX7_clearText cX7_clearText 2 (some .int), Cond.methodLink RL 97 yX6_fault, Cond.instanceMethod yX6_fault, Cond.selects RX6 yX6_fault yX6_fault, Cond.code yX6_fault cX6_fault 2 (some .int), Cond.fieldLink RX6 226 "GlacierHut$Rehearsal" "reason" "I", Cond.fieldLink RX6 229 "GlacierHut$Rehearsal" "position" "I", Cond.fieldLink RX6 232 "GlacierHut$Rehearsal" "cause" "I", Cond.methodLink RX6 222 yX3_run, Cond.instanceMethod yX3_run, Cond.selects RX3 yX3_run yX3_run, Cond.code yX3_run cX3_run 5 none, Cond.fieldLink RX3 25 "GlacierHut$Rehearsal" "commands" "I", Cond.fieldLink RX3 29 "GlacierHut$Rehearsal" "position" "I", Cond.fieldLink RX3 32 "GlacierHut$Rehearsal" "reason" "I"]
def wsL_law_r29 : List Cond := [Cond.fieldLink RX3 35 "GlacierHut$Rehearsal" "cause" "I", Cond.fieldLink RX3 40 "GlacierHut$Text" "length" "I", Cond.fieldLink RX3 47 "GlacierHut$Text" "letter" "C", Cond.fieldLink RX3 51 "GlacierHut$Text" "numbers" "[I", Cond.fieldLink RX3 59 "GlacierHut$Text" "next" "I", Cond.methodLink RX3 21 yX1_copyFrom, Cond.methodLink RX3 43 yX5_readCommand, Cond.instanceMethod yX5_readCommand, Cond.selects RX5 yX5_readCommand yX5_readCommand, Cond.code yX5_readCommand cX5_readCommand 4 (some .boolean), Cond.fieldLink RX5 25 "GlacierHut$Text" "letter" "C", Cond.fieldLink RX5 29 "GlacierHut$Text" "next" "I", Cond.methodLink RX5 21 yX5_at, Cond.instanceMethod yX5_at, Cond.selects RX5 yX5_at yX5_at, Cond.code yX5_at cX5_at 2 (some .char), Cond.methodLink RX5 32 yX5_numbersOf, Cond.instanceMethod yX5_numbersOf, Cond.selects RX5 yX5_numbersOf yX5_numbersOf, Cond.code yX5_numbersOf cX5_numbersOf 2 (some .int), Cond.methodLink RX5 36 yX5_passes, Cond.instanceMethod yX5_passes, Cond.selects RX5 yX5_passes yX5_passes, Cond.code yX5_passes cX5_passes 2 (some .boolean)]
def wsL_law_r30 : List Cond := [Cond.methodLink RX5 40 yX5_readNumber, Cond.instanceMethod yX5_readNumber, Cond.selects RX5 yX5_readNumber yX5_readNumber, Cond.code yX5_readNumber cX5_readNumber 4 (some .int), Cond.methodLink RX5 44 Lib.Math.max.name, Cond.methodLink RX3 55 yX3_obey, Cond.instanceMethod yX3_obey, Cond.selects RX3 yX3_obey yX3_obey, Cond.code yX3_obey cX3_obey 3 (some .int), Cond.methodLink RX3 62 yX1_putOnPallet, Cond.methodLink RX3 66 yX1_bringPallet, Cond.methodLink RX3 70 yX1_takeBooking, Cond.methodLink RX3 74 yX1_callOff, Cond.methodLink RX3 78 yX1_tellStorm, Cond.methodLink RX3 82 yX1_passNights, Cond.methodLink RL 100 yX7_fault, Cond.instanceMethod yX7_fault, Cond.selects RX7 yX7_fault yX7_fault, Cond.code yX7_fault cX7_fault 4 (some .int), Cond.fieldLink RX7 166 "GlacierHutModel" "isForm" "Z", Cond.fieldLink RX7 187 "GlacierHutModel" "told" "I", Cond.methodLink RX7 190 yX7_does, Cond.instanceMethod yX7_does, Cond.selects RX7 yX7_does yX7_does]
def wsL_law_r31 : List Cond := [Cond.code yX7_does cX7_does 4 (some .int), Cond.fieldLink RX7 160 "GlacierHutModel" "at" "I", Cond.fieldLink RX7 172 "GlacierHutModel" "done" "I", Cond.methodLink RX7 163 yX7_here, Cond.instanceMethod yX7_here, Cond.selects RX7 yX7_here yX7_here, Cond.code yX7_here cX7_here 1 (some .int), Cond.methodLink RX7 175 yX7_wants, Cond.static yX7_wants, Cond.code yX7_wants cX7_wants 1 (some .int), Cond.methodLink RX7 178 yX7_takesSign, Cond.instanceMethod yX7_takesSign, Cond.selects RX7 yX7_takesSign yX7_takesSign, Cond.code yX7_takesSign cX7_takesSign 2 none, Cond.methodLink RX7 181 yX7_number, Cond.instanceMethod yX7_number, Cond.selects RX7 yX7_number yX7_number, Cond.code yX7_number cX7_number 3 (some .int), Cond.methodLink RX7 169 yX7_isDigit, Cond.instanceMethod yX7_isDigit, Cond.selects RX7 yX7_isDigit yX7_isDigit, Cond.code yX7_isDigit cX7_isDigit 1 (some .boolean), Cond.methodLink RX7 184 yX7_called, Cond.instanceMethod yX7_called]
def wsL_law_r32 : List Cond := [Cond.selects RX7 yX7_called yX7_called, Cond.code yX7_called cX7_called 2 (some .int), Cond.methodLink RL 101 yX6_play, Cond.instanceMethod yX6_play, Cond.selects RX6 yX6_play yX6_play, Cond.code yX6_play cX6_play 1 (some .int), Cond.fieldLink RX6 235 "GlacierHut$Rehearsal" "hut" "LGlacierHut$Hut;", Cond.fieldLink RX6 238 "GlacierHut$Rehearsal" "commands" "I", Cond.methodLink RL 104 yX7_play, Cond.instanceMethod yX7_play, Cond.selects RX7 yX7_play yX7_play, Cond.code yX7_play cX7_play 1 (some .int)]
def wsL_law : List Cond := (wsL_law_r1 ++ (wsL_law_r2 ++ (wsL_law_r3 ++ (wsL_law_r4 ++ (wsL_law_r5 ++ (wsL_law_r6 ++ (wsL_law_r7 ++ (wsL_law_r8 ++ (wsL_law_r9 ++ (wsL_law_r10 ++ (wsL_law_r11 ++ (wsL_law_r12 ++ (wsL_law_r13 ++ (wsL_law_r14 ++ (wsL_law_r15 ++ (wsL_law_r16 ++ (wsL_law_r17 ++ (wsL_law_r18 ++ (wsL_law_r19 ++ (wsL_law_r20 ++ (wsL_law_r21 ++ (wsL_law_r22 ++ (wsL_law_r23 ++ (wsL_law_r24 ++ (wsL_law_r25 ++ (wsL_law_r26 ++ (wsL_law_r27 ++ (wsL_law_r28 ++ (wsL_law_r29 ++ (wsL_law_r30 ++ (wsL_law_r31 ++ wsL_law_r32))))))))))))))))))))))))))))))) ++ wsX60 ++ wsX70 ++ wsX10 ++ wsX00 ++ wsX50 ++ wsX30 ++ wsX40 ++ wsX20 ++ ([] : List Cond)
end
section
set_option maxRecDepth 20000 in
theorem wLr1 : ∀ w ∈ wsL_law_r1, w ∈ lw_tbl := fun w h => (goodIn_p wsL_law_r1 [64, 67] (by decide +kernel) (by decide +kernel) w h).1
set_option maxRecDepth 20000 in
theorem wLr2 : ∀ w ∈ wsL_law_r2, w ∈ lw_tbl := fun w h => (goodIn_p wsL_law_r2 [72] (by decide +kernel) (by decide +kernel) w h).1
set_option maxRecDepth 20000 in
theorem wLr3 : ∀ w ∈ wsL_law_r3, w ∈ lw_tbl := fun w h => (goodIn_p wsL_law_r3 [78, 127] (by decide +kernel) (by decide +kernel) w h).1
set_option maxRecDepth 20000 in
theorem wLr4 : ∀ w ∈ wsL_law_r4, w ∈ lw_tbl := fun w h => (goodIn_p wsL_law_r4 [206, 223, 251, 640] (by decide +kernel) (by decide +kernel) w h).1
set_option maxRecDepth 20000 in
theorem wLr5 : ∀ w ∈ wsL_law_r5, w ∈ lw_tbl := fun w h => (goodIn_p wsL_law_r5 [304, 308, 312] (by decide +kernel) (by decide +kernel) w h).1
set_option maxRecDepth 20000 in
theorem wLr6 : ∀ w ∈ wsL_law_r6, w ∈ lw_tbl := fun w h => (goodIn_p wsL_law_r6 [316, 323, 329] (by decide +kernel) (by decide +kernel) w h).1
set_option maxRecDepth 20000 in
theorem wLr7 : ∀ w ∈ wsL_law_r7, w ∈ lw_tbl := fun w h => (goodIn_p wsL_law_r7 [332, 336, 340, 344, 688, 692] (by decide +kernel) (by decide +kernel) w h).1
set_option maxRecDepth 20000 in
theorem wLr8 : ∀ w ∈ wsL_law_r8, w ∈ lw_tbl := fun w h => (goodIn_p wsL_law_r8 [696, 699, 703, 707, 348, 352] (by decide +kernel) (by decide +kernel) w h).1
set_option maxRecDepth 20000 in
theorem wLr9 : ∀ w ∈ wsL_law_r9, w ∈ lw_tbl := fun w h => (goodIn_p wsL_law_r9 [356, 360, 364, 711, 715] (by decide +kernel) (by decide +kernel) w h).1
set_option maxRecDepth 20000 in
theorem wLr10 : ∀ w ∈ wsL_law_r10, w ∈ lw_tbl := fun w h => (goodIn_p wsL_law_r10 [719, 723, 727, 369, 373, 377] (by decide +kernel) (by decide +kernel) w h).1
set_option maxRecDepth 20000 in
theorem wLr11 : ∀ w ∈ wsL_law_r11, w ∈ lw_tbl := fun w h => (goodIn_p wsL_law_r11 [381, 386, 390, 394, 421, 398] (by decide +kernel) (by decide +kernel) w h).1
set_option maxRecDepth 20000 in
theorem wLr12 : ∀ w ∈ wsL_law_r12, w ∈ lw_tbl := fun w h => (goodIn_p wsL_law_r12 [402, 406, 410, 414, 418, 425] (by decide +kernel) (by decide +kernel) w h).1
set_option maxRecDepth 20000 in
theorem wLr13 : ∀ w ∈ wsL_law_r13, w ∈ lw_tbl := fun w h => (goodIn_p wsL_law_r13 [429, 433, 437, 731, 735, 739] (by decide +kernel) (by decide +kernel) w h).1
set_option maxRecDepth 20000 in
theorem wLr14 : ∀ w ∈ wsL_law_r14, w ∈ lw_tbl := fun w h => (goodIn_p wsL_law_r14 [743, 747, 751, 755, 759, 763] (by decide +kernel) (by decide +kernel) w h).1
set_option maxRecDepth 20000 in
theorem wLr15 : ∀ w ∈ wsL_law_r15, w ∈ lw_tbl := fun w h => (goodIn_p wsL_law_r15 [767, 771, 775, 779, 783, 787] (by decide +kernel) (by decide +kernel) w h).1
set_option maxRecDepth 20000 in
theorem wLr16 : ∀ w ∈ wsL_law_r16, w ∈ lw_tbl := fun w h => (goodIn_p wsL_law_r16 [791, 795, 799, 803, 807, 441] (by decide +kernel) (by decide +kernel) w h).1
set_option maxRecDepth 20000 in
theorem wLr17 : ∀ w ∈ wsL_law_r17, w ∈ lw_tbl := fun w h => (goodIn_p wsL_law_r17 [445, 449, 453, 811, 815] (by decide +kernel) (by decide +kernel) w h).1
set_option maxRecDepth 20000 in
theorem wLr18 : ∀ w ∈ wsL_law_r18, w ∈ lw_tbl := fun w h => (goodIn_p wsL_law_r18 [819, 457, 461, 823, 827, 831] (by decide +kernel) (by decide +kernel) w h).1
set_option maxRecDepth 20000 in
theorem wLr19 : ∀ w ∈ wsL_law_r19, w ∈ lw_tbl := fun w h => (goodIn_p wsL_law_r19 [465, 469, 835, 473, 477, 839] (by decide +kernel) (by decide +kernel) w h).1
set_option maxRecDepth 20000 in
theorem wLr20 : ∀ w ∈ wsL_law_r20, w ∈ lw_tbl := fun w h => (goodIn_p wsL_law_r20 [843, 481, 485, 847, 850, 493] (by decide +kernel) (by decide +kernel) w h).1
set_option maxRecDepth 20000 in
theorem wLr21 : ∀ w ∈ wsL_law_r21, w ∈ lw_tbl := fun w h => (goodIn_p wsL_law_r21 [498, 854, 502, 507] (by decide +kernel) (by decide +kernel) w h).1
set_option maxRecDepth 20000 in
theorem wLr22 : ∀ w ∈ wsL_law_r22, w ∈ lw_tbl := fun w h => (goodIn_p wsL_law_r22 [511, 858, 862, 866, 515] (by decide +kernel) (by decide +kernel) w h).1
set_option maxRecDepth 20000 in
theorem wLr23 : ∀ w ∈ wsL_law_r23, w ∈ lw_tbl := fun w h => (goodIn_p wsL_law_r23 [519, 870, 523] (by decide +kernel) (by decide +kernel) w h).1
set_option maxRecDepth 20000 in
theorem wLr24 : ∀ w ∈ wsL_law_r24, w ∈ lw_tbl := fun w h => (goodIn_p wsL_law_r24 [530, 874, 534, 538] (by decide +kernel) (by decide +kernel) w h).1
set_option maxRecDepth 20000 in
theorem wLr25 : ∀ w ∈ wsL_law_r25, w ∈ lw_tbl := fun w h => (goodIn_p wsL_law_r25 [544, 549, 878, 553, 557, 882] (by decide +kernel) (by decide +kernel) w h).1
set_option maxRecDepth 20000 in
theorem wLr26 : ∀ w ∈ wsL_law_r26, w ∈ lw_tbl := fun w h => (goodIn_p wsL_law_r26 [561, 886, 567, 890, 571] (by decide +kernel) (by decide +kernel) w h).1
set_option maxRecDepth 20000 in
theorem wLr27 : ∀ w ∈ wsL_law_r27, w ∈ lw_tbl := fun w h => (goodIn_p wsL_law_r27 [894, 575, 579, 898, 583, 587] (by decide +kernel) (by decide +kernel) w h).1
set_option maxRecDepth 20000 in
theorem wLr28 : ∀ w ∈ wsL_law_r28, w ∈ lw_tbl := fun w h => (goodIn_p wsL_law_r28 [902, 591, 906, 595, 599] (by decide +kernel) (by decide +kernel) w h).1
set_option maxRecDepth 20000 in
theorem wLr29 : ∀ w ∈ wsL_law_r29, w ∈ lw_tbl := fun w h => (goodIn_p wsL_law_r29 [604, 608, 612, 616] (by decide +kernel) (by decide +kernel) w h).1
set_option maxRecDepth 20000 in
theorem wLr30 : ∀ w ∈ wsL_law_r30, w ∈ lw_tbl := fun w h => (goodIn_p wsL_law_r30 [620, 625, 910] (by decide +kernel) (by decide +kernel) w h).1
set_option maxRecDepth 20000 in
theorem wLr31 : ∀ w ∈ wsL_law_r31, w ∈ lw_tbl := fun w h => (goodIn_p wsL_law_r31 [914, 918, 921, 925, 929, 933] (by decide +kernel) (by decide +kernel) w h).1
set_option maxRecDepth 20000 in
theorem wLr32 : ∀ w ∈ wsL_law_r32, w ∈ lw_tbl := fun w h => (goodIn_p wsL_law_r32 [937, 635, 941] (by decide +kernel) (by decide +kernel) w h).1
theorem wLx6 : ∀ w ∈ wsX60, w ∈ lw_tbl := by decide +kernel
theorem wLx7 : ∀ w ∈ wsX70, w ∈ lw_tbl := by decide +kernel
theorem wLx1 : ∀ w ∈ wsX10, w ∈ lw_tbl := by decide +kernel
theorem wLx0 : ∀ w ∈ wsX00, w ∈ lw_tbl := by decide +kernel
theorem wLx5 : ∀ w ∈ wsX50, w ∈ lw_tbl := by decide +kernel
theorem wLx3 : ∀ w ∈ wsX30, w ∈ lw_tbl := by decide +kernel
theorem wLx4 : ∀ w ∈ wsX40, w ∈ lw_tbl := by decide +kernel
theorem wLx2 : ∀ w ∈ wsX20, w ∈ lw_tbl := by decide +kernel
theorem wsL_law_in : ∀ w ∈ wsL_law, w ∈ lw_tbl := (List.forall_mem_append.mpr ⟨(List.forall_mem_append.mpr ⟨(List.forall_mem_append.mpr ⟨(List.forall_mem_append.mpr ⟨(List.forall_mem_append.mpr ⟨(List.forall_mem_append.mpr ⟨(List.forall_mem_append.mpr ⟨(List.forall_mem_append.mpr ⟨(List.forall_mem_append.mpr ⟨(List.forall_mem_append.mpr ⟨wLr1, (List.forall_mem_append.mpr ⟨wLr2, (List.forall_mem_append.mpr ⟨wLr3, (List.forall_mem_append.mpr ⟨wLr4, (List.forall_mem_append.mpr ⟨wLr5, (List.forall_mem_append.mpr ⟨wLr6, (List.forall_mem_append.mpr ⟨wLr7, (List.forall_mem_append.mpr ⟨wLr8, (List.forall_mem_append.mpr ⟨wLr9, (List.forall_mem_append.mpr ⟨wLr10, (List.forall_mem_append.mpr ⟨wLr11, (List.forall_mem_append.mpr ⟨wLr12, (List.forall_mem_append.mpr ⟨wLr13, (List.forall_mem_append.mpr ⟨wLr14, (List.forall_mem_append.mpr ⟨wLr15, (List.forall_mem_append.mpr ⟨wLr16, (List.forall_mem_append.mpr ⟨wLr17, (List.forall_mem_append.mpr ⟨wLr18, (List.forall_mem_append.mpr ⟨wLr19, (List.forall_mem_append.mpr ⟨wLr20, (List.forall_mem_append.mpr ⟨wLr21, (List.forall_mem_append.mpr ⟨wLr22, (List.forall_mem_append.mpr ⟨wLr23, (List.forall_mem_append.mpr ⟨wLr24, (List.forall_mem_append.mpr ⟨wLr25, (List.forall_mem_append.mpr ⟨wLr26, (List.forall_mem_append.mpr ⟨wLr27, (List.forall_mem_append.mpr ⟨wLr28, (List.forall_mem_append.mpr ⟨wLr29, (List.forall_mem_append.mpr ⟨wLr30, (List.forall_mem_append.mpr ⟨wLr31, wLr32⟩)⟩)⟩)⟩)⟩)⟩)⟩)⟩)⟩)⟩)⟩)⟩)⟩)⟩)⟩)⟩)⟩)⟩)⟩)⟩)⟩)⟩)⟩)⟩)⟩)⟩)⟩)⟩)⟩)⟩)⟩), wLx6⟩), wLx7⟩), wLx1⟩), wLx0⟩), wLx5⟩), wLx3⟩), wLx4⟩), wLx2⟩), fun _ h => absurd h List.not_mem_nil⟩)
theorem inlX0 : ∀ w ∈ wsX00, w ∈ wsL_law := fun _ h => List.mem_append_left _ (List.mem_append_left _ (List.mem_append_left _ (List.mem_append_left _ (List.mem_append_left _ (List.mem_append_right _ h)))))
theorem inX0 : ∀ w ∈ wsX00, w ∈ lw_tbl := fun w h => wsL_law_in w (inlX0 w h)
theorem inlX1 : ∀ w ∈ wsX10, w ∈ wsL_law := fun _ h => List.mem_append_left _ (List.mem_append_left _ (List.mem_append_left _ (List.mem_append_left _ (List.mem_append_left _ (List.mem_append_left _ (List.mem_append_right _ h))))))
theorem inX1 : ∀ w ∈ wsX10, w ∈ lw_tbl := fun w h => wsL_law_in w (inlX1 w h)
theorem inlX2 : ∀ w ∈ wsX20, w ∈ wsL_law := fun _ h => List.mem_append_left _ (List.mem_append_right _ h)
theorem inX2 : ∀ w ∈ wsX20, w ∈ lw_tbl := fun w h => wsL_law_in w (inlX2 w h)
theorem inlX3 : ∀ w ∈ wsX30, w ∈ wsL_law := fun _ h => List.mem_append_left _ (List.mem_append_left _ (List.mem_append_left _ (List.mem_append_right _ h)))
theorem inX3 : ∀ w ∈ wsX30, w ∈ lw_tbl := fun w h => wsL_law_in w (inlX3 w h)
theorem inlX4 : ∀ w ∈ wsX40, w ∈ wsL_law := fun _ h => List.mem_append_left _ (List.mem_append_left _ (List.mem_append_right _ h))
theorem inX4 : ∀ w ∈ wsX40, w ∈ lw_tbl := fun w h => wsL_law_in w (inlX4 w h)
theorem inlX5 : ∀ w ∈ wsX50, w ∈ wsL_law := fun _ h => List.mem_append_left _ (List.mem_append_left _ (List.mem_append_left _ (List.mem_append_left _ (List.mem_append_right _ h))))
theorem inX5 : ∀ w ∈ wsX50, w ∈ lw_tbl := fun w h => wsL_law_in w (inlX5 w h)
theorem inlX6 : ∀ w ∈ wsX60, w ∈ wsL_law := fun _ h => List.mem_append_left _ (List.mem_append_left _ (List.mem_append_left _ (List.mem_append_left _ (List.mem_append_left _ (List.mem_append_left _ (List.mem_append_left _ (List.mem_append_left _ (List.mem_append_right _ h))))))))
theorem inX6 : ∀ w ∈ wsX60, w ∈ lw_tbl := fun w h => wsL_law_in w (inlX6 w h)
theorem inlX7 : ∀ w ∈ wsX70, w ∈ wsL_law := fun _ h => List.mem_append_left _ (List.mem_append_left _ (List.mem_append_left _ (List.mem_append_left _ (List.mem_append_left _ (List.mem_append_left _ (List.mem_append_left _ (List.mem_append_right _ h)))))))
theorem inX7 : ∀ w ∈ wsX70, w ∈ lw_tbl := fun w h => wsL_law_in w (inlX7 w h)
theorem inJ9 : ∀ w ∈ wsJ90, w ∈ lw_tbl := by decide +kernel
theorem inJ10 : ∀ w ∈ wsJ100, w ∈ lw_tbl := by decide +kernel
end
section
set_option maxRecDepth 20000 in
theorem ggX0_init_X1_init : GoodIn wsX0_init wsX1_init := goodIn_r _ [10, 11, 2, 3, 12, 13, 14, 15, 16, 17, 18, 19, 20, 21, 22, 23, 24, 25, 26, 27, 28, 29, 30, 31, 32, 33, 34, 35, 36, 37, 38, 39, 40, 41, 42, 43, 44, 45, 46, 47, 60, 61, 62, 63, 64, 65, 66, 67, 68, 69, 70, 50, 51, 52, 53, 54, 55, 56, 57, 58, 59, 71, 72, 73, 74, 75, 76, 77] (by decide +kernel) (by decide +kernel)
set_option maxRecDepth 20000 in
theorem gX0_init_X1_init : GoodIn wsX0_init (wsX1_init) := ggX0_init_X1_init
theorem dX0_init_0 : decode cX0_init 0 = .ok (.aload_n 0, 1) := by decide +kernel
theorem dX0_init_1 : decode cX0_init 1 = .ok (.invokespecial 1, 3) := by decide +kernel
theorem dX0_init_4 : decode cX0_init 4 = .ok (.aload_n 0, 1) := by decide +kernel
theorem dX0_init_5 : decode cX0_init 5 = .ok (.iconst 5, 1) := by decide +kernel
theorem dX0_init_6 : decode cX0_init 6 = .ok (.anewarray 9, 3) := by decide +kernel
theorem dX0_init_9 : decode cX0_init 9 = .ok (.putfield 11, 3) := by decide +kernel
theorem dX0_init_12 : decode cX0_init 12 = .ok (.iconst 0, 1) := by decide +kernel
theorem dX0_init_13 : decode cX0_init 13 = .ok (.istore_n 1, 1) := by decide +kernel
theorem dX0_init_14 : decode cX0_init 14 = .ok (.iload_n 1, 1) := by decide +kernel
theorem dX0_init_15 : decode cX0_init 15 = .ok (.iconst 4, 1) := by decide +kernel
theorem dX0_init_16 : decode cX0_init 16 = .ok (.if_icmp .gt 22, 3) := by decide +kernel
theorem dX0_init_19 : decode cX0_init 19 = .ok (.aload_n 0, 1) := by decide +kernel
theorem dX0_init_20 : decode cX0_init 20 = .ok (.getfield 11, 3) := by decide +kernel
theorem dX0_init_23 : decode cX0_init 23 = .ok (.iload_n 1, 1) := by decide +kernel
theorem dX0_init_24 : decode cX0_init 24 = .ok (.new 9, 3) := by decide +kernel
theorem dX0_init_27 : decode cX0_init 27 = .ok (.dup, 1) := by decide +kernel
theorem dX0_init_28 : decode cX0_init 28 = .ok (.invokespecial 15, 3) := by decide +kernel
theorem dX0_init_31 : decode cX0_init 31 = .ok (.aastore, 1) := by decide +kernel
theorem dX0_init_32 : decode cX0_init 32 = .ok (.iinc 1 1, 3) := by decide +kernel
theorem dX0_init_35 : decode cX0_init 35 = .ok (.goto (-21), 3) := by decide +kernel
theorem dX0_init_38 : decode cX0_init 38 = .ok (.return_, 1) := by decide +kernel
set_option maxRecDepth 20000 in
theorem ggX0_prepare_X1_copyFrom : GoodIn wsX0_prepare wsX1_copyFrom := goodIn_r _ [7, 8, 9, 10, 11, 12, 13, 14, 15, 16, 17, 18, 19, 20, 21, 22, 23, 24, 25, 26, 27, 28, 29, 30, 31, 32, 33, 34, 35, 36, 37, 38, 39, 40, 41, 42, 43, 44, 45, 46, 47, 48, 49, 50, 51, 54, 55, 56, 57, 58, 59, 60, 61, 62, 63, 64, 65, 66, 67, 68, 69, 70, 71, 72, 73, 74, 75, 76, 77, 78, 79, 80, 81] (by decide +kernel) (by decide +kernel)
set_option maxRecDepth 20000 in
theorem gX0_prepare_X1_copyFrom : GoodIn wsX0_prepare (wsV RX0 20 RX1 yX1_copyFrom wsX1_copyFrom) := goodIn_app (goodIn_of _ (by decide +kernel)) ggX0_prepare_X1_copyFrom
theorem dX0_prepare_0 : decode cX0_prepare 0 = .ok (.aload_n 0, 1) := by decide +kernel
theorem dX0_prepare_1 : decode cX0_prepare 1 = .ok (.getfield 16, 3) := by decide +kernel
theorem dX0_prepare_4 : decode cX0_prepare 4 = .ok (.ifCond .lt 23, 3) := by decide +kernel
theorem dX0_prepare_7 : decode cX0_prepare 7 = .ok (.aload_n 0, 1) := by decide +kernel
theorem dX0_prepare_8 : decode cX0_prepare 8 = .ok (.getfield 16, 3) := by decide +kernel
theorem dX0_prepare_11 : decode cX0_prepare 11 = .ok (.iconst 4, 1) := by decide +kernel
theorem dX0_prepare_12 : decode cX0_prepare 12 = .ok (.if_icmp .gt 15, 3) := by decide +kernel
theorem dX0_prepare_15 : decode cX0_prepare 15 = .ok (.aload_n 0, 1) := by decide +kernel
theorem dX0_prepare_16 : decode cX0_prepare 16 = .ok (.getfield 11, 3) := by decide +kernel
theorem dX0_prepare_19 : decode cX0_prepare 19 = .ok (.aload_n 0, 1) := by decide +kernel
theorem dX0_prepare_20 : decode cX0_prepare 20 = .ok (.getfield 16, 3) := by decide +kernel
theorem dX0_prepare_23 : decode cX0_prepare 23 = .ok (.aaload, 1) := by decide +kernel
theorem dX0_prepare_24 : decode cX0_prepare 24 = .ok (.goto 4, 3) := by decide +kernel
theorem dX0_prepare_27 : decode cX0_prepare 27 = .ok (.aconst_null, 1) := by decide +kernel
theorem dX0_prepare_28 : decode cX0_prepare 28 = .ok (.astore_n 2, 1) := by decide +kernel
theorem dX0_prepare_29 : decode cX0_prepare 29 = .ok (.aload_n 2, 1) := by decide +kernel
theorem dX0_prepare_30 : decode cX0_prepare 30 = .ok (.ifnull 8, 3) := by decide +kernel
theorem dX0_prepare_33 : decode cX0_prepare 33 = .ok (.aload_n 2, 1) := by decide +kernel
theorem dX0_prepare_34 : decode cX0_prepare 34 = .ok (.aload_n 1, 1) := by decide +kernel
theorem dX0_prepare_35 : decode cX0_prepare 35 = .ok (.invokevirtual 20, 3) := by decide +kernel
theorem dX0_prepare_38 : decode cX0_prepare 38 = .ok (.return_, 1) := by decide +kernel
theorem dX0_commit_0 : decode cX0_commit 0 = .ok (.aload_n 0, 1) := by decide +kernel
theorem dX0_commit_1 : decode cX0_commit 1 = .ok (.dup, 1) := by decide +kernel
theorem dX0_commit_2 : decode cX0_commit 2 = .ok (.getfield 16, 3) := by decide +kernel
theorem dX0_commit_5 : decode cX0_commit 5 = .ok (.iconst 1, 1) := by decide +kernel
theorem dX0_commit_6 : decode cX0_commit 6 = .ok (.iadd, 1) := by decide +kernel
theorem dX0_commit_7 : decode cX0_commit 7 = .ok (.putfield 16, 3) := by decide +kernel
theorem dX0_commit_10 : decode cX0_commit 10 = .ok (.aload_n 0, 1) := by decide +kernel
theorem dX0_commit_11 : decode cX0_commit 11 = .ok (.getfield 16, 3) := by decide +kernel
theorem dX0_commit_14 : decode cX0_commit 14 = .ok (.iconst 4, 1) := by decide +kernel
theorem dX0_commit_15 : decode cX0_commit 15 = .ok (.if_icmp .gt 4, 3) := by decide +kernel
theorem dX0_commit_18 : decode cX0_commit 18 = .ok (.return_, 1) := by decide +kernel
theorem dX0_commit_19 : decode cX0_commit 19 = .ok (.aload_n 0, 1) := by decide +kernel
theorem dX0_commit_20 : decode cX0_commit 20 = .ok (.getfield 11, 3) := by decide +kernel
theorem dX0_commit_23 : decode cX0_commit 23 = .ok (.iconst 0, 1) := by decide +kernel
theorem dX0_commit_24 : decode cX0_commit 24 = .ok (.aaload, 1) := by decide +kernel
theorem dX0_commit_25 : decode cX0_commit 25 = .ok (.astore_n 1, 1) := by decide +kernel
theorem dX0_commit_26 : decode cX0_commit 26 = .ok (.iconst 0, 1) := by decide +kernel
theorem dX0_commit_27 : decode cX0_commit 27 = .ok (.istore_n 2, 1) := by decide +kernel
theorem dX0_commit_28 : decode cX0_commit 28 = .ok (.iload_n 2, 1) := by decide +kernel
theorem dX0_commit_29 : decode cX0_commit 29 = .ok (.iconst 4, 1) := by decide +kernel
theorem dX0_commit_30 : decode cX0_commit 30 = .ok (.if_icmp .ge 23, 3) := by decide +kernel
theorem dX0_commit_33 : decode cX0_commit 33 = .ok (.aload_n 0, 1) := by decide +kernel
theorem dX0_commit_34 : decode cX0_commit 34 = .ok (.getfield 11, 3) := by decide +kernel
theorem dX0_commit_37 : decode cX0_commit 37 = .ok (.iload_n 2, 1) := by decide +kernel
theorem dX0_commit_38 : decode cX0_commit 38 = .ok (.aload_n 0, 1) := by decide +kernel
theorem dX0_commit_39 : decode cX0_commit 39 = .ok (.getfield 11, 3) := by decide +kernel
theorem dX0_commit_42 : decode cX0_commit 42 = .ok (.iload_n 2, 1) := by decide +kernel
theorem dX0_commit_43 : decode cX0_commit 43 = .ok (.iconst 1, 1) := by decide +kernel
theorem dX0_commit_44 : decode cX0_commit 44 = .ok (.iadd, 1) := by decide +kernel
theorem dX0_commit_45 : decode cX0_commit 45 = .ok (.aaload, 1) := by decide +kernel
theorem dX0_commit_46 : decode cX0_commit 46 = .ok (.aastore, 1) := by decide +kernel
theorem dX0_commit_47 : decode cX0_commit 47 = .ok (.iinc 2 1, 3) := by decide +kernel
theorem dX0_commit_50 : decode cX0_commit 50 = .ok (.goto (-22), 3) := by decide +kernel
theorem dX0_commit_53 : decode cX0_commit 53 = .ok (.aload_n 0, 1) := by decide +kernel
theorem dX0_commit_54 : decode cX0_commit 54 = .ok (.getfield 11, 3) := by decide +kernel
theorem dX0_commit_57 : decode cX0_commit 57 = .ok (.iconst 4, 1) := by decide +kernel
theorem dX0_commit_58 : decode cX0_commit 58 = .ok (.aload_n 1, 1) := by decide +kernel
theorem dX0_commit_59 : decode cX0_commit 59 = .ok (.aastore, 1) := by decide +kernel
theorem dX0_commit_60 : decode cX0_commit 60 = .ok (.aload_n 0, 1) := by decide +kernel
theorem dX0_commit_61 : decode cX0_commit 61 = .ok (.iconst 4, 1) := by decide +kernel
theorem dX0_commit_62 : decode cX0_commit 62 = .ok (.putfield 16, 3) := by decide +kernel
theorem dX0_commit_65 : decode cX0_commit 65 = .ok (.return_, 1) := by decide +kernel
set_option maxRecDepth 20000 in
theorem ggX0_takeBack_X1_copyFrom : GoodIn wsX0_takeBack wsX1_copyFrom := goodIn_r _ [7, 8, 9, 10, 11, 12, 13, 14, 15, 16, 17, 18, 19, 20, 21, 22, 23, 24, 25, 26, 27, 28, 29, 30, 31, 32, 33, 34, 35, 36, 37, 38, 39, 40, 41, 42, 43, 44, 45, 46, 47, 48, 49, 50, 51, 54, 55, 56, 57, 58, 59, 60, 61, 62, 63, 64, 65, 66, 67, 68, 69, 70, 71, 72, 73, 74, 75, 76, 77, 78, 79, 80, 81] (by decide +kernel) (by decide +kernel)
set_option maxRecDepth 20000 in
theorem gX0_takeBack_X1_copyFrom : GoodIn wsX0_takeBack (wsV RX0 20 RX1 yX1_copyFrom wsX1_copyFrom) := goodIn_app (goodIn_of _ (by decide +kernel)) ggX0_takeBack_X1_copyFrom
theorem dX0_takeBack_0 : decode cX0_takeBack 0 = .ok (.aload_n 0, 1) := by decide +kernel
theorem dX0_takeBack_1 : decode cX0_takeBack 1 = .ok (.getfield 16, 3) := by decide +kernel
theorem dX0_takeBack_4 : decode cX0_takeBack 4 = .ok (.iconst 1, 1) := by decide +kernel
theorem dX0_takeBack_5 : decode cX0_takeBack 5 = .ok (.if_icmp .lt 25, 3) := by decide +kernel
theorem dX0_takeBack_8 : decode cX0_takeBack 8 = .ok (.aload_n 0, 1) := by decide +kernel
theorem dX0_takeBack_9 : decode cX0_takeBack 9 = .ok (.getfield 16, 3) := by decide +kernel
theorem dX0_takeBack_12 : decode cX0_takeBack 12 = .ok (.iconst 4, 1) := by decide +kernel
theorem dX0_takeBack_13 : decode cX0_takeBack 13 = .ok (.if_icmp .gt 17, 3) := by decide +kernel
theorem dX0_takeBack_16 : decode cX0_takeBack 16 = .ok (.aload_n 0, 1) := by decide +kernel
theorem dX0_takeBack_17 : decode cX0_takeBack 17 = .ok (.getfield 11, 3) := by decide +kernel
theorem dX0_takeBack_20 : decode cX0_takeBack 20 = .ok (.aload_n 0, 1) := by decide +kernel
theorem dX0_takeBack_21 : decode cX0_takeBack 21 = .ok (.getfield 16, 3) := by decide +kernel
theorem dX0_takeBack_24 : decode cX0_takeBack 24 = .ok (.iconst 1, 1) := by decide +kernel
theorem dX0_takeBack_25 : decode cX0_takeBack 25 = .ok (.isub, 1) := by decide +kernel
theorem dX0_takeBack_26 : decode cX0_takeBack 26 = .ok (.aaload, 1) := by decide +kernel
theorem dX0_takeBack_27 : decode cX0_takeBack 27 = .ok (.goto 4, 3) := by decide +kernel
theorem dX0_takeBack_30 : decode cX0_takeBack 30 = .ok (.aconst_null, 1) := by decide +kernel
theorem dX0_takeBack_31 : decode cX0_takeBack 31 = .ok (.astore_n 2, 1) := by decide +kernel
theorem dX0_takeBack_32 : decode cX0_takeBack 32 = .ok (.aload_n 2, 1) := by decide +kernel
theorem dX0_takeBack_33 : decode cX0_takeBack 33 = .ok (.ifnull 18, 3) := by decide +kernel
theorem dX0_takeBack_36 : decode cX0_takeBack 36 = .ok (.aload_n 1, 1) := by decide +kernel
theorem dX0_takeBack_37 : decode cX0_takeBack 37 = .ok (.aload_n 2, 1) := by decide +kernel
theorem dX0_takeBack_38 : decode cX0_takeBack 38 = .ok (.invokevirtual 20, 3) := by decide +kernel
theorem dX0_takeBack_41 : decode cX0_takeBack 41 = .ok (.aload_n 0, 1) := by decide +kernel
theorem dX0_takeBack_42 : decode cX0_takeBack 42 = .ok (.dup, 1) := by decide +kernel
theorem dX0_takeBack_43 : decode cX0_takeBack 43 = .ok (.getfield 16, 3) := by decide +kernel
theorem dX0_takeBack_46 : decode cX0_takeBack 46 = .ok (.iconst 1, 1) := by decide +kernel
theorem dX0_takeBack_47 : decode cX0_takeBack 47 = .ok (.isub, 1) := by decide +kernel
theorem dX0_takeBack_48 : decode cX0_takeBack 48 = .ok (.putfield 16, 3) := by decide +kernel
theorem dX0_takeBack_51 : decode cX0_takeBack 51 = .ok (.return_, 1) := by decide +kernel
set_option maxRecDepth 20000 in
theorem ggX1_init_X4_init : GoodIn wsX1_init wsX4_init := goodIn_r _ [19, 20, 2, 3, 14, 21, 22, 23, 24, 25, 26, 27, 28, 29, 40, 41, 42, 43, 44, 45, 46, 47, 48, 49, 50] (by decide +kernel) (by decide +kernel)
set_option maxRecDepth 20000 in
theorem gX1_init_X4_init : GoodIn wsX1_init (wsX4_init) := ggX1_init_X4_init
set_option maxRecDepth 20000 in
theorem ggX1_init_X2_init : GoodIn wsX1_init wsX2_init := goodIn_r _ [32, 33, 2, 3, 14, 34, 35, 36, 37, 38, 39, 61, 62, 63, 64, 65, 66, 67] (by decide +kernel) (by decide +kernel)
set_option maxRecDepth 20000 in
theorem gX1_init_X2_init : GoodIn wsX1_init (wsX2_init) := ggX1_init_X2_init
theorem dX1_init_0 : decode cX1_init 0 = .ok (.aload_n 0, 1) := by decide +kernel
theorem dX1_init_1 : decode cX1_init 1 = .ok (.invokespecial 3, 3) := by decide +kernel
theorem dX1_init_4 : decode cX1_init 4 = .ok (.aload_n 0, 1) := by decide +kernel
theorem dX1_init_5 : decode cX1_init 5 = .ok (.new 9, 3) := by decide +kernel
theorem dX1_init_8 : decode cX1_init 8 = .ok (.dup, 1) := by decide +kernel
theorem dX1_init_9 : decode cX1_init 9 = .ok (.invokespecial 11, 3) := by decide +kernel
theorem dX1_init_12 : decode cX1_init 12 = .ok (.putfield 12, 3) := by decide +kernel
theorem dX1_init_15 : decode cX1_init 15 = .ok (.aload_n 0, 1) := by decide +kernel
theorem dX1_init_16 : decode cX1_init 16 = .ok (.new 18, 3) := by decide +kernel
theorem dX1_init_19 : decode cX1_init 19 = .ok (.dup, 1) := by decide +kernel
theorem dX1_init_20 : decode cX1_init 20 = .ok (.invokespecial 20, 3) := by decide +kernel
theorem dX1_init_23 : decode cX1_init 23 = .ok (.putfield 21, 3) := by decide +kernel
theorem dX1_init_26 : decode cX1_init 26 = .ok (.aload_n 0, 1) := by decide +kernel
theorem dX1_init_27 : decode cX1_init 27 = .ok (.sipush 396, 3) := by decide +kernel
theorem dX1_init_30 : decode cX1_init 30 = .ok (.newarray .boolean, 2) := by decide +kernel
theorem dX1_init_32 : decode cX1_init 32 = .ok (.putfield 25, 3) := by decide +kernel
theorem dX1_init_35 : decode cX1_init 35 = .ok (.aload_n 0, 1) := by decide +kernel
theorem dX1_init_36 : decode cX1_init 36 = .ok (.iconst 4, 1) := by decide +kernel
theorem dX1_init_37 : decode cX1_init 37 = .ok (.newarray .int, 2) := by decide +kernel
theorem dX1_init_39 : decode cX1_init 39 = .ok (.putfield 29, 3) := by decide +kernel
theorem dX1_init_42 : decode cX1_init 42 = .ok (.iconst 0, 1) := by decide +kernel
theorem dX1_init_43 : decode cX1_init 43 = .ok (.istore_n 1, 1) := by decide +kernel
theorem dX1_init_44 : decode cX1_init 44 = .ok (.iload_n 1, 1) := by decide +kernel
theorem dX1_init_45 : decode cX1_init 45 = .ok (.iconst 4, 1) := by decide +kernel
theorem dX1_init_46 : decode cX1_init 46 = .ok (.if_icmp .ge 20, 3) := by decide +kernel
theorem dX1_init_49 : decode cX1_init 49 = .ok (.aload_n 0, 1) := by decide +kernel
theorem dX1_init_50 : decode cX1_init 50 = .ok (.getfield 29, 3) := by decide +kernel
theorem dX1_init_53 : decode cX1_init 53 = .ok (.iload_n 1, 1) := by decide +kernel
theorem dX1_init_54 : decode cX1_init 54 = .ok (.getstatic 33, 3) := by decide +kernel
theorem dX1_init_57 : decode cX1_init 57 = .ok (.iload_n 1, 1) := by decide +kernel
theorem dX1_init_58 : decode cX1_init 58 = .ok (.iaload, 1) := by decide +kernel
theorem dX1_init_59 : decode cX1_init 59 = .ok (.iastore, 1) := by decide +kernel
theorem dX1_init_60 : decode cX1_init 60 = .ok (.iinc 1 1, 3) := by decide +kernel
theorem dX1_init_63 : decode cX1_init 63 = .ok (.goto (-19), 3) := by decide +kernel
theorem dX1_init_66 : decode cX1_init 66 = .ok (.return_, 1) := by decide +kernel
set_option maxRecDepth 20000 in
theorem ggX1_copyFrom_X4_copyFrom : GoodIn wsX1_copyFrom wsX4_copyFrom := goodIn_r _ [19, 20, 21, 5, 6, 7, 22, 23, 24, 25, 26, 27, 28, 29, 30, 31, 55, 56, 57, 58, 59, 60, 61, 62, 63, 64, 65] (by decide +kernel) (by decide +kernel)
set_option maxRecDepth 20000 in
theorem gX1_copyFrom_X4_copyFrom : GoodIn wsX1_copyFrom (wsV RX1 36 RX4 yX4_copyFrom wsX4_copyFrom) := goodIn_app (goodIn_of _ (by decide +kernel)) ggX1_copyFrom_X4_copyFrom
set_option maxRecDepth 20000 in
theorem ggX1_copyFrom_X2_copyFrom : GoodIn wsX1_copyFrom wsX2_copyFrom := goodIn_r _ [36, 37, 38, 5, 6, 7, 39, 40, 41, 42, 43, 44, 66, 67, 68, 69, 70, 71, 72] (by decide +kernel) (by decide +kernel)
set_option maxRecDepth 20000 in
theorem gX1_copyFrom_X2_copyFrom : GoodIn wsX1_copyFrom (wsV RX1 40 RX2 yX2_copyFrom wsX2_copyFrom) := goodIn_app (goodIn_of _ (by decide +kernel)) ggX1_copyFrom_X2_copyFrom
theorem dX1_copyFrom_0 : decode cX1_copyFrom 0 = .ok (.aload_n 0, 1) := by decide +kernel
theorem dX1_copyFrom_1 : decode cX1_copyFrom 1 = .ok (.getfield 12, 3) := by decide +kernel
theorem dX1_copyFrom_4 : decode cX1_copyFrom 4 = .ok (.aload_n 1, 1) := by decide +kernel
theorem dX1_copyFrom_5 : decode cX1_copyFrom 5 = .ok (.getfield 12, 3) := by decide +kernel
theorem dX1_copyFrom_8 : decode cX1_copyFrom 8 = .ok (.invokevirtual 36, 3) := by decide +kernel
theorem dX1_copyFrom_11 : decode cX1_copyFrom 11 = .ok (.aload_n 0, 1) := by decide +kernel
theorem dX1_copyFrom_12 : decode cX1_copyFrom 12 = .ok (.getfield 21, 3) := by decide +kernel
theorem dX1_copyFrom_15 : decode cX1_copyFrom 15 = .ok (.aload_n 1, 1) := by decide +kernel
theorem dX1_copyFrom_16 : decode cX1_copyFrom 16 = .ok (.getfield 21, 3) := by decide +kernel
theorem dX1_copyFrom_19 : decode cX1_copyFrom 19 = .ok (.invokevirtual 40, 3) := by decide +kernel
theorem dX1_copyFrom_22 : decode cX1_copyFrom 22 = .ok (.aload_n 1, 1) := by decide +kernel
theorem dX1_copyFrom_23 : decode cX1_copyFrom 23 = .ok (.getfield 25, 3) := by decide +kernel
theorem dX1_copyFrom_26 : decode cX1_copyFrom 26 = .ok (.iconst 0, 1) := by decide +kernel
theorem dX1_copyFrom_27 : decode cX1_copyFrom 27 = .ok (.aload_n 0, 1) := by decide +kernel
theorem dX1_copyFrom_28 : decode cX1_copyFrom 28 = .ok (.getfield 25, 3) := by decide +kernel
theorem dX1_copyFrom_31 : decode cX1_copyFrom 31 = .ok (.iconst 0, 1) := by decide +kernel
theorem dX1_copyFrom_32 : decode cX1_copyFrom 32 = .ok (.sipush 396, 3) := by decide +kernel
theorem dX1_copyFrom_35 : decode cX1_copyFrom 35 = .ok (.invokestatic 43, 3) := by decide +kernel
theorem dX1_copyFrom_38 : decode cX1_copyFrom 38 = .ok (.aload_n 1, 1) := by decide +kernel
theorem dX1_copyFrom_39 : decode cX1_copyFrom 39 = .ok (.getfield 29, 3) := by decide +kernel
theorem dX1_copyFrom_42 : decode cX1_copyFrom 42 = .ok (.iconst 0, 1) := by decide +kernel
theorem dX1_copyFrom_43 : decode cX1_copyFrom 43 = .ok (.aload_n 0, 1) := by decide +kernel
theorem dX1_copyFrom_44 : decode cX1_copyFrom 44 = .ok (.getfield 29, 3) := by decide +kernel
theorem dX1_copyFrom_47 : decode cX1_copyFrom 47 = .ok (.iconst 0, 1) := by decide +kernel
theorem dX1_copyFrom_48 : decode cX1_copyFrom 48 = .ok (.iconst 4, 1) := by decide +kernel
theorem dX1_copyFrom_49 : decode cX1_copyFrom 49 = .ok (.invokestatic 43, 3) := by decide +kernel
theorem dX1_copyFrom_52 : decode cX1_copyFrom 52 = .ok (.aload_n 0, 1) := by decide +kernel
theorem dX1_copyFrom_53 : decode cX1_copyFrom 53 = .ok (.aload_n 1, 1) := by decide +kernel
theorem dX1_copyFrom_54 : decode cX1_copyFrom 54 = .ok (.getfield 49, 3) := by decide +kernel
theorem dX1_copyFrom_57 : decode cX1_copyFrom 57 = .ok (.putfield 49, 3) := by decide +kernel
theorem dX1_copyFrom_60 : decode cX1_copyFrom 60 = .ok (.aload_n 0, 1) := by decide +kernel
theorem dX1_copyFrom_61 : decode cX1_copyFrom 61 = .ok (.aload_n 1, 1) := by decide +kernel
theorem dX1_copyFrom_62 : decode cX1_copyFrom 62 = .ok (.getfield 53, 3) := by decide +kernel
theorem dX1_copyFrom_65 : decode cX1_copyFrom 65 = .ok (.putfield 53, 3) := by decide +kernel
theorem dX1_copyFrom_68 : decode cX1_copyFrom 68 = .ok (.aload_n 0, 1) := by decide +kernel
theorem dX1_copyFrom_69 : decode cX1_copyFrom 69 = .ok (.aload_n 1, 1) := by decide +kernel
theorem dX1_copyFrom_70 : decode cX1_copyFrom 70 = .ok (.getfield 56, 3) := by decide +kernel
theorem dX1_copyFrom_73 : decode cX1_copyFrom 73 = .ok (.putfield 56, 3) := by decide +kernel
theorem dX1_copyFrom_76 : decode cX1_copyFrom 76 = .ok (.aload_n 0, 1) := by decide +kernel
theorem dX1_copyFrom_77 : decode cX1_copyFrom 77 = .ok (.aload_n 1, 1) := by decide +kernel
theorem dX1_copyFrom_78 : decode cX1_copyFrom 78 = .ok (.getfield 59, 3) := by decide +kernel
theorem dX1_copyFrom_81 : decode cX1_copyFrom 81 = .ok (.putfield 59, 3) := by decide +kernel
theorem dX1_copyFrom_84 : decode cX1_copyFrom 84 = .ok (.aload_n 0, 1) := by decide +kernel
theorem dX1_copyFrom_85 : decode cX1_copyFrom 85 = .ok (.aload_n 1, 1) := by decide +kernel
theorem dX1_copyFrom_86 : decode cX1_copyFrom 86 = .ok (.getfield 62, 3) := by decide +kernel
theorem dX1_copyFrom_89 : decode cX1_copyFrom 89 = .ok (.putfield 62, 3) := by decide +kernel
theorem dX1_copyFrom_92 : decode cX1_copyFrom 92 = .ok (.aload_n 0, 1) := by decide +kernel
theorem dX1_copyFrom_93 : decode cX1_copyFrom 93 = .ok (.aload_n 1, 1) := by decide +kernel
theorem dX1_copyFrom_94 : decode cX1_copyFrom 94 = .ok (.getfield 65, 3) := by decide +kernel
theorem dX1_copyFrom_97 : decode cX1_copyFrom 97 = .ok (.putfield 65, 3) := by decide +kernel
theorem dX1_copyFrom_100 : decode cX1_copyFrom 100 = .ok (.return_, 1) := by decide +kernel
set_option maxRecDepth 20000 in
theorem ggX1_putOnPallet_X4_isKind : GoodIn wsX1_putOnPallet wsX4_isKind := goodIn_r _ [6] (by decide +kernel) (by decide +kernel)
set_option maxRecDepth 20000 in
theorem gX1_putOnPallet_X4_isKind : GoodIn wsX1_putOnPallet (va_wsS RX1 68 yX4_isKind wsX4_isKind) := goodIn_app (goodIn_of _ (by decide +kernel)) ggX1_putOnPallet_X4_isKind
set_option maxRecDepth 20000 in
theorem ggX1_putOnPallet_X4_addToPallet : GoodIn wsX1_putOnPallet wsX4_addToPallet := goodIn_r _ [10, 11, 12, 13, 14, 25, 26, 27, 28, 29, 30, 31, 32, 33, 34, 35] (by decide +kernel) (by decide +kernel)
set_option maxRecDepth 20000 in
theorem gX1_putOnPallet_X4_addToPallet : GoodIn wsX1_putOnPallet (wsV RX1 75 RX4 yX4_addToPallet wsX4_addToPallet) := goodIn_app (goodIn_of _ (by decide +kernel)) ggX1_putOnPallet_X4_addToPallet
theorem dX1_putOnPallet_0 : decode cX1_putOnPallet 0 = .ok (.iload_n 1, 1) := by decide +kernel
theorem dX1_putOnPallet_1 : decode cX1_putOnPallet 1 = .ok (.invokestatic 68, 3) := by decide +kernel
theorem dX1_putOnPallet_4 : decode cX1_putOnPallet 4 = .ok (.ifCond .eq 26, 3) := by decide +kernel
theorem dX1_putOnPallet_7 : decode cX1_putOnPallet 7 = .ok (.iload_n 2, 1) := by decide +kernel
theorem dX1_putOnPallet_8 : decode cX1_putOnPallet 8 = .ok (.iconst 1, 1) := by decide +kernel
theorem dX1_putOnPallet_9 : decode cX1_putOnPallet 9 = .ok (.if_icmp .lt 21, 3) := by decide +kernel
theorem dX1_putOnPallet_12 : decode cX1_putOnPallet 12 = .ok (.iload_n 2, 1) := by decide +kernel
theorem dX1_putOnPallet_13 : decode cX1_putOnPallet 13 = .ok (.sipush 999, 3) := by decide +kernel
theorem dX1_putOnPallet_16 : decode cX1_putOnPallet 16 = .ok (.if_icmp .gt 14, 3) := by decide +kernel
theorem dX1_putOnPallet_19 : decode cX1_putOnPallet 19 = .ok (.iload_n 3, 1) := by decide +kernel
theorem dX1_putOnPallet_20 : decode cX1_putOnPallet 20 = .ok (.ifCond .lt 10, 3) := by decide +kernel
theorem dX1_putOnPallet_23 : decode cX1_putOnPallet 23 = .ok (.iload_n 3, 1) := by decide +kernel
theorem dX1_putOnPallet_24 : decode cX1_putOnPallet 24 = .ok (.sipush 365, 3) := by decide +kernel
theorem dX1_putOnPallet_27 : decode cX1_putOnPallet 27 = .ok (.if_icmp .le 5, 3) := by decide +kernel
theorem dX1_putOnPallet_30 : decode cX1_putOnPallet 30 = .ok (.iconst (-1), 1) := by decide +kernel
theorem dX1_putOnPallet_31 : decode cX1_putOnPallet 31 = .ok (.ireturn, 1) := by decide +kernel
theorem dX1_putOnPallet_32 : decode cX1_putOnPallet 32 = .ok (.aload_n 0, 1) := by decide +kernel
theorem dX1_putOnPallet_33 : decode cX1_putOnPallet 33 = .ok (.getfield 12, 3) := by decide +kernel
theorem dX1_putOnPallet_36 : decode cX1_putOnPallet 36 = .ok (.getfield 72, 3) := by decide +kernel
theorem dX1_putOnPallet_39 : decode cX1_putOnPallet 39 = .ok (.bipush 6, 2) := by decide +kernel
theorem dX1_putOnPallet_41 : decode cX1_putOnPallet 41 = .ok (.if_icmp .lt 6, 3) := by decide +kernel
theorem dX1_putOnPallet_44 : decode cX1_putOnPallet 44 = .ok (.bipush (-3), 2) := by decide +kernel
theorem dX1_putOnPallet_46 : decode cX1_putOnPallet 46 = .ok (.ireturn, 1) := by decide +kernel
theorem dX1_putOnPallet_47 : decode cX1_putOnPallet 47 = .ok (.aload_n 0, 1) := by decide +kernel
theorem dX1_putOnPallet_48 : decode cX1_putOnPallet 48 = .ok (.getfield 12, 3) := by decide +kernel
theorem dX1_putOnPallet_51 : decode cX1_putOnPallet 51 = .ok (.iload_n 1, 1) := by decide +kernel
theorem dX1_putOnPallet_52 : decode cX1_putOnPallet 52 = .ok (.iload_n 2, 1) := by decide +kernel
theorem dX1_putOnPallet_53 : decode cX1_putOnPallet 53 = .ok (.iload_n 3, 1) := by decide +kernel
theorem dX1_putOnPallet_54 : decode cX1_putOnPallet 54 = .ok (.invokevirtual 75, 3) := by decide +kernel
theorem dX1_putOnPallet_57 : decode cX1_putOnPallet 57 = .ok (.aload_n 0, 1) := by decide +kernel
theorem dX1_putOnPallet_58 : decode cX1_putOnPallet 58 = .ok (.getfield 12, 3) := by decide +kernel
theorem dX1_putOnPallet_61 : decode cX1_putOnPallet 61 = .ok (.getfield 72, 3) := by decide +kernel
theorem dX1_putOnPallet_64 : decode cX1_putOnPallet 64 = .ok (.ireturn, 1) := by decide +kernel
set_option maxRecDepth 20000 in
theorem ggX1_bringPallet_X1_isStorm : GoodIn wsX1_bringPallet wsX1_isStorm := goodIn_r _ [11, 6, 12, 34, 35, 36, 37, 38, 39, 40, 41, 42, 43] (by decide +kernel) (by decide +kernel)
set_option maxRecDepth 20000 in
theorem gX1_bringPallet_X1_isStorm : GoodIn wsX1_bringPallet (wsV RX1 79 RX1 yX1_isStorm wsX1_isStorm) := goodIn_app (goodIn_of _ (by decide +kernel)) ggX1_bringPallet_X1_isStorm
set_option maxRecDepth 20000 in
theorem ggX1_bringPallet_X4_unloadPallet : GoodIn wsX1_bringPallet wsX4_unloadPallet := goodIn_r _ [17, 18, 19, 20, 21, 22, 23, 24, 16, 25, 26, 27, 28, 29, 30, 31, 32, 33, 44, 45, 46, 47, 48, 49, 50, 51, 52, 53, 54] (by decide +kernel) (by decide +kernel)
set_option maxRecDepth 20000 in
theorem gX1_bringPallet_X4_unloadPallet : GoodIn wsX1_bringPallet (wsV RX1 86 RX4 yX4_unloadPallet wsX4_unloadPallet) := goodIn_app (goodIn_of _ (by decide +kernel)) ggX1_bringPallet_X4_unloadPallet
theorem dX1_bringPallet_0 : decode cX1_bringPallet 0 = .ok (.aload_n 0, 1) := by decide +kernel
theorem dX1_bringPallet_1 : decode cX1_bringPallet 1 = .ok (.getfield 12, 3) := by decide +kernel
theorem dX1_bringPallet_4 : decode cX1_bringPallet 4 = .ok (.getfield 72, 3) := by decide +kernel
theorem dX1_bringPallet_7 : decode cX1_bringPallet 7 = .ok (.istore_n 1, 1) := by decide +kernel
theorem dX1_bringPallet_8 : decode cX1_bringPallet 8 = .ok (.iload_n 1, 1) := by decide +kernel
theorem dX1_bringPallet_9 : decode cX1_bringPallet 9 = .ok (.ifCond .eq 23, 3) := by decide +kernel
theorem dX1_bringPallet_12 : decode cX1_bringPallet 12 = .ok (.aload_n 0, 1) := by decide +kernel
theorem dX1_bringPallet_13 : decode cX1_bringPallet 13 = .ok (.invokevirtual 79, 3) := by decide +kernel
theorem dX1_bringPallet_16 : decode cX1_bringPallet 16 = .ok (.ifCond .ne 16, 3) := by decide +kernel
theorem dX1_bringPallet_19 : decode cX1_bringPallet 19 = .ok (.aload_n 0, 1) := by decide +kernel
theorem dX1_bringPallet_20 : decode cX1_bringPallet 20 = .ok (.getfield 53, 3) := by decide +kernel
theorem dX1_bringPallet_23 : decode cX1_bringPallet 23 = .ok (.aload_n 0, 1) := by decide +kernel
theorem dX1_bringPallet_24 : decode cX1_bringPallet 24 = .ok (.getfield 29, 3) := by decide +kernel
theorem dX1_bringPallet_27 : decode cX1_bringPallet 27 = .ok (.iconst 3, 1) := by decide +kernel
theorem dX1_bringPallet_28 : decode cX1_bringPallet 28 = .ok (.iaload, 1) := by decide +kernel
theorem dX1_bringPallet_29 : decode cX1_bringPallet 29 = .ok (.if_icmp .lt 6, 3) := by decide +kernel
theorem dX1_bringPallet_32 : decode cX1_bringPallet 32 = .ok (.bipush (-2), 2) := by decide +kernel
theorem dX1_bringPallet_34 : decode cX1_bringPallet 34 = .ok (.ireturn, 1) := by decide +kernel
theorem dX1_bringPallet_35 : decode cX1_bringPallet 35 = .ok (.aload_n 0, 1) := by decide +kernel
theorem dX1_bringPallet_36 : decode cX1_bringPallet 36 = .ok (.getfield 12, 3) := by decide +kernel
theorem dX1_bringPallet_39 : decode cX1_bringPallet 39 = .ok (.getfield 83, 3) := by decide +kernel
theorem dX1_bringPallet_42 : decode cX1_bringPallet 42 = .ok (.iload_n 1, 1) := by decide +kernel
theorem dX1_bringPallet_43 : decode cX1_bringPallet 43 = .ok (.iadd, 1) := by decide +kernel
theorem dX1_bringPallet_44 : decode cX1_bringPallet 44 = .ok (.bipush 20, 2) := by decide +kernel
theorem dX1_bringPallet_46 : decode cX1_bringPallet 46 = .ok (.if_icmp .le 6, 3) := by decide +kernel
theorem dX1_bringPallet_49 : decode cX1_bringPallet 49 = .ok (.bipush (-3), 2) := by decide +kernel
theorem dX1_bringPallet_51 : decode cX1_bringPallet 51 = .ok (.ireturn, 1) := by decide +kernel
theorem dX1_bringPallet_52 : decode cX1_bringPallet 52 = .ok (.aload_n 0, 1) := by decide +kernel
theorem dX1_bringPallet_53 : decode cX1_bringPallet 53 = .ok (.getfield 12, 3) := by decide +kernel
theorem dX1_bringPallet_56 : decode cX1_bringPallet 56 = .ok (.aload_n 0, 1) := by decide +kernel
theorem dX1_bringPallet_57 : decode cX1_bringPallet 57 = .ok (.getfield 49, 3) := by decide +kernel
theorem dX1_bringPallet_60 : decode cX1_bringPallet 60 = .ok (.invokevirtual 86, 3) := by decide +kernel
theorem dX1_bringPallet_63 : decode cX1_bringPallet 63 = .ok (.aload_n 0, 1) := by decide +kernel
theorem dX1_bringPallet_64 : decode cX1_bringPallet 64 = .ok (.dup, 1) := by decide +kernel
theorem dX1_bringPallet_65 : decode cX1_bringPallet 65 = .ok (.getfield 53, 3) := by decide +kernel
theorem dX1_bringPallet_68 : decode cX1_bringPallet 68 = .ok (.iconst 1, 1) := by decide +kernel
theorem dX1_bringPallet_69 : decode cX1_bringPallet 69 = .ok (.iadd, 1) := by decide +kernel
theorem dX1_bringPallet_70 : decode cX1_bringPallet 70 = .ok (.putfield 53, 3) := by decide +kernel
theorem dX1_bringPallet_73 : decode cX1_bringPallet 73 = .ok (.iload_n 1, 1) := by decide +kernel
theorem dX1_bringPallet_74 : decode cX1_bringPallet 74 = .ok (.ireturn, 1) := by decide +kernel
theorem dX1_mayBeBooked_0 : decode cX1_mayBeBooked 0 = .ok (.iload_n 1, 1) := by decide +kernel
theorem dX1_mayBeBooked_1 : decode cX1_mayBeBooked 1 = .ok (.iconst 1, 1) := by decide +kernel
theorem dX1_mayBeBooked_2 : decode cX1_mayBeBooked 2 = .ok (.if_icmp .lt 39, 3) := by decide +kernel
theorem dX1_mayBeBooked_5 : decode cX1_mayBeBooked 5 = .ok (.iload_n 1, 1) := by decide +kernel
theorem dX1_mayBeBooked_6 : decode cX1_mayBeBooked 6 = .ok (.bipush 6, 2) := by decide +kernel
theorem dX1_mayBeBooked_8 : decode cX1_mayBeBooked 8 = .ok (.if_icmp .gt 33, 3) := by decide +kernel
theorem dX1_mayBeBooked_11 : decode cX1_mayBeBooked 11 = .ok (.iload_n 2, 1) := by decide +kernel
theorem dX1_mayBeBooked_12 : decode cX1_mayBeBooked 12 = .ok (.aload_n 0, 1) := by decide +kernel
theorem dX1_mayBeBooked_13 : decode cX1_mayBeBooked 13 = .ok (.getfield 49, 3) := by decide +kernel
theorem dX1_mayBeBooked_16 : decode cX1_mayBeBooked 16 = .ok (.if_icmp .lt 25, 3) := by decide +kernel
theorem dX1_mayBeBooked_19 : decode cX1_mayBeBooked 19 = .ok (.iload_n 2, 1) := by decide +kernel
theorem dX1_mayBeBooked_20 : decode cX1_mayBeBooked 20 = .ok (.sipush 365, 3) := by decide +kernel
theorem dX1_mayBeBooked_23 : decode cX1_mayBeBooked 23 = .ok (.if_icmp .gt 18, 3) := by decide +kernel
theorem dX1_mayBeBooked_26 : decode cX1_mayBeBooked 26 = .ok (.iload_n 3, 1) := by decide +kernel
theorem dX1_mayBeBooked_27 : decode cX1_mayBeBooked 27 = .ok (.iconst 1, 1) := by decide +kernel
theorem dX1_mayBeBooked_28 : decode cX1_mayBeBooked 28 = .ok (.if_icmp .lt 13, 3) := by decide +kernel
theorem dX1_mayBeBooked_31 : decode cX1_mayBeBooked 31 = .ok (.iload_n 3, 1) := by decide +kernel
theorem dX1_mayBeBooked_32 : decode cX1_mayBeBooked 32 = .ok (.bipush 9, 2) := by decide +kernel
theorem dX1_mayBeBooked_34 : decode cX1_mayBeBooked 34 = .ok (.if_icmp .gt 7, 3) := by decide +kernel
theorem dX1_mayBeBooked_37 : decode cX1_mayBeBooked 37 = .ok (.iconst 1, 1) := by decide +kernel
theorem dX1_mayBeBooked_38 : decode cX1_mayBeBooked 38 = .ok (.goto 4, 3) := by decide +kernel
theorem dX1_mayBeBooked_41 : decode cX1_mayBeBooked 41 = .ok (.iconst 0, 1) := by decide +kernel
theorem dX1_mayBeBooked_42 : decode cX1_mayBeBooked 42 = .ok (.ireturn, 1) := by decide +kernel
set_option maxRecDepth 20000 in
theorem ggX1_takeBooking_X1_mayBeBooked : GoodIn wsX1_takeBooking wsX1_mayBeBooked := goodIn_r _ [7, 8, 119, 120, 121, 122, 123, 124, 125, 126, 127, 128] (by decide +kernel) (by decide +kernel)
set_option maxRecDepth 20000 in
theorem gX1_takeBooking_X1_mayBeBooked : GoodIn wsX1_takeBooking (wsV RX1 90 RX1 yX1_mayBeBooked wsX1_mayBeBooked) := goodIn_app (goodIn_of _ (by decide +kernel)) ggX1_takeBooking_X1_mayBeBooked
set_option maxRecDepth 20000 in
theorem ggX1_takeBooking_X1_wouldSuffice : GoodIn wsX1_takeBooking wsX1_wouldSuffice := goodIn_r _ [12, 1, 13, 14, 15, 6, 16, 17, 18, 19, 20, 21, 22, 23, 8, 24, 25, 26, 27, 28, 29, 30, 31, 32, 33, 34, 35, 36, 37, 38, 39, 40, 41, 42, 43, 44, 45, 46, 47, 48, 49, 50, 51, 52, 53, 54, 55, 56, 57, 58, 59, 60, 61, 62, 63, 64, 65, 66, 67, 68, 69, 70, 71, 72, 73, 74, 75, 76, 77, 78, 79, 80, 81, 82, 83, 84, 85, 86, 87, 88, 89, 90, 91, 92, 93, 94, 95, 96, 97, 98, 99, 100, 101, 102, 103, 104, 105, 106, 107, 108, 109, 110, 111, 112, 113, 114, 115, 116, 117, 118, 119, 120, 121, 122, 123, 124, 125, 126, 127, 128, 136, 137, 138, 139, 140, 141, 142, 143, 144, 145, 146, 129, 130, 131, 132, 133, 134, 135] (by decide +kernel) (by decide +kernel)
set_option maxRecDepth 20000 in
theorem gX1_takeBooking_X1_wouldSuffice : GoodIn wsX1_takeBooking (wsV RX1 94 RX1 yX1_wouldSuffice wsX1_wouldSuffice) := goodIn_app (goodIn_of _ (by decide +kernel)) ggX1_takeBooking_X1_wouldSuffice
set_option maxRecDepth 20000 in
theorem ggX1_takeBooking_X2_add : GoodIn wsX1_takeBooking wsX2_add := goodIn_r _ [62, 58, 51, 53, 54, 55, 56, 57, 129, 130, 131, 132, 133, 134, 135] (by decide +kernel) (by decide +kernel)
set_option maxRecDepth 20000 in
theorem gX1_takeBooking_X2_add : GoodIn wsX1_takeBooking (wsV RX1 101 RX2 yX2_add wsX2_add) := goodIn_app (goodIn_of _ (by decide +kernel)) ggX1_takeBooking_X2_add
theorem dX1_takeBooking_0 : decode cX1_takeBooking 0 = .ok (.aload_n 0, 1) := by decide +kernel
theorem dX1_takeBooking_1 : decode cX1_takeBooking 1 = .ok (.iload_n 1, 1) := by decide +kernel
theorem dX1_takeBooking_2 : decode cX1_takeBooking 2 = .ok (.iload_n 2, 1) := by decide +kernel
theorem dX1_takeBooking_3 : decode cX1_takeBooking 3 = .ok (.iload_n 3, 1) := by decide +kernel
theorem dX1_takeBooking_4 : decode cX1_takeBooking 4 = .ok (.invokevirtual 90, 3) := by decide +kernel
theorem dX1_takeBooking_7 : decode cX1_takeBooking 7 = .ok (.ifCond .ne 5, 3) := by decide +kernel
theorem dX1_takeBooking_10 : decode cX1_takeBooking 10 = .ok (.iconst (-1), 1) := by decide +kernel
theorem dX1_takeBooking_11 : decode cX1_takeBooking 11 = .ok (.ireturn, 1) := by decide +kernel
theorem dX1_takeBooking_12 : decode cX1_takeBooking 12 = .ok (.aload 4, 2) := by decide +kernel
theorem dX1_takeBooking_14 : decode cX1_takeBooking 14 = .ok (.aload_n 0, 1) := by decide +kernel
theorem dX1_takeBooking_15 : decode cX1_takeBooking 15 = .ok (.iload_n 1, 1) := by decide +kernel
theorem dX1_takeBooking_16 : decode cX1_takeBooking 16 = .ok (.iload_n 2, 1) := by decide +kernel
theorem dX1_takeBooking_17 : decode cX1_takeBooking 17 = .ok (.iload_n 3, 1) := by decide +kernel
theorem dX1_takeBooking_18 : decode cX1_takeBooking 18 = .ok (.invokevirtual 94, 3) := by decide +kernel
theorem dX1_takeBooking_21 : decode cX1_takeBooking 21 = .ok (.ifCond .ne 6, 3) := by decide +kernel
theorem dX1_takeBooking_24 : decode cX1_takeBooking 24 = .ok (.bipush (-2), 2) := by decide +kernel
theorem dX1_takeBooking_26 : decode cX1_takeBooking 26 = .ok (.ireturn, 1) := by decide +kernel
theorem dX1_takeBooking_27 : decode cX1_takeBooking 27 = .ok (.aload_n 0, 1) := by decide +kernel
theorem dX1_takeBooking_28 : decode cX1_takeBooking 28 = .ok (.getfield 21, 3) := by decide +kernel
theorem dX1_takeBooking_31 : decode cX1_takeBooking 31 = .ok (.getfield 98, 3) := by decide +kernel
theorem dX1_takeBooking_34 : decode cX1_takeBooking 34 = .ok (.bipush 16, 2) := by decide +kernel
theorem dX1_takeBooking_36 : decode cX1_takeBooking 36 = .ok (.if_icmp .lt 6, 3) := by decide +kernel
theorem dX1_takeBooking_39 : decode cX1_takeBooking 39 = .ok (.bipush (-3), 2) := by decide +kernel
theorem dX1_takeBooking_41 : decode cX1_takeBooking 41 = .ok (.ireturn, 1) := by decide +kernel
theorem dX1_takeBooking_42 : decode cX1_takeBooking 42 = .ok (.aload_n 0, 1) := by decide +kernel
theorem dX1_takeBooking_43 : decode cX1_takeBooking 43 = .ok (.getfield 21, 3) := by decide +kernel
theorem dX1_takeBooking_46 : decode cX1_takeBooking 46 = .ok (.iload_n 1, 1) := by decide +kernel
theorem dX1_takeBooking_47 : decode cX1_takeBooking 47 = .ok (.iload_n 2, 1) := by decide +kernel
theorem dX1_takeBooking_48 : decode cX1_takeBooking 48 = .ok (.iload_n 3, 1) := by decide +kernel
theorem dX1_takeBooking_49 : decode cX1_takeBooking 49 = .ok (.invokevirtual 101, 3) := by decide +kernel
theorem dX1_takeBooking_52 : decode cX1_takeBooking 52 = .ok (.aload_n 0, 1) := by decide +kernel
theorem dX1_takeBooking_53 : decode cX1_takeBooking 53 = .ok (.getfield 21, 3) := by decide +kernel
theorem dX1_takeBooking_56 : decode cX1_takeBooking 56 = .ok (.getfield 98, 3) := by decide +kernel
theorem dX1_takeBooking_59 : decode cX1_takeBooking 59 = .ok (.iconst 1, 1) := by decide +kernel
theorem dX1_takeBooking_60 : decode cX1_takeBooking 60 = .ok (.isub, 1) := by decide +kernel
theorem dX1_takeBooking_61 : decode cX1_takeBooking 61 = .ok (.ireturn, 1) := by decide +kernel
set_option maxRecDepth 20000 in
theorem ggX1_wouldSuffice_X1_copyFrom : GoodIn wsX1_wouldSuffice wsX1_copyFrom := goodIn_r _ [6, 7, 1, 8, 9, 10, 11, 12, 13, 14, 15, 16, 17, 18, 19, 20, 21, 22, 23, 24, 25, 26, 27, 28, 29, 30, 31, 32, 33, 34, 35, 36, 37, 38, 39, 40, 41, 42, 43, 44, 45, 46, 47, 48, 49, 110, 111, 112, 113, 114, 115, 116, 117, 118, 119, 120, 121, 122, 123, 124, 125, 126, 127, 128, 129, 130, 131, 132, 133, 134, 135, 136, 137] (by decide +kernel) (by decide +kernel)
set_option maxRecDepth 20000 in
theorem gX1_wouldSuffice_X1_copyFrom : GoodIn wsX1_wouldSuffice (wsV RX1 104 RX1 yX1_copyFrom wsX1_copyFrom) := goodIn_app (goodIn_of _ (by decide +kernel)) ggX1_wouldSuffice_X1_copyFrom
set_option maxRecDepth 20000 in
theorem ggX1_wouldSuffice_X2_add : GoodIn wsX1_wouldSuffice wsX2_add := goodIn_r _ [53, 49, 42, 44, 45, 46, 47, 48, 131, 132, 133, 134, 135, 136, 137] (by decide +kernel) (by decide +kernel)
set_option maxRecDepth 20000 in
theorem gX1_wouldSuffice_X2_add : GoodIn wsX1_wouldSuffice (wsV RX1 101 RX2 yX2_add wsX2_add) := goodIn_app (goodIn_of _ (by decide +kernel)) ggX1_wouldSuffice_X2_add
set_option maxRecDepth 20000 in
theorem ggX1_wouldSuffice_X2_anyAwaited : GoodIn wsX1_wouldSuffice wsX2_anyAwaited := goodIn_r _ [57, 49, 46, 131, 132, 133, 134, 135, 136, 137] (by decide +kernel) (by decide +kernel)
set_option maxRecDepth 20000 in
theorem gX1_wouldSuffice_X2_anyAwaited : GoodIn wsX1_wouldSuffice (wsV RX1 107 RX2 yX2_anyAwaited wsX2_anyAwaited) := goodIn_app (goodIn_of _ (by decide +kernel)) ggX1_wouldSuffice_X2_anyAwaited
set_option maxRecDepth 20000 in
theorem ggX1_wouldSuffice_X1_passNight : GoodIn wsX1_wouldSuffice wsX1_passNight := goodIn_r _ [61, 1, 14, 13, 7, 19, 62, 63, 64, 65, 16, 17, 18, 66, 67, 68, 5, 69, 8, 70, 71, 72, 40, 73, 49, 46, 47, 45, 74, 75, 76, 77, 42, 78, 79, 80, 81, 44, 48, 82, 83, 84, 23, 85, 35, 25, 27, 86, 87, 88, 89, 90, 91, 92, 93, 33, 94, 95, 96, 97, 98, 99, 100, 101, 102, 103, 104, 105, 28, 34, 106, 107, 108, 109, 110, 111, 112, 113, 114, 115, 116, 117, 118, 119, 131, 132, 133, 134, 135, 136, 137, 120, 121, 122, 123, 124, 125, 126, 127, 128, 129, 130] (by decide +kernel) (by decide +kernel)
set_option maxRecDepth 20000 in
theorem gX1_wouldSuffice_X1_passNight : GoodIn wsX1_wouldSuffice (wsV RX1 110 RX1 yX1_passNight wsX1_passNight) := goodIn_app (goodIn_of _ (by decide +kernel)) ggX1_wouldSuffice_X1_passNight
theorem dX1_wouldSuffice_0 : decode cX1_wouldSuffice 0 = .ok (.aload_n 0, 1) := by decide +kernel
theorem dX1_wouldSuffice_1 : decode cX1_wouldSuffice 1 = .ok (.aload_n 1, 1) := by decide +kernel
theorem dX1_wouldSuffice_2 : decode cX1_wouldSuffice 2 = .ok (.invokevirtual 104, 3) := by decide +kernel
theorem dX1_wouldSuffice_5 : decode cX1_wouldSuffice 5 = .ok (.aload_n 0, 1) := by decide +kernel
theorem dX1_wouldSuffice_6 : decode cX1_wouldSuffice 6 = .ok (.getfield 21, 3) := by decide +kernel
theorem dX1_wouldSuffice_9 : decode cX1_wouldSuffice 9 = .ok (.iload_n 2, 1) := by decide +kernel
theorem dX1_wouldSuffice_10 : decode cX1_wouldSuffice 10 = .ok (.iload_n 3, 1) := by decide +kernel
theorem dX1_wouldSuffice_11 : decode cX1_wouldSuffice 11 = .ok (.iload 4, 2) := by decide +kernel
theorem dX1_wouldSuffice_13 : decode cX1_wouldSuffice 13 = .ok (.invokevirtual 101, 3) := by decide +kernel
theorem dX1_wouldSuffice_16 : decode cX1_wouldSuffice 16 = .ok (.iconst 0, 1) := by decide +kernel
theorem dX1_wouldSuffice_17 : decode cX1_wouldSuffice 17 = .ok (.istore 5, 2) := by decide +kernel
theorem dX1_wouldSuffice_19 : decode cX1_wouldSuffice 19 = .ok (.iload 5, 2) := by decide +kernel
theorem dX1_wouldSuffice_21 : decode cX1_wouldSuffice 21 = .ok (.sipush 1000, 3) := by decide +kernel
theorem dX1_wouldSuffice_24 : decode cX1_wouldSuffice 24 = .ok (.if_icmp .ge 28, 3) := by decide +kernel
theorem dX1_wouldSuffice_27 : decode cX1_wouldSuffice 27 = .ok (.aload_n 0, 1) := by decide +kernel
theorem dX1_wouldSuffice_28 : decode cX1_wouldSuffice 28 = .ok (.getfield 21, 3) := by decide +kernel
theorem dX1_wouldSuffice_31 : decode cX1_wouldSuffice 31 = .ok (.invokevirtual 107, 3) := by decide +kernel
theorem dX1_wouldSuffice_34 : decode cX1_wouldSuffice 34 = .ok (.ifCond .eq 18, 3) := by decide +kernel
theorem dX1_wouldSuffice_37 : decode cX1_wouldSuffice 37 = .ok (.aload_n 0, 1) := by decide +kernel
theorem dX1_wouldSuffice_38 : decode cX1_wouldSuffice 38 = .ok (.invokevirtual 110, 3) := by decide +kernel
theorem dX1_wouldSuffice_41 : decode cX1_wouldSuffice 41 = .ok (.ifCond .ne 5, 3) := by decide +kernel
theorem dX1_wouldSuffice_44 : decode cX1_wouldSuffice 44 = .ok (.iconst 0, 1) := by decide +kernel
theorem dX1_wouldSuffice_45 : decode cX1_wouldSuffice 45 = .ok (.ireturn, 1) := by decide +kernel
theorem dX1_wouldSuffice_46 : decode cX1_wouldSuffice 46 = .ok (.iinc 5 1, 3) := by decide +kernel
theorem dX1_wouldSuffice_49 : decode cX1_wouldSuffice 49 = .ok (.goto (-30), 3) := by decide +kernel
theorem dX1_wouldSuffice_52 : decode cX1_wouldSuffice 52 = .ok (.iconst 1, 1) := by decide +kernel
theorem dX1_wouldSuffice_53 : decode cX1_wouldSuffice 53 = .ok (.ireturn, 1) := by decide +kernel
set_option maxRecDepth 20000 in
theorem ggX1_callOff_X2_has : GoodIn wsX1_callOff wsX2_has := goodIn_r _ [7, 8, 24, 25, 26, 27, 28, 29, 30] (by decide +kernel) (by decide +kernel)
set_option maxRecDepth 20000 in
theorem gX1_callOff_X2_has : GoodIn wsX1_callOff (wsV RX1 113 RX2 yX2_has wsX2_has) := goodIn_app (goodIn_of _ (by decide +kernel)) ggX1_callOff_X2_has
set_option maxRecDepth 20000 in
theorem ggX1_callOff_X2_withStatus : GoodIn wsX1_callOff wsX2_withStatus := goodIn_r _ [12, 8, 13, 24, 25, 26, 27, 28, 29, 30] (by decide +kernel) (by decide +kernel)
set_option maxRecDepth 20000 in
theorem gX1_callOff_X2_withStatus : GoodIn wsX1_callOff (wsV RX1 119 RX2 yX2_withStatus wsX2_withStatus) := goodIn_app (goodIn_of _ (by decide +kernel)) ggX1_callOff_X2_withStatus
theorem dX1_callOff_0 : decode cX1_callOff 0 = .ok (.aload_n 0, 1) := by decide +kernel
theorem dX1_callOff_1 : decode cX1_callOff 1 = .ok (.getfield 21, 3) := by decide +kernel
theorem dX1_callOff_4 : decode cX1_callOff 4 = .ok (.iload_n 1, 1) := by decide +kernel
theorem dX1_callOff_5 : decode cX1_callOff 5 = .ok (.invokevirtual 113, 3) := by decide +kernel
theorem dX1_callOff_8 : decode cX1_callOff 8 = .ok (.ifCond .ne 5, 3) := by decide +kernel
theorem dX1_callOff_11 : decode cX1_callOff 11 = .ok (.iconst (-1), 1) := by decide +kernel
theorem dX1_callOff_12 : decode cX1_callOff 12 = .ok (.ireturn, 1) := by decide +kernel
theorem dX1_callOff_13 : decode cX1_callOff 13 = .ok (.aload_n 0, 1) := by decide +kernel
theorem dX1_callOff_14 : decode cX1_callOff 14 = .ok (.getfield 21, 3) := by decide +kernel
theorem dX1_callOff_17 : decode cX1_callOff 17 = .ok (.getfield 116, 3) := by decide +kernel
theorem dX1_callOff_20 : decode cX1_callOff 20 = .ok (.iload_n 1, 1) := by decide +kernel
theorem dX1_callOff_21 : decode cX1_callOff 21 = .ok (.iaload, 1) := by decide +kernel
theorem dX1_callOff_22 : decode cX1_callOff 22 = .ok (.ifCond .eq 6, 3) := by decide +kernel
theorem dX1_callOff_25 : decode cX1_callOff 25 = .ok (.bipush (-2), 2) := by decide +kernel
theorem dX1_callOff_27 : decode cX1_callOff 27 = .ok (.ireturn, 1) := by decide +kernel
theorem dX1_callOff_28 : decode cX1_callOff 28 = .ok (.aload_n 0, 1) := by decide +kernel
theorem dX1_callOff_29 : decode cX1_callOff 29 = .ok (.getfield 21, 3) := by decide +kernel
theorem dX1_callOff_32 : decode cX1_callOff 32 = .ok (.getfield 116, 3) := by decide +kernel
theorem dX1_callOff_35 : decode cX1_callOff 35 = .ok (.iload_n 1, 1) := by decide +kernel
theorem dX1_callOff_36 : decode cX1_callOff 36 = .ok (.iconst 3, 1) := by decide +kernel
theorem dX1_callOff_37 : decode cX1_callOff 37 = .ok (.iastore, 1) := by decide +kernel
theorem dX1_callOff_38 : decode cX1_callOff 38 = .ok (.aload_n 0, 1) := by decide +kernel
theorem dX1_callOff_39 : decode cX1_callOff 39 = .ok (.getfield 21, 3) := by decide +kernel
theorem dX1_callOff_42 : decode cX1_callOff 42 = .ok (.iconst 0, 1) := by decide +kernel
theorem dX1_callOff_43 : decode cX1_callOff 43 = .ok (.invokevirtual 119, 3) := by decide +kernel
theorem dX1_callOff_46 : decode cX1_callOff 46 = .ok (.ireturn, 1) := by decide +kernel
theorem dX1_tellStorm_0 : decode cX1_tellStorm 0 = .ok (.iload_n 1, 1) := by decide +kernel
theorem dX1_tellStorm_1 : decode cX1_tellStorm 1 = .ok (.aload_n 0, 1) := by decide +kernel
theorem dX1_tellStorm_2 : decode cX1_tellStorm 2 = .ok (.getfield 49, 3) := by decide +kernel
theorem dX1_tellStorm_5 : decode cX1_tellStorm 5 = .ok (.if_icmp .lt 21, 3) := by decide +kernel
theorem dX1_tellStorm_8 : decode cX1_tellStorm 8 = .ok (.iload_n 1, 1) := by decide +kernel
theorem dX1_tellStorm_9 : decode cX1_tellStorm 9 = .ok (.sipush 365, 3) := by decide +kernel
theorem dX1_tellStorm_12 : decode cX1_tellStorm 12 = .ok (.if_icmp .gt 14, 3) := by decide +kernel
theorem dX1_tellStorm_15 : decode cX1_tellStorm 15 = .ok (.iload_n 2, 1) := by decide +kernel
theorem dX1_tellStorm_16 : decode cX1_tellStorm 16 = .ok (.iconst 1, 1) := by decide +kernel
theorem dX1_tellStorm_17 : decode cX1_tellStorm 17 = .ok (.if_icmp .lt 9, 3) := by decide +kernel
theorem dX1_tellStorm_20 : decode cX1_tellStorm 20 = .ok (.iload_n 2, 1) := by decide +kernel
theorem dX1_tellStorm_21 : decode cX1_tellStorm 21 = .ok (.bipush 30, 2) := by decide +kernel
theorem dX1_tellStorm_23 : decode cX1_tellStorm 23 = .ok (.if_icmp .le 5, 3) := by decide +kernel
theorem dX1_tellStorm_26 : decode cX1_tellStorm 26 = .ok (.iconst (-1), 1) := by decide +kernel
theorem dX1_tellStorm_27 : decode cX1_tellStorm 27 = .ok (.ireturn, 1) := by decide +kernel
theorem dX1_tellStorm_28 : decode cX1_tellStorm 28 = .ok (.iload_n 1, 1) := by decide +kernel
theorem dX1_tellStorm_29 : decode cX1_tellStorm 29 = .ok (.iload_n 2, 1) := by decide +kernel
theorem dX1_tellStorm_30 : decode cX1_tellStorm 30 = .ok (.iadd, 1) := by decide +kernel
theorem dX1_tellStorm_31 : decode cX1_tellStorm 31 = .ok (.istore_n 3, 1) := by decide +kernel
theorem dX1_tellStorm_32 : decode cX1_tellStorm 32 = .ok (.iconst 0, 1) := by decide +kernel
theorem dX1_tellStorm_33 : decode cX1_tellStorm 33 = .ok (.istore 4, 2) := by decide +kernel
theorem dX1_tellStorm_35 : decode cX1_tellStorm 35 = .ok (.aload_n 0, 1) := by decide +kernel
theorem dX1_tellStorm_36 : decode cX1_tellStorm 36 = .ok (.getfield 49, 3) := by decide +kernel
theorem dX1_tellStorm_39 : decode cX1_tellStorm 39 = .ok (.istore 5, 2) := by decide +kernel
theorem dX1_tellStorm_41 : decode cX1_tellStorm 41 = .ok (.iload 5, 2) := by decide +kernel
theorem dX1_tellStorm_43 : decode cX1_tellStorm 43 = .ok (.aload_n 0, 1) := by decide +kernel
theorem dX1_tellStorm_44 : decode cX1_tellStorm 44 = .ok (.getfield 25, 3) := by decide +kernel
theorem dX1_tellStorm_47 : decode cX1_tellStorm 47 = .ok (.arraylength, 1) := by decide +kernel
theorem dX1_tellStorm_48 : decode cX1_tellStorm 48 = .ok (.if_icmp .ge 34, 3) := by decide +kernel
theorem dX1_tellStorm_51 : decode cX1_tellStorm 51 = .ok (.aload_n 0, 1) := by decide +kernel
theorem dX1_tellStorm_52 : decode cX1_tellStorm 52 = .ok (.getfield 25, 3) := by decide +kernel
theorem dX1_tellStorm_55 : decode cX1_tellStorm 55 = .ok (.iload 5, 2) := by decide +kernel
theorem dX1_tellStorm_57 : decode cX1_tellStorm 57 = .ok (.baload, 1) := by decide +kernel
theorem dX1_tellStorm_58 : decode cX1_tellStorm 58 = .ok (.ifCond .ne 15, 3) := by decide +kernel
theorem dX1_tellStorm_61 : decode cX1_tellStorm 61 = .ok (.iload 5, 2) := by decide +kernel
theorem dX1_tellStorm_63 : decode cX1_tellStorm 63 = .ok (.iload_n 1, 1) := by decide +kernel
theorem dX1_tellStorm_64 : decode cX1_tellStorm 64 = .ok (.if_icmp .lt 12, 3) := by decide +kernel
theorem dX1_tellStorm_67 : decode cX1_tellStorm 67 = .ok (.iload 5, 2) := by decide +kernel
theorem dX1_tellStorm_69 : decode cX1_tellStorm 69 = .ok (.iload_n 3, 1) := by decide +kernel
theorem dX1_tellStorm_70 : decode cX1_tellStorm 70 = .ok (.if_icmp .ge 6, 3) := by decide +kernel
theorem dX1_tellStorm_73 : decode cX1_tellStorm 73 = .ok (.iinc 4 1, 3) := by decide +kernel
theorem dX1_tellStorm_76 : decode cX1_tellStorm 76 = .ok (.iinc 5 1, 3) := by decide +kernel
theorem dX1_tellStorm_79 : decode cX1_tellStorm 79 = .ok (.goto (-38), 3) := by decide +kernel
theorem dX1_tellStorm_82 : decode cX1_tellStorm 82 = .ok (.iload 4, 2) := by decide +kernel
theorem dX1_tellStorm_84 : decode cX1_tellStorm 84 = .ok (.bipush 40, 2) := by decide +kernel
theorem dX1_tellStorm_86 : decode cX1_tellStorm 86 = .ok (.if_icmp .le 6, 3) := by decide +kernel
theorem dX1_tellStorm_89 : decode cX1_tellStorm 89 = .ok (.bipush (-3), 2) := by decide +kernel
theorem dX1_tellStorm_91 : decode cX1_tellStorm 91 = .ok (.ireturn, 1) := by decide +kernel
theorem dX1_tellStorm_92 : decode cX1_tellStorm 92 = .ok (.iload_n 1, 1) := by decide +kernel
theorem dX1_tellStorm_93 : decode cX1_tellStorm 93 = .ok (.istore 5, 2) := by decide +kernel
theorem dX1_tellStorm_95 : decode cX1_tellStorm 95 = .ok (.iload 5, 2) := by decide +kernel
theorem dX1_tellStorm_97 : decode cX1_tellStorm 97 = .ok (.iload_n 3, 1) := by decide +kernel
theorem dX1_tellStorm_98 : decode cX1_tellStorm 98 = .ok (.if_icmp .ge 27, 3) := by decide +kernel
theorem dX1_tellStorm_101 : decode cX1_tellStorm 101 = .ok (.iload 5, 2) := by decide +kernel
theorem dX1_tellStorm_103 : decode cX1_tellStorm 103 = .ok (.aload_n 0, 1) := by decide +kernel
theorem dX1_tellStorm_104 : decode cX1_tellStorm 104 = .ok (.getfield 25, 3) := by decide +kernel
theorem dX1_tellStorm_107 : decode cX1_tellStorm 107 = .ok (.arraylength, 1) := by decide +kernel
theorem dX1_tellStorm_108 : decode cX1_tellStorm 108 = .ok (.if_icmp .ge 17, 3) := by decide +kernel
theorem dX1_tellStorm_111 : decode cX1_tellStorm 111 = .ok (.aload_n 0, 1) := by decide +kernel
theorem dX1_tellStorm_112 : decode cX1_tellStorm 112 = .ok (.getfield 25, 3) := by decide +kernel
theorem dX1_tellStorm_115 : decode cX1_tellStorm 115 = .ok (.iload 5, 2) := by decide +kernel
theorem dX1_tellStorm_117 : decode cX1_tellStorm 117 = .ok (.iconst 1, 1) := by decide +kernel
theorem dX1_tellStorm_118 : decode cX1_tellStorm 118 = .ok (.bastore, 1) := by decide +kernel
theorem dX1_tellStorm_119 : decode cX1_tellStorm 119 = .ok (.iinc 5 1, 3) := by decide +kernel
theorem dX1_tellStorm_122 : decode cX1_tellStorm 122 = .ok (.goto (-27), 3) := by decide +kernel
theorem dX1_tellStorm_125 : decode cX1_tellStorm 125 = .ok (.iload 4, 2) := by decide +kernel
theorem dX1_tellStorm_127 : decode cX1_tellStorm 127 = .ok (.ireturn, 1) := by decide +kernel
theorem dX1_tellCalm_0 : decode cX1_tellCalm 0 = .ok (.iload_n 1, 1) := by decide +kernel
theorem dX1_tellCalm_1 : decode cX1_tellCalm 1 = .ok (.aload_n 0, 1) := by decide +kernel
theorem dX1_tellCalm_2 : decode cX1_tellCalm 2 = .ok (.getfield 49, 3) := by decide +kernel
theorem dX1_tellCalm_5 : decode cX1_tellCalm 5 = .ok (.if_icmp .lt 10, 3) := by decide +kernel
theorem dX1_tellCalm_8 : decode cX1_tellCalm 8 = .ok (.iload_n 1, 1) := by decide +kernel
theorem dX1_tellCalm_9 : decode cX1_tellCalm 9 = .ok (.sipush 395, 3) := by decide +kernel
theorem dX1_tellCalm_12 : decode cX1_tellCalm 12 = .ok (.if_icmp .le 5, 3) := by decide +kernel
theorem dX1_tellCalm_15 : decode cX1_tellCalm 15 = .ok (.iconst (-1), 1) := by decide +kernel
theorem dX1_tellCalm_16 : decode cX1_tellCalm 16 = .ok (.ireturn, 1) := by decide +kernel
theorem dX1_tellCalm_17 : decode cX1_tellCalm 17 = .ok (.aload_n 0, 1) := by decide +kernel
theorem dX1_tellCalm_18 : decode cX1_tellCalm 18 = .ok (.getfield 25, 3) := by decide +kernel
theorem dX1_tellCalm_21 : decode cX1_tellCalm 21 = .ok (.iload_n 1, 1) := by decide +kernel
theorem dX1_tellCalm_22 : decode cX1_tellCalm 22 = .ok (.baload, 1) := by decide +kernel
theorem dX1_tellCalm_23 : decode cX1_tellCalm 23 = .ok (.istore_n 2, 1) := by decide +kernel
theorem dX1_tellCalm_24 : decode cX1_tellCalm 24 = .ok (.aload_n 0, 1) := by decide +kernel
theorem dX1_tellCalm_25 : decode cX1_tellCalm 25 = .ok (.getfield 25, 3) := by decide +kernel
theorem dX1_tellCalm_28 : decode cX1_tellCalm 28 = .ok (.iload_n 1, 1) := by decide +kernel
theorem dX1_tellCalm_29 : decode cX1_tellCalm 29 = .ok (.iconst 0, 1) := by decide +kernel
theorem dX1_tellCalm_30 : decode cX1_tellCalm 30 = .ok (.bastore, 1) := by decide +kernel
theorem dX1_tellCalm_31 : decode cX1_tellCalm 31 = .ok (.iload_n 2, 1) := by decide +kernel
theorem dX1_tellCalm_32 : decode cX1_tellCalm 32 = .ok (.ifCond .eq 7, 3) := by decide +kernel
theorem dX1_tellCalm_35 : decode cX1_tellCalm 35 = .ok (.iconst 1, 1) := by decide +kernel
theorem dX1_tellCalm_36 : decode cX1_tellCalm 36 = .ok (.goto 4, 3) := by decide +kernel
theorem dX1_tellCalm_39 : decode cX1_tellCalm 39 = .ok (.iconst 0, 1) := by decide +kernel
theorem dX1_tellCalm_40 : decode cX1_tellCalm 40 = .ok (.ireturn, 1) := by decide +kernel
theorem dX1_isStorm_0 : decode cX1_isStorm 0 = .ok (.aload_n 0, 1) := by decide +kernel
theorem dX1_isStorm_1 : decode cX1_isStorm 1 = .ok (.getfield 49, 3) := by decide +kernel
theorem dX1_isStorm_4 : decode cX1_isStorm 4 = .ok (.aload_n 0, 1) := by decide +kernel
theorem dX1_isStorm_5 : decode cX1_isStorm 5 = .ok (.getfield 25, 3) := by decide +kernel
theorem dX1_isStorm_8 : decode cX1_isStorm 8 = .ok (.arraylength, 1) := by decide +kernel
theorem dX1_isStorm_9 : decode cX1_isStorm 9 = .ok (.if_icmp .ge 19, 3) := by decide +kernel
theorem dX1_isStorm_12 : decode cX1_isStorm 12 = .ok (.aload_n 0, 1) := by decide +kernel
theorem dX1_isStorm_13 : decode cX1_isStorm 13 = .ok (.getfield 25, 3) := by decide +kernel
theorem dX1_isStorm_16 : decode cX1_isStorm 16 = .ok (.aload_n 0, 1) := by decide +kernel
theorem dX1_isStorm_17 : decode cX1_isStorm 17 = .ok (.getfield 49, 3) := by decide +kernel
theorem dX1_isStorm_20 : decode cX1_isStorm 20 = .ok (.baload, 1) := by decide +kernel
theorem dX1_isStorm_21 : decode cX1_isStorm 21 = .ok (.ifCond .eq 7, 3) := by decide +kernel
theorem dX1_isStorm_24 : decode cX1_isStorm 24 = .ok (.iconst 1, 1) := by decide +kernel
theorem dX1_isStorm_25 : decode cX1_isStorm 25 = .ok (.goto 4, 3) := by decide +kernel
theorem dX1_isStorm_28 : decode cX1_isStorm 28 = .ok (.iconst 0, 1) := by decide +kernel
theorem dX1_isStorm_29 : decode cX1_isStorm 29 = .ok (.ireturn, 1) := by decide +kernel
set_option maxRecDepth 20000 in
theorem ggX1_passNights_X1_passNight : GoodIn wsX1_passNights wsX1_passNight := goodIn_r _ [7, 8, 1, 9, 10, 11, 12, 13, 14, 15, 2, 16, 17, 18, 19, 20, 6, 21, 22, 23, 24, 25, 26, 27, 28, 29, 30, 31, 32, 33, 34, 35, 36, 37, 38, 39, 40, 41, 42, 43, 44, 45, 46, 47, 48, 49, 50, 51, 52, 53, 54, 55, 56, 57, 58, 59, 60, 61, 62, 63, 64, 65, 66, 67, 68, 69, 70, 71, 72, 73, 74, 75, 76, 77, 78, 79, 80, 81, 82, 83, 84, 85, 86, 87, 88, 89, 90, 91, 92, 93, 94, 95, 96, 97, 98, 99, 100, 101, 102, 103, 104, 105] (by decide +kernel) (by decide +kernel)
set_option maxRecDepth 20000 in
theorem gX1_passNights_X1_passNight : GoodIn wsX1_passNights (wsV RX1 110 RX1 yX1_passNight wsX1_passNight) := goodIn_app (goodIn_of _ (by decide +kernel)) ggX1_passNights_X1_passNight
theorem dX1_passNights_0 : decode cX1_passNights 0 = .ok (.iload_n 1, 1) := by decide +kernel
theorem dX1_passNights_1 : decode cX1_passNights 1 = .ok (.iconst 1, 1) := by decide +kernel
theorem dX1_passNights_2 : decode cX1_passNights 2 = .ok (.if_icmp .lt 9, 3) := by decide +kernel
theorem dX1_passNights_5 : decode cX1_passNights 5 = .ok (.iload_n 1, 1) := by decide +kernel
theorem dX1_passNights_6 : decode cX1_passNights 6 = .ok (.bipush 60, 2) := by decide +kernel
theorem dX1_passNights_8 : decode cX1_passNights 8 = .ok (.if_icmp .le 5, 3) := by decide +kernel
theorem dX1_passNights_11 : decode cX1_passNights 11 = .ok (.iconst (-1), 1) := by decide +kernel
theorem dX1_passNights_12 : decode cX1_passNights 12 = .ok (.ireturn, 1) := by decide +kernel
theorem dX1_passNights_13 : decode cX1_passNights 13 = .ok (.aload_n 0, 1) := by decide +kernel
theorem dX1_passNights_14 : decode cX1_passNights 14 = .ok (.getfield 49, 3) := by decide +kernel
theorem dX1_passNights_17 : decode cX1_passNights 17 = .ok (.iload_n 1, 1) := by decide +kernel
theorem dX1_passNights_18 : decode cX1_passNights 18 = .ok (.iadd, 1) := by decide +kernel
theorem dX1_passNights_19 : decode cX1_passNights 19 = .ok (.sipush 365, 3) := by decide +kernel
theorem dX1_passNights_22 : decode cX1_passNights 22 = .ok (.if_icmp .le 6, 3) := by decide +kernel
theorem dX1_passNights_25 : decode cX1_passNights 25 = .ok (.bipush (-3), 2) := by decide +kernel
theorem dX1_passNights_27 : decode cX1_passNights 27 = .ok (.ireturn, 1) := by decide +kernel
theorem dX1_passNights_28 : decode cX1_passNights 28 = .ok (.aload_n 0, 1) := by decide +kernel
theorem dX1_passNights_29 : decode cX1_passNights 29 = .ok (.getfield 56, 3) := by decide +kernel
theorem dX1_passNights_32 : decode cX1_passNights 32 = .ok (.istore_n 2, 1) := by decide +kernel
theorem dX1_passNights_33 : decode cX1_passNights 33 = .ok (.iconst 0, 1) := by decide +kernel
theorem dX1_passNights_34 : decode cX1_passNights 34 = .ok (.istore_n 3, 1) := by decide +kernel
theorem dX1_passNights_35 : decode cX1_passNights 35 = .ok (.iload_n 3, 1) := by decide +kernel
theorem dX1_passNights_36 : decode cX1_passNights 36 = .ok (.iload_n 1, 1) := by decide +kernel
theorem dX1_passNights_37 : decode cX1_passNights 37 = .ok (.if_icmp .ge 14, 3) := by decide +kernel
theorem dX1_passNights_40 : decode cX1_passNights 40 = .ok (.aload_n 0, 1) := by decide +kernel
theorem dX1_passNights_41 : decode cX1_passNights 41 = .ok (.invokevirtual 110, 3) := by decide +kernel
theorem dX1_passNights_44 : decode cX1_passNights 44 = .ok (.pop, 1) := by decide +kernel
theorem dX1_passNights_45 : decode cX1_passNights 45 = .ok (.iinc 3 1, 3) := by decide +kernel
theorem dX1_passNights_48 : decode cX1_passNights 48 = .ok (.goto (-13), 3) := by decide +kernel
theorem dX1_passNights_51 : decode cX1_passNights 51 = .ok (.aload_n 0, 1) := by decide +kernel
theorem dX1_passNights_52 : decode cX1_passNights 52 = .ok (.getfield 56, 3) := by decide +kernel
theorem dX1_passNights_55 : decode cX1_passNights 55 = .ok (.iload_n 2, 1) := by decide +kernel
theorem dX1_passNights_56 : decode cX1_passNights 56 = .ok (.isub, 1) := by decide +kernel
theorem dX1_passNights_57 : decode cX1_passNights 57 = .ok (.ireturn, 1) := by decide +kernel
set_option maxRecDepth 20000 in
theorem ggX1_passNight_X1_isStorm : GoodIn wsX1_passNight wsX1_isStorm := goodIn_r _ [17, 2, 18, 74, 75, 76, 77, 78, 79, 80, 81, 82, 83] (by decide +kernel) (by decide +kernel)
set_option maxRecDepth 20000 in
theorem gX1_passNight_X1_isStorm : GoodIn wsX1_passNight (wsV RX1 79 RX1 yX1_isStorm wsX1_isStorm) := goodIn_app (goodIn_of _ (by decide +kernel)) ggX1_passNight_X1_isStorm
set_option maxRecDepth 20000 in
theorem ggX1_passNight_X2_leave : GoodIn wsX1_passNight wsX2_leave := goodIn_r _ [23, 24, 25, 26, 27, 84, 85, 86, 87, 88, 89, 90] (by decide +kernel) (by decide +kernel)
set_option maxRecDepth 20000 in
theorem gX1_passNight_X2_leave : GoodIn wsX1_passNight (wsV RX1 123 RX2 yX2_leave wsX2_leave) := goodIn_app (goodIn_of _ (by decide +kernel)) ggX1_passNight_X2_leave
set_option maxRecDepth 20000 in
theorem ggX1_passNight_X2_guests : GoodIn wsX1_passNight wsX2_guests := goodIn_r _ [31, 24, 25, 32, 84, 85, 86, 87, 88, 89, 90] (by decide +kernel) (by decide +kernel)
set_option maxRecDepth 20000 in
theorem gX1_passNight_X2_guests : GoodIn wsX1_passNight (wsV RX1 126 RX2 yX2_guests wsX2_guests) := goodIn_app (goodIn_of _ (by decide +kernel)) ggX1_passNight_X2_guests
set_option maxRecDepth 20000 in
theorem ggX1_passNight_X2_arrive : GoodIn wsX1_passNight wsX2_arrive := goodIn_r _ [36, 24, 25, 37, 27, 32, 38, 84, 85, 86, 87, 88, 89, 90] (by decide +kernel) (by decide +kernel)
set_option maxRecDepth 20000 in
theorem gX1_passNight_X2_arrive : GoodIn wsX1_passNight (wsV RX1 130 RX2 yX2_arrive wsX2_arrive) := goodIn_app (goodIn_of _ (by decide +kernel)) ggX1_passNight_X2_arrive
set_option maxRecDepth 20000 in
theorem ggX1_passNight_X4_stock : GoodIn wsX1_passNight wsX4_stock := goodIn_r _ [43, 44, 45, 46, 91, 92, 93, 94, 95, 96, 97, 98, 99, 100, 101] (by decide +kernel) (by decide +kernel)
set_option maxRecDepth 20000 in
theorem gX1_passNight_X4_stock : GoodIn wsX1_passNight (wsV RX1 134 RX4 yX4_stock wsX4_stock) := goodIn_app (goodIn_of _ (by decide +kernel)) ggX1_passNight_X4_stock
set_option maxRecDepth 20000 in
theorem ggX1_passNight_X1_rationFor : GoodIn wsX1_passNight wsX1_rationFor := goodIn_r _ [50, 3, 74, 75, 76, 77, 78, 79, 80, 81, 82, 83] (by decide +kernel) (by decide +kernel)
set_option maxRecDepth 20000 in
theorem gX1_passNight_X1_rationFor : GoodIn wsX1_passNight (wsV RX1 137 RX1 yX1_rationFor wsX1_rationFor) := goodIn_app (goodIn_of _ (by decide +kernel)) ggX1_passNight_X1_rationFor
set_option maxRecDepth 20000 in
theorem ggX1_passNight_X4_take : GoodIn wsX1_passNight wsX4_take := goodIn_r _ [54, 44, 45, 46, 55, 91, 92, 93, 94, 95, 96, 97, 98, 99, 100, 101] (by decide +kernel) (by decide +kernel)
set_option maxRecDepth 20000 in
theorem gX1_passNight_X4_take : GoodIn wsX1_passNight (wsV RX1 141 RX4 yX4_take wsX4_take) := goodIn_app (goodIn_of _ (by decide +kernel)) ggX1_passNight_X4_take
set_option maxRecDepth 20000 in
theorem ggX1_passNight_X1_gasFor : GoodIn wsX1_passNight wsX1_gasFor := goodIn_r _ [59] (by decide +kernel) (by decide +kernel)
set_option maxRecDepth 20000 in
theorem gX1_passNight_X1_gasFor : GoodIn wsX1_passNight (wsV RX1 149 RX1 yX1_gasFor wsX1_gasFor) := goodIn_app (goodIn_of _ (by decide +kernel)) ggX1_passNight_X1_gasFor
set_option maxRecDepth 20000 in
theorem ggX1_passNight_X2_sleepOnce : GoodIn wsX1_passNight wsX2_sleepOnce := goodIn_r _ [63, 24, 25, 26, 84, 85, 86, 87, 88, 89, 90] (by decide +kernel) (by decide +kernel)
set_option maxRecDepth 20000 in
theorem gX1_passNight_X2_sleepOnce : GoodIn wsX1_passNight (wsV RX1 153 RX2 yX2_sleepOnce wsX2_sleepOnce) := goodIn_app (goodIn_of _ (by decide +kernel)) ggX1_passNight_X2_sleepOnce
set_option maxRecDepth 20000 in
theorem ggX1_passNight_X4_spoil : GoodIn wsX1_passNight wsX4_spoil := goodIn_r _ [67, 44, 45, 68, 69, 46, 91, 92, 93, 94, 95, 96, 97, 98, 99, 100, 101] (by decide +kernel) (by decide +kernel)
set_option maxRecDepth 20000 in
theorem gX1_passNight_X4_spoil : GoodIn wsX1_passNight (wsV RX1 156 RX4 yX4_spoil wsX4_spoil) := goodIn_app (goodIn_of _ (by decide +kernel)) ggX1_passNight_X4_spoil
set_option maxRecDepth 20000 in
theorem ggX1_passNight_X4_dropEmptyLots : GoodIn wsX1_passNight wsX4_dropEmptyLots := goodIn_r _ [73, 44, 46, 45, 68, 91, 92, 93, 94, 95, 96, 97, 98, 99, 100, 101] (by decide +kernel) (by decide +kernel)
set_option maxRecDepth 20000 in
theorem gX1_passNight_X4_dropEmptyLots : GoodIn wsX1_passNight (wsV RX1 159 RX4 yX4_dropEmptyLots wsX4_dropEmptyLots) := goodIn_app (goodIn_of _ (by decide +kernel)) ggX1_passNight_X4_dropEmptyLots
theorem dX1_passNight_0 : decode cX1_passNight 0 = .ok (.aload_n 0, 1) := by decide +kernel
theorem dX1_passNight_1 : decode cX1_passNight 1 = .ok (.invokevirtual 79, 3) := by decide +kernel
theorem dX1_passNight_4 : decode cX1_passNight 4 = .ok (.istore_n 1, 1) := by decide +kernel
theorem dX1_passNight_5 : decode cX1_passNight 5 = .ok (.iload_n 1, 1) := by decide +kernel
theorem dX1_passNight_6 : decode cX1_passNight 6 = .ok (.ifCond .ne 10, 3) := by decide +kernel
theorem dX1_passNight_9 : decode cX1_passNight 9 = .ok (.aload_n 0, 1) := by decide +kernel
theorem dX1_passNight_10 : decode cX1_passNight 10 = .ok (.getfield 21, 3) := by decide +kernel
theorem dX1_passNight_13 : decode cX1_passNight 13 = .ok (.invokevirtual 123, 3) := by decide +kernel
theorem dX1_passNight_16 : decode cX1_passNight 16 = .ok (.aload_n 0, 1) := by decide +kernel
theorem dX1_passNight_17 : decode cX1_passNight 17 = .ok (.getfield 21, 3) := by decide +kernel
theorem dX1_passNight_20 : decode cX1_passNight 20 = .ok (.aload_n 0, 1) := by decide +kernel
theorem dX1_passNight_21 : decode cX1_passNight 21 = .ok (.getfield 49, 3) := by decide +kernel
theorem dX1_passNight_24 : decode cX1_passNight 24 = .ok (.iload_n 1, 1) := by decide +kernel
theorem dX1_passNight_25 : decode cX1_passNight 25 = .ok (.aload_n 0, 1) := by decide +kernel
theorem dX1_passNight_26 : decode cX1_passNight 26 = .ok (.getfield 29, 3) := by decide +kernel
theorem dX1_passNight_29 : decode cX1_passNight 29 = .ok (.iconst 0, 1) := by decide +kernel
theorem dX1_passNight_30 : decode cX1_passNight 30 = .ok (.iaload, 1) := by decide +kernel
theorem dX1_passNight_31 : decode cX1_passNight 31 = .ok (.aload_n 0, 1) := by decide +kernel
theorem dX1_passNight_32 : decode cX1_passNight 32 = .ok (.getfield 21, 3) := by decide +kernel
theorem dX1_passNight_35 : decode cX1_passNight 35 = .ok (.invokevirtual 126, 3) := by decide +kernel
theorem dX1_passNight_38 : decode cX1_passNight 38 = .ok (.isub, 1) := by decide +kernel
theorem dX1_passNight_39 : decode cX1_passNight 39 = .ok (.invokevirtual 130, 3) := by decide +kernel
theorem dX1_passNight_42 : decode cX1_passNight 42 = .ok (.istore_n 2, 1) := by decide +kernel
theorem dX1_passNight_43 : decode cX1_passNight 43 = .ok (.aload_n 0, 1) := by decide +kernel
theorem dX1_passNight_44 : decode cX1_passNight 44 = .ok (.getfield 21, 3) := by decide +kernel
theorem dX1_passNight_47 : decode cX1_passNight 47 = .ok (.invokevirtual 126, 3) := by decide +kernel
theorem dX1_passNight_50 : decode cX1_passNight 50 = .ok (.istore_n 3, 1) := by decide +kernel
theorem dX1_passNight_51 : decode cX1_passNight 51 = .ok (.aload_n 0, 1) := by decide +kernel
theorem dX1_passNight_52 : decode cX1_passNight 52 = .ok (.iload_n 3, 1) := by decide +kernel
theorem dX1_passNight_53 : decode cX1_passNight 53 = .ok (.aload_n 0, 1) := by decide +kernel
theorem dX1_passNight_54 : decode cX1_passNight 54 = .ok (.getfield 12, 3) := by decide +kernel
theorem dX1_passNight_57 : decode cX1_passNight 57 = .ok (.iconst 0, 1) := by decide +kernel
theorem dX1_passNight_58 : decode cX1_passNight 58 = .ok (.invokevirtual 134, 3) := by decide +kernel
theorem dX1_passNight_61 : decode cX1_passNight 61 = .ok (.invokevirtual 137, 3) := by decide +kernel
theorem dX1_passNight_64 : decode cX1_passNight 64 = .ok (.istore 4, 2) := by decide +kernel
theorem dX1_passNight_66 : decode cX1_passNight 66 = .ok (.iload 4, 2) := by decide +kernel
theorem dX1_passNight_68 : decode cX1_passNight 68 = .ok (.aload_n 0, 1) := by decide +kernel
theorem dX1_passNight_69 : decode cX1_passNight 69 = .ok (.getfield 29, 3) := by decide +kernel
theorem dX1_passNight_72 : decode cX1_passNight 72 = .ok (.iconst 1, 1) := by decide +kernel
theorem dX1_passNight_73 : decode cX1_passNight 73 = .ok (.iaload, 1) := by decide +kernel
theorem dX1_passNight_74 : decode cX1_passNight 74 = .ok (.if_icmp .ge 13, 3) := by decide +kernel
theorem dX1_passNight_77 : decode cX1_passNight 77 = .ok (.aload_n 0, 1) := by decide +kernel
theorem dX1_passNight_78 : decode cX1_passNight 78 = .ok (.dup, 1) := by decide +kernel
theorem dX1_passNight_79 : decode cX1_passNight 79 = .ok (.getfield 65, 3) := by decide +kernel
theorem dX1_passNight_82 : decode cX1_passNight 82 = .ok (.iconst 1, 1) := by decide +kernel
theorem dX1_passNight_83 : decode cX1_passNight 83 = .ok (.iadd, 1) := by decide +kernel
theorem dX1_passNight_84 : decode cX1_passNight 84 = .ok (.putfield 65, 3) := by decide +kernel
theorem dX1_passNight_87 : decode cX1_passNight 87 = .ok (.iload_n 3, 1) := by decide +kernel
theorem dX1_passNight_88 : decode cX1_passNight 88 = .ok (.iload 4, 2) := by decide +kernel
theorem dX1_passNight_90 : decode cX1_passNight 90 = .ok (.imul, 1) := by decide +kernel
theorem dX1_passNight_91 : decode cX1_passNight 91 = .ok (.iload_n 3, 1) := by decide +kernel
theorem dX1_passNight_92 : decode cX1_passNight 92 = .ok (.iadd, 1) := by decide +kernel
theorem dX1_passNight_93 : decode cX1_passNight 93 = .ok (.aload_n 0, 1) := by decide +kernel
theorem dX1_passNight_94 : decode cX1_passNight 94 = .ok (.getfield 12, 3) := by decide +kernel
theorem dX1_passNight_97 : decode cX1_passNight 97 = .ok (.iconst 1, 1) := by decide +kernel
theorem dX1_passNight_98 : decode cX1_passNight 98 = .ok (.iload_n 3, 1) := by decide +kernel
theorem dX1_passNight_99 : decode cX1_passNight 99 = .ok (.invokevirtual 141, 3) := by decide +kernel
theorem dX1_passNight_102 : decode cX1_passNight 102 = .ok (.isub, 1) := by decide +kernel
theorem dX1_passNight_103 : decode cX1_passNight 103 = .ok (.istore 5, 2) := by decide +kernel
theorem dX1_passNight_105 : decode cX1_passNight 105 = .ok (.iload_n 3, 1) := by decide +kernel
theorem dX1_passNight_106 : decode cX1_passNight 106 = .ok (.iload 5, 2) := by decide +kernel
theorem dX1_passNight_108 : decode cX1_passNight 108 = .ok (.aload_n 0, 1) := by decide +kernel
theorem dX1_passNight_109 : decode cX1_passNight 109 = .ok (.getfield 12, 3) := by decide +kernel
theorem dX1_passNight_112 : decode cX1_passNight 112 = .ok (.iconst 0, 1) := by decide +kernel
theorem dX1_passNight_113 : decode cX1_passNight 113 = .ok (.iload 5, 2) := by decide +kernel
theorem dX1_passNight_115 : decode cX1_passNight 115 = .ok (.invokevirtual 141, 3) := by decide +kernel
theorem dX1_passNight_118 : decode cX1_passNight 118 = .ok (.isub, 1) := by decide +kernel
theorem dX1_passNight_119 : decode cX1_passNight 119 = .ok (.invokestatic 144, 3) := by decide +kernel
theorem dX1_passNight_122 : decode cX1_passNight 122 = .ok (.istore 6, 2) := by decide +kernel
theorem dX1_passNight_124 : decode cX1_passNight 124 = .ok (.aload_n 0, 1) := by decide +kernel
theorem dX1_passNight_125 : decode cX1_passNight 125 = .ok (.iload_n 3, 1) := by decide +kernel
theorem dX1_passNight_126 : decode cX1_passNight 126 = .ok (.iload_n 1, 1) := by decide +kernel
theorem dX1_passNight_127 : decode cX1_passNight 127 = .ok (.invokevirtual 149, 3) := by decide +kernel
theorem dX1_passNight_130 : decode cX1_passNight 130 = .ok (.istore 7, 2) := by decide +kernel
theorem dX1_passNight_132 : decode cX1_passNight 132 = .ok (.aload_n 0, 1) := by decide +kernel
theorem dX1_passNight_133 : decode cX1_passNight 133 = .ok (.getfield 12, 3) := by decide +kernel
theorem dX1_passNight_136 : decode cX1_passNight 136 = .ok (.iconst 2, 1) := by decide +kernel
theorem dX1_passNight_137 : decode cX1_passNight 137 = .ok (.iload 7, 2) := by decide +kernel
theorem dX1_passNight_139 : decode cX1_passNight 139 = .ok (.invokevirtual 141, 3) := by decide +kernel
theorem dX1_passNight_142 : decode cX1_passNight 142 = .ok (.iload 7, 2) := by decide +kernel
theorem dX1_passNight_144 : decode cX1_passNight 144 = .ok (.if_icmp .ge 7, 3) := by decide +kernel
theorem dX1_passNight_147 : decode cX1_passNight 147 = .ok (.iconst 1, 1) := by decide +kernel
theorem dX1_passNight_148 : decode cX1_passNight 148 = .ok (.goto 4, 3) := by decide +kernel
theorem dX1_passNight_151 : decode cX1_passNight 151 = .ok (.iconst 0, 1) := by decide +kernel
theorem dX1_passNight_152 : decode cX1_passNight 152 = .ok (.istore 8, 2) := by decide +kernel
theorem dX1_passNight_154 : decode cX1_passNight 154 = .ok (.aload_n 0, 1) := by decide +kernel
theorem dX1_passNight_155 : decode cX1_passNight 155 = .ok (.dup, 1) := by decide +kernel
theorem dX1_passNight_156 : decode cX1_passNight 156 = .ok (.getfield 56, 3) := by decide +kernel
theorem dX1_passNight_159 : decode cX1_passNight 159 = .ok (.iload 6, 2) := by decide +kernel
theorem dX1_passNight_161 : decode cX1_passNight 161 = .ok (.iadd, 1) := by decide +kernel
theorem dX1_passNight_162 : decode cX1_passNight 162 = .ok (.putfield 56, 3) := by decide +kernel
theorem dX1_passNight_165 : decode cX1_passNight 165 = .ok (.iload 8, 2) := by decide +kernel
theorem dX1_passNight_167 : decode cX1_passNight 167 = .ok (.ifCond .eq 13, 3) := by decide +kernel
theorem dX1_passNight_170 : decode cX1_passNight 170 = .ok (.aload_n 0, 1) := by decide +kernel
theorem dX1_passNight_171 : decode cX1_passNight 171 = .ok (.dup, 1) := by decide +kernel
theorem dX1_passNight_172 : decode cX1_passNight 172 = .ok (.getfield 59, 3) := by decide +kernel
theorem dX1_passNight_175 : decode cX1_passNight 175 = .ok (.iconst 1, 1) := by decide +kernel
theorem dX1_passNight_176 : decode cX1_passNight 176 = .ok (.iadd, 1) := by decide +kernel
theorem dX1_passNight_177 : decode cX1_passNight 177 = .ok (.putfield 59, 3) := by decide +kernel
theorem dX1_passNight_180 : decode cX1_passNight 180 = .ok (.aload_n 0, 1) := by decide +kernel
theorem dX1_passNight_181 : decode cX1_passNight 181 = .ok (.dup, 1) := by decide +kernel
theorem dX1_passNight_182 : decode cX1_passNight 182 = .ok (.getfield 62, 3) := by decide +kernel
theorem dX1_passNight_185 : decode cX1_passNight 185 = .ok (.iload_n 3, 1) := by decide +kernel
theorem dX1_passNight_186 : decode cX1_passNight 186 = .ok (.iadd, 1) := by decide +kernel
theorem dX1_passNight_187 : decode cX1_passNight 187 = .ok (.putfield 62, 3) := by decide +kernel
theorem dX1_passNight_190 : decode cX1_passNight 190 = .ok (.aload_n 0, 1) := by decide +kernel
theorem dX1_passNight_191 : decode cX1_passNight 191 = .ok (.getfield 21, 3) := by decide +kernel
theorem dX1_passNight_194 : decode cX1_passNight 194 = .ok (.invokevirtual 153, 3) := by decide +kernel
theorem dX1_passNight_197 : decode cX1_passNight 197 = .ok (.aload_n 0, 1) := by decide +kernel
theorem dX1_passNight_198 : decode cX1_passNight 198 = .ok (.getfield 12, 3) := by decide +kernel
theorem dX1_passNight_201 : decode cX1_passNight 201 = .ok (.aload_n 0, 1) := by decide +kernel
theorem dX1_passNight_202 : decode cX1_passNight 202 = .ok (.getfield 49, 3) := by decide +kernel
theorem dX1_passNight_205 : decode cX1_passNight 205 = .ok (.invokevirtual 156, 3) := by decide +kernel
theorem dX1_passNight_208 : decode cX1_passNight 208 = .ok (.aload_n 0, 1) := by decide +kernel
theorem dX1_passNight_209 : decode cX1_passNight 209 = .ok (.getfield 12, 3) := by decide +kernel
theorem dX1_passNight_212 : decode cX1_passNight 212 = .ok (.invokevirtual 159, 3) := by decide +kernel
theorem dX1_passNight_215 : decode cX1_passNight 215 = .ok (.aload_n 0, 1) := by decide +kernel
theorem dX1_passNight_216 : decode cX1_passNight 216 = .ok (.dup, 1) := by decide +kernel
theorem dX1_passNight_217 : decode cX1_passNight 217 = .ok (.getfield 49, 3) := by decide +kernel
theorem dX1_passNight_220 : decode cX1_passNight 220 = .ok (.iconst 1, 1) := by decide +kernel
theorem dX1_passNight_221 : decode cX1_passNight 221 = .ok (.iadd, 1) := by decide +kernel
theorem dX1_passNight_222 : decode cX1_passNight 222 = .ok (.putfield 49, 3) := by decide +kernel
theorem dX1_passNight_225 : decode cX1_passNight 225 = .ok (.iload_n 2, 1) := by decide +kernel
theorem dX1_passNight_226 : decode cX1_passNight 226 = .ok (.ifCond .eq 17, 3) := by decide +kernel
theorem dX1_passNight_229 : decode cX1_passNight 229 = .ok (.iload 6, 2) := by decide +kernel
theorem dX1_passNight_231 : decode cX1_passNight 231 = .ok (.ifCond .ne 12, 3) := by decide +kernel
theorem dX1_passNight_234 : decode cX1_passNight 234 = .ok (.iload 8, 2) := by decide +kernel
theorem dX1_passNight_236 : decode cX1_passNight 236 = .ok (.ifCond .ne 7, 3) := by decide +kernel
theorem dX1_passNight_239 : decode cX1_passNight 239 = .ok (.iconst 1, 1) := by decide +kernel
theorem dX1_passNight_240 : decode cX1_passNight 240 = .ok (.goto 4, 3) := by decide +kernel
theorem dX1_passNight_243 : decode cX1_passNight 243 = .ok (.iconst 0, 1) := by decide +kernel
theorem dX1_passNight_244 : decode cX1_passNight 244 = .ok (.ireturn, 1) := by decide +kernel
theorem dX1_rationFor_0 : decode cX1_rationFor 0 = .ok (.aload_n 0, 1) := by decide +kernel
theorem dX1_rationFor_1 : decode cX1_rationFor 1 = .ok (.getfield 29, 3) := by decide +kernel
theorem dX1_rationFor_4 : decode cX1_rationFor 4 = .ok (.iconst 1, 1) := by decide +kernel
theorem dX1_rationFor_5 : decode cX1_rationFor 5 = .ok (.iaload, 1) := by decide +kernel
theorem dX1_rationFor_6 : decode cX1_rationFor 6 = .ok (.istore_n 3, 1) := by decide +kernel
theorem dX1_rationFor_7 : decode cX1_rationFor 7 = .ok (.iload_n 2, 1) := by decide +kernel
theorem dX1_rationFor_8 : decode cX1_rationFor 8 = .ok (.aload_n 0, 1) := by decide +kernel
theorem dX1_rationFor_9 : decode cX1_rationFor 9 = .ok (.getfield 29, 3) := by decide +kernel
theorem dX1_rationFor_12 : decode cX1_rationFor 12 = .ok (.iconst 2, 1) := by decide +kernel
theorem dX1_rationFor_13 : decode cX1_rationFor 13 = .ok (.iaload, 1) := by decide +kernel
theorem dX1_rationFor_14 : decode cX1_rationFor 14 = .ok (.iload_n 1, 1) := by decide +kernel
theorem dX1_rationFor_15 : decode cX1_rationFor 15 = .ok (.imul, 1) := by decide +kernel
theorem dX1_rationFor_16 : decode cX1_rationFor 16 = .ok (.iload_n 3, 1) := by decide +kernel
theorem dX1_rationFor_17 : decode cX1_rationFor 17 = .ok (.imul, 1) := by decide +kernel
theorem dX1_rationFor_18 : decode cX1_rationFor 18 = .ok (.if_icmp .ge 7, 3) := by decide +kernel
theorem dX1_rationFor_21 : decode cX1_rationFor 21 = .ok (.iconst 1, 1) := by decide +kernel
theorem dX1_rationFor_22 : decode cX1_rationFor 22 = .ok (.goto 4, 3) := by decide +kernel
theorem dX1_rationFor_25 : decode cX1_rationFor 25 = .ok (.iload_n 3, 1) := by decide +kernel
theorem dX1_rationFor_26 : decode cX1_rationFor 26 = .ok (.ireturn, 1) := by decide +kernel
theorem dX1_gasFor_0 : decode cX1_gasFor 0 = .ok (.iload_n 1, 1) := by decide +kernel
theorem dX1_gasFor_1 : decode cX1_gasFor 1 = .ok (.ifCond .ne 5, 3) := by decide +kernel
theorem dX1_gasFor_4 : decode cX1_gasFor 4 = .ok (.iconst 0, 1) := by decide +kernel
theorem dX1_gasFor_5 : decode cX1_gasFor 5 = .ok (.ireturn, 1) := by decide +kernel
theorem dX1_gasFor_6 : decode cX1_gasFor 6 = .ok (.iload_n 1, 1) := by decide +kernel
theorem dX1_gasFor_7 : decode cX1_gasFor 7 = .ok (.iconst 3, 1) := by decide +kernel
theorem dX1_gasFor_8 : decode cX1_gasFor 8 = .ok (.iadd, 1) := by decide +kernel
theorem dX1_gasFor_9 : decode cX1_gasFor 9 = .ok (.iconst 4, 1) := by decide +kernel
theorem dX1_gasFor_10 : decode cX1_gasFor 10 = .ok (.idiv, 1) := by decide +kernel
theorem dX1_gasFor_11 : decode cX1_gasFor 11 = .ok (.iload_n 2, 1) := by decide +kernel
theorem dX1_gasFor_12 : decode cX1_gasFor 12 = .ok (.ifCond .eq 7, 3) := by decide +kernel
theorem dX1_gasFor_15 : decode cX1_gasFor 15 = .ok (.iconst 1, 1) := by decide +kernel
theorem dX1_gasFor_16 : decode cX1_gasFor 16 = .ok (.goto 4, 3) := by decide +kernel
theorem dX1_gasFor_19 : decode cX1_gasFor 19 = .ok (.iconst 0, 1) := by decide +kernel
theorem dX1_gasFor_20 : decode cX1_gasFor 20 = .ok (.iadd, 1) := by decide +kernel
theorem dX1_gasFor_21 : decode cX1_gasFor 21 = .ok (.ireturn, 1) := by decide +kernel
theorem dX1_changeSetting_0 : decode cX1_changeSetting 0 = .ok (.iload_n 1, 1) := by decide +kernel
theorem dX1_changeSetting_1 : decode cX1_changeSetting 1 = .ok (.ifCond .lt 26, 3) := by decide +kernel
theorem dX1_changeSetting_4 : decode cX1_changeSetting 4 = .ok (.iload_n 1, 1) := by decide +kernel
theorem dX1_changeSetting_5 : decode cX1_changeSetting 5 = .ok (.iconst 4, 1) := by decide +kernel
theorem dX1_changeSetting_6 : decode cX1_changeSetting 6 = .ok (.if_icmp .ge 21, 3) := by decide +kernel
theorem dX1_changeSetting_9 : decode cX1_changeSetting 9 = .ok (.iload_n 2, 1) := by decide +kernel
theorem dX1_changeSetting_10 : decode cX1_changeSetting 10 = .ok (.getstatic 162, 3) := by decide +kernel
theorem dX1_changeSetting_13 : decode cX1_changeSetting 13 = .ok (.iload_n 1, 1) := by decide +kernel
theorem dX1_changeSetting_14 : decode cX1_changeSetting 14 = .ok (.iaload, 1) := by decide +kernel
theorem dX1_changeSetting_15 : decode cX1_changeSetting 15 = .ok (.if_icmp .lt 12, 3) := by decide +kernel
theorem dX1_changeSetting_18 : decode cX1_changeSetting 18 = .ok (.iload_n 2, 1) := by decide +kernel
theorem dX1_changeSetting_19 : decode cX1_changeSetting 19 = .ok (.getstatic 165, 3) := by decide +kernel
theorem dX1_changeSetting_22 : decode cX1_changeSetting 22 = .ok (.iload_n 1, 1) := by decide +kernel
theorem dX1_changeSetting_23 : decode cX1_changeSetting 23 = .ok (.iaload, 1) := by decide +kernel
theorem dX1_changeSetting_24 : decode cX1_changeSetting 24 = .ok (.if_icmp .le 5, 3) := by decide +kernel
theorem dX1_changeSetting_27 : decode cX1_changeSetting 27 = .ok (.iconst (-1), 1) := by decide +kernel
theorem dX1_changeSetting_28 : decode cX1_changeSetting 28 = .ok (.ireturn, 1) := by decide +kernel
theorem dX1_changeSetting_29 : decode cX1_changeSetting 29 = .ok (.aload_n 0, 1) := by decide +kernel
theorem dX1_changeSetting_30 : decode cX1_changeSetting 30 = .ok (.getfield 29, 3) := by decide +kernel
theorem dX1_changeSetting_33 : decode cX1_changeSetting 33 = .ok (.iload_n 1, 1) := by decide +kernel
theorem dX1_changeSetting_34 : decode cX1_changeSetting 34 = .ok (.iaload, 1) := by decide +kernel
theorem dX1_changeSetting_35 : decode cX1_changeSetting 35 = .ok (.istore_n 3, 1) := by decide +kernel
theorem dX1_changeSetting_36 : decode cX1_changeSetting 36 = .ok (.aload_n 0, 1) := by decide +kernel
theorem dX1_changeSetting_37 : decode cX1_changeSetting 37 = .ok (.getfield 29, 3) := by decide +kernel
theorem dX1_changeSetting_40 : decode cX1_changeSetting 40 = .ok (.iload_n 1, 1) := by decide +kernel
theorem dX1_changeSetting_41 : decode cX1_changeSetting 41 = .ok (.iload_n 2, 1) := by decide +kernel
theorem dX1_changeSetting_42 : decode cX1_changeSetting 42 = .ok (.iastore, 1) := by decide +kernel
theorem dX1_changeSetting_43 : decode cX1_changeSetting 43 = .ok (.iload_n 3, 1) := by decide +kernel
theorem dX1_changeSetting_44 : decode cX1_changeSetting 44 = .ok (.ireturn, 1) := by decide +kernel
theorem dX1_settingAt_0 : decode cX1_settingAt 0 = .ok (.iload_n 1, 1) := by decide +kernel
theorem dX1_settingAt_1 : decode cX1_settingAt 1 = .ok (.ifCond .lt 17, 3) := by decide +kernel
theorem dX1_settingAt_4 : decode cX1_settingAt 4 = .ok (.iload_n 1, 1) := by decide +kernel
theorem dX1_settingAt_5 : decode cX1_settingAt 5 = .ok (.iconst 4, 1) := by decide +kernel
theorem dX1_settingAt_6 : decode cX1_settingAt 6 = .ok (.if_icmp .ge 12, 3) := by decide +kernel
theorem dX1_settingAt_9 : decode cX1_settingAt 9 = .ok (.aload_n 0, 1) := by decide +kernel
theorem dX1_settingAt_10 : decode cX1_settingAt 10 = .ok (.getfield 29, 3) := by decide +kernel
theorem dX1_settingAt_13 : decode cX1_settingAt 13 = .ok (.iload_n 1, 1) := by decide +kernel
theorem dX1_settingAt_14 : decode cX1_settingAt 14 = .ok (.iaload, 1) := by decide +kernel
theorem dX1_settingAt_15 : decode cX1_settingAt 15 = .ok (.goto 4, 3) := by decide +kernel
theorem dX1_settingAt_18 : decode cX1_settingAt 18 = .ok (.iconst (-1), 1) := by decide +kernel
theorem dX1_settingAt_19 : decode cX1_settingAt 19 = .ok (.ireturn, 1) := by decide +kernel
set_option maxRecDepth 20000 in
theorem ggX1_dayWhenGone_X2_isAwaited : GoodIn wsX1_dayWhenGone wsX2_isAwaited := goodIn_r _ [7, 8, 9, 10, 11, 6, 12, 13, 100, 101, 102, 103, 104, 105, 106] (by decide +kernel) (by decide +kernel)
set_option maxRecDepth 20000 in
theorem gX1_dayWhenGone_X2_isAwaited : GoodIn wsX1_dayWhenGone (wsV RX1 168 RX2 yX2_isAwaited wsX2_isAwaited) := goodIn_app (goodIn_of _ (by decide +kernel)) ggX1_dayWhenGone_X2_isAwaited
set_option maxRecDepth 20000 in
theorem ggX1_dayWhenGone_X1_passNight : GoodIn wsX1_dayWhenGone wsX1_passNight := goodIn_r _ [18, 1, 2, 19, 20, 21, 22, 23, 24, 25, 26, 27, 28, 29, 30, 31, 17, 32, 33, 34, 35, 36, 6, 37, 13, 8, 38, 39, 40, 41, 42, 43, 44, 45, 46, 47, 48, 49, 50, 51, 52, 53, 54, 55, 56, 57, 58, 59, 60, 61, 62, 63, 64, 65, 66, 67, 68, 69, 70, 71, 72, 73, 74, 75, 76, 77, 78, 79, 80, 81, 82, 83, 84, 85, 90, 91, 92, 93, 94, 95, 96, 97, 98, 99, 100, 101, 102, 103, 104, 105, 106, 107, 108, 109, 110, 111, 112, 113, 114, 115, 116, 117] (by decide +kernel) (by decide +kernel)
set_option maxRecDepth 20000 in
theorem gX1_dayWhenGone_X1_passNight : GoodIn wsX1_dayWhenGone (wsV RX1 110 RX1 yX1_passNight wsX1_passNight) := goodIn_app (goodIn_of _ (by decide +kernel)) ggX1_dayWhenGone_X1_passNight
set_option maxRecDepth 20000 in
theorem ggX1_dayWhenGone_X2_hasStatus : GoodIn wsX1_dayWhenGone wsX2_hasStatus := goodIn_r _ [89, 8, 9, 10, 11, 6, 12, 13, 100, 101, 102, 103, 104, 105, 106] (by decide +kernel) (by decide +kernel)
set_option maxRecDepth 20000 in
theorem gX1_dayWhenGone_X2_hasStatus : GoodIn wsX1_dayWhenGone (wsV RX1 171 RX2 yX2_hasStatus wsX2_hasStatus) := goodIn_app (goodIn_of _ (by decide +kernel)) ggX1_dayWhenGone_X2_hasStatus
theorem dX1_dayWhenGone_0 : decode cX1_dayWhenGone 0 = .ok (.iconst 0, 1) := by decide +kernel
theorem dX1_dayWhenGone_1 : decode cX1_dayWhenGone 1 = .ok (.istore_n 2, 1) := by decide +kernel
theorem dX1_dayWhenGone_2 : decode cX1_dayWhenGone 2 = .ok (.iload_n 2, 1) := by decide +kernel
theorem dX1_dayWhenGone_3 : decode cX1_dayWhenGone 3 = .ok (.sipush 1000, 3) := by decide +kernel
theorem dX1_dayWhenGone_6 : decode cX1_dayWhenGone 6 = .ok (.if_icmp .ge 25, 3) := by decide +kernel
theorem dX1_dayWhenGone_9 : decode cX1_dayWhenGone 9 = .ok (.aload_n 0, 1) := by decide +kernel
theorem dX1_dayWhenGone_10 : decode cX1_dayWhenGone 10 = .ok (.getfield 21, 3) := by decide +kernel
theorem dX1_dayWhenGone_13 : decode cX1_dayWhenGone 13 = .ok (.iload_n 1, 1) := by decide +kernel
theorem dX1_dayWhenGone_14 : decode cX1_dayWhenGone 14 = .ok (.invokevirtual 168, 3) := by decide +kernel
theorem dX1_dayWhenGone_17 : decode cX1_dayWhenGone 17 = .ok (.ifCond .eq 14, 3) := by decide +kernel
theorem dX1_dayWhenGone_20 : decode cX1_dayWhenGone 20 = .ok (.aload_n 0, 1) := by decide +kernel
theorem dX1_dayWhenGone_21 : decode cX1_dayWhenGone 21 = .ok (.invokevirtual 110, 3) := by decide +kernel
theorem dX1_dayWhenGone_24 : decode cX1_dayWhenGone 24 = .ok (.pop, 1) := by decide +kernel
theorem dX1_dayWhenGone_25 : decode cX1_dayWhenGone 25 = .ok (.iinc 2 1, 3) := by decide +kernel
theorem dX1_dayWhenGone_28 : decode cX1_dayWhenGone 28 = .ok (.goto (-26), 3) := by decide +kernel
theorem dX1_dayWhenGone_31 : decode cX1_dayWhenGone 31 = .ok (.aload_n 0, 1) := by decide +kernel
theorem dX1_dayWhenGone_32 : decode cX1_dayWhenGone 32 = .ok (.getfield 21, 3) := by decide +kernel
theorem dX1_dayWhenGone_35 : decode cX1_dayWhenGone 35 = .ok (.iload_n 1, 1) := by decide +kernel
theorem dX1_dayWhenGone_36 : decode cX1_dayWhenGone 36 = .ok (.iconst 2, 1) := by decide +kernel
theorem dX1_dayWhenGone_37 : decode cX1_dayWhenGone 37 = .ok (.invokevirtual 171, 3) := by decide +kernel
theorem dX1_dayWhenGone_40 : decode cX1_dayWhenGone 40 = .ok (.ifCond .eq 12, 3) := by decide +kernel
theorem dX1_dayWhenGone_43 : decode cX1_dayWhenGone 43 = .ok (.aload_n 0, 1) := by decide +kernel
theorem dX1_dayWhenGone_44 : decode cX1_dayWhenGone 44 = .ok (.getfield 49, 3) := by decide +kernel
theorem dX1_dayWhenGone_47 : decode cX1_dayWhenGone 47 = .ok (.iconst 1, 1) := by decide +kernel
theorem dX1_dayWhenGone_48 : decode cX1_dayWhenGone 48 = .ok (.isub, 1) := by decide +kernel
theorem dX1_dayWhenGone_49 : decode cX1_dayWhenGone 49 = .ok (.goto 5, 3) := by decide +kernel
theorem dX1_dayWhenGone_52 : decode cX1_dayWhenGone 52 = .ok (.bipush (-4), 2) := by decide +kernel
theorem dX1_dayWhenGone_54 : decode cX1_dayWhenGone 54 = .ok (.ireturn, 1) := by decide +kernel
set_option maxRecDepth 20000 in
theorem ggX1_dayWhenOut_X2_anyAwaited : GoodIn wsX1_dayWhenOut wsX2_anyAwaited := goodIn_r _ [8, 9, 10, 92, 93, 94, 95, 96, 97, 98] (by decide +kernel) (by decide +kernel)
set_option maxRecDepth 20000 in
theorem gX1_dayWhenOut_X2_anyAwaited : GoodIn wsX1_dayWhenOut (wsV RX1 107 RX2 yX2_anyAwaited wsX2_anyAwaited) := goodIn_app (goodIn_of _ (by decide +kernel)) ggX1_dayWhenOut_X2_anyAwaited
set_option maxRecDepth 20000 in
theorem ggX1_dayWhenOut_X1_passNight : GoodIn wsX1_dayWhenOut wsX1_passNight := goodIn_r _ [15, 1, 3, 16, 2, 17, 18, 19, 20, 21, 22, 23, 24, 25, 26, 27, 14, 28, 29, 30, 31, 32, 7, 33, 9, 10, 34, 35, 36, 37, 38, 39, 40, 41, 42, 43, 44, 45, 46, 47, 48, 49, 50, 51, 52, 53, 54, 55, 56, 57, 58, 59, 60, 61, 62, 63, 64, 65, 66, 67, 68, 69, 70, 71, 72, 73, 74, 75, 76, 77, 78, 79, 80, 81, 82, 83, 84, 85, 86, 87, 88, 89, 90, 91, 92, 93, 94, 95, 96, 97, 98, 99, 100, 101, 102, 103, 104, 105, 106, 107, 108, 109] (by decide +kernel) (by decide +kernel)
set_option maxRecDepth 20000 in
theorem gX1_dayWhenOut_X1_passNight : GoodIn wsX1_dayWhenOut (wsV RX1 110 RX1 yX1_passNight wsX1_passNight) := goodIn_app (goodIn_of _ (by decide +kernel)) ggX1_dayWhenOut_X1_passNight
set_option maxRecDepth 20000 in
theorem ggX1_dayWhenOut_X4_stock : GoodIn wsX1_dayWhenOut wsX4_stock := goodIn_r _ [51, 52, 53, 54, 99, 100, 101, 102, 103, 104, 105, 106, 107, 108, 109] (by decide +kernel) (by decide +kernel)
set_option maxRecDepth 20000 in
theorem gX1_dayWhenOut_X4_stock : GoodIn wsX1_dayWhenOut (wsV RX1 134 RX4 yX4_stock wsX4_stock) := goodIn_app (goodIn_of _ (by decide +kernel)) ggX1_dayWhenOut_X4_stock
theorem dX1_dayWhenOut_0 : decode cX1_dayWhenOut 0 = .ok (.iconst 0, 1) := by decide +kernel
theorem dX1_dayWhenOut_1 : decode cX1_dayWhenOut 1 = .ok (.istore_n 2, 1) := by decide +kernel
theorem dX1_dayWhenOut_2 : decode cX1_dayWhenOut 2 = .ok (.iload_n 2, 1) := by decide +kernel
theorem dX1_dayWhenOut_3 : decode cX1_dayWhenOut 3 = .ok (.sipush 1000, 3) := by decide +kernel
theorem dX1_dayWhenOut_6 : decode cX1_dayWhenOut 6 = .ok (.if_icmp .ge 42, 3) := by decide +kernel
theorem dX1_dayWhenOut_9 : decode cX1_dayWhenOut 9 = .ok (.aload_n 0, 1) := by decide +kernel
theorem dX1_dayWhenOut_10 : decode cX1_dayWhenOut 10 = .ok (.getfield 21, 3) := by decide +kernel
theorem dX1_dayWhenOut_13 : decode cX1_dayWhenOut 13 = .ok (.invokevirtual 107, 3) := by decide +kernel
theorem dX1_dayWhenOut_16 : decode cX1_dayWhenOut 16 = .ok (.ifCond .eq 32, 3) := by decide +kernel
theorem dX1_dayWhenOut_19 : decode cX1_dayWhenOut 19 = .ok (.aload_n 0, 1) := by decide +kernel
theorem dX1_dayWhenOut_20 : decode cX1_dayWhenOut 20 = .ok (.invokevirtual 110, 3) := by decide +kernel
theorem dX1_dayWhenOut_23 : decode cX1_dayWhenOut 23 = .ok (.pop, 1) := by decide +kernel
theorem dX1_dayWhenOut_24 : decode cX1_dayWhenOut 24 = .ok (.aload_n 0, 1) := by decide +kernel
theorem dX1_dayWhenOut_25 : decode cX1_dayWhenOut 25 = .ok (.getfield 12, 3) := by decide +kernel
theorem dX1_dayWhenOut_28 : decode cX1_dayWhenOut 28 = .ok (.iload_n 1, 1) := by decide +kernel
theorem dX1_dayWhenOut_29 : decode cX1_dayWhenOut 29 = .ok (.invokevirtual 134, 3) := by decide +kernel
theorem dX1_dayWhenOut_32 : decode cX1_dayWhenOut 32 = .ok (.ifCond .ne 10, 3) := by decide +kernel
theorem dX1_dayWhenOut_35 : decode cX1_dayWhenOut 35 = .ok (.aload_n 0, 1) := by decide +kernel
theorem dX1_dayWhenOut_36 : decode cX1_dayWhenOut 36 = .ok (.getfield 49, 3) := by decide +kernel
theorem dX1_dayWhenOut_39 : decode cX1_dayWhenOut 39 = .ok (.iconst 1, 1) := by decide +kernel
theorem dX1_dayWhenOut_40 : decode cX1_dayWhenOut 40 = .ok (.isub, 1) := by decide +kernel
theorem dX1_dayWhenOut_41 : decode cX1_dayWhenOut 41 = .ok (.ireturn, 1) := by decide +kernel
theorem dX1_dayWhenOut_42 : decode cX1_dayWhenOut 42 = .ok (.iinc 2 1, 3) := by decide +kernel
theorem dX1_dayWhenOut_45 : decode cX1_dayWhenOut 45 = .ok (.goto (-43), 3) := by decide +kernel
theorem dX1_dayWhenOut_48 : decode cX1_dayWhenOut 48 = .ok (.bipush (-4), 2) := by decide +kernel
theorem dX1_dayWhenOut_50 : decode cX1_dayWhenOut 50 = .ok (.ireturn, 1) := by decide +kernel
theorem dX2_init_0 : decode cX2_init 0 = .ok (.aload_n 0, 1) := by decide +kernel
theorem dX2_init_1 : decode cX2_init 1 = .ok (.invokespecial 3, 3) := by decide +kernel
theorem dX2_init_4 : decode cX2_init 4 = .ok (.aload_n 0, 1) := by decide +kernel
theorem dX2_init_5 : decode cX2_init 5 = .ok (.bipush 17, 2) := by decide +kernel
theorem dX2_init_7 : decode cX2_init 7 = .ok (.newarray .int, 2) := by decide +kernel
theorem dX2_init_9 : decode cX2_init 9 = .ok (.putfield 9, 3) := by decide +kernel
theorem dX2_init_12 : decode cX2_init 12 = .ok (.aload_n 0, 1) := by decide +kernel
theorem dX2_init_13 : decode cX2_init 13 = .ok (.bipush 17, 2) := by decide +kernel
theorem dX2_init_15 : decode cX2_init 15 = .ok (.newarray .int, 2) := by decide +kernel
theorem dX2_init_17 : decode cX2_init 17 = .ok (.putfield 13, 3) := by decide +kernel
theorem dX2_init_20 : decode cX2_init 20 = .ok (.aload_n 0, 1) := by decide +kernel
theorem dX2_init_21 : decode cX2_init 21 = .ok (.bipush 17, 2) := by decide +kernel
theorem dX2_init_23 : decode cX2_init 23 = .ok (.newarray .int, 2) := by decide +kernel
theorem dX2_init_25 : decode cX2_init 25 = .ok (.putfield 16, 3) := by decide +kernel
theorem dX2_init_28 : decode cX2_init 28 = .ok (.aload_n 0, 1) := by decide +kernel
theorem dX2_init_29 : decode cX2_init 29 = .ok (.bipush 17, 2) := by decide +kernel
theorem dX2_init_31 : decode cX2_init 31 = .ok (.newarray .int, 2) := by decide +kernel
theorem dX2_init_33 : decode cX2_init 33 = .ok (.putfield 19, 3) := by decide +kernel
theorem dX2_init_36 : decode cX2_init 36 = .ok (.aload_n 0, 1) := by decide +kernel
theorem dX2_init_37 : decode cX2_init 37 = .ok (.bipush 17, 2) := by decide +kernel
theorem dX2_init_39 : decode cX2_init 39 = .ok (.newarray .int, 2) := by decide +kernel
theorem dX2_init_41 : decode cX2_init 41 = .ok (.putfield 22, 3) := by decide +kernel
theorem dX2_init_44 : decode cX2_init 44 = .ok (.aload_n 0, 1) := by decide +kernel
theorem dX2_init_45 : decode cX2_init 45 = .ok (.bipush 17, 2) := by decide +kernel
theorem dX2_init_47 : decode cX2_init 47 = .ok (.newarray .int, 2) := by decide +kernel
theorem dX2_init_49 : decode cX2_init 49 = .ok (.putfield 25, 3) := by decide +kernel
theorem dX2_init_52 : decode cX2_init 52 = .ok (.return_, 1) := by decide +kernel
theorem dX2_copyFrom_0 : decode cX2_copyFrom 0 = .ok (.aload_n 1, 1) := by decide +kernel
theorem dX2_copyFrom_1 : decode cX2_copyFrom 1 = .ok (.getfield 9, 3) := by decide +kernel
theorem dX2_copyFrom_4 : decode cX2_copyFrom 4 = .ok (.iconst 0, 1) := by decide +kernel
theorem dX2_copyFrom_5 : decode cX2_copyFrom 5 = .ok (.aload_n 0, 1) := by decide +kernel
theorem dX2_copyFrom_6 : decode cX2_copyFrom 6 = .ok (.getfield 9, 3) := by decide +kernel
theorem dX2_copyFrom_9 : decode cX2_copyFrom 9 = .ok (.iconst 0, 1) := by decide +kernel
theorem dX2_copyFrom_10 : decode cX2_copyFrom 10 = .ok (.bipush 17, 2) := by decide +kernel
theorem dX2_copyFrom_12 : decode cX2_copyFrom 12 = .ok (.invokestatic 28, 3) := by decide +kernel
theorem dX2_copyFrom_15 : decode cX2_copyFrom 15 = .ok (.aload_n 1, 1) := by decide +kernel
theorem dX2_copyFrom_16 : decode cX2_copyFrom 16 = .ok (.getfield 13, 3) := by decide +kernel
theorem dX2_copyFrom_19 : decode cX2_copyFrom 19 = .ok (.iconst 0, 1) := by decide +kernel
theorem dX2_copyFrom_20 : decode cX2_copyFrom 20 = .ok (.aload_n 0, 1) := by decide +kernel
theorem dX2_copyFrom_21 : decode cX2_copyFrom 21 = .ok (.getfield 13, 3) := by decide +kernel
theorem dX2_copyFrom_24 : decode cX2_copyFrom 24 = .ok (.iconst 0, 1) := by decide +kernel
theorem dX2_copyFrom_25 : decode cX2_copyFrom 25 = .ok (.bipush 17, 2) := by decide +kernel
theorem dX2_copyFrom_27 : decode cX2_copyFrom 27 = .ok (.invokestatic 28, 3) := by decide +kernel
theorem dX2_copyFrom_30 : decode cX2_copyFrom 30 = .ok (.aload_n 1, 1) := by decide +kernel
theorem dX2_copyFrom_31 : decode cX2_copyFrom 31 = .ok (.getfield 16, 3) := by decide +kernel
theorem dX2_copyFrom_34 : decode cX2_copyFrom 34 = .ok (.iconst 0, 1) := by decide +kernel
theorem dX2_copyFrom_35 : decode cX2_copyFrom 35 = .ok (.aload_n 0, 1) := by decide +kernel
theorem dX2_copyFrom_36 : decode cX2_copyFrom 36 = .ok (.getfield 16, 3) := by decide +kernel
theorem dX2_copyFrom_39 : decode cX2_copyFrom 39 = .ok (.iconst 0, 1) := by decide +kernel
theorem dX2_copyFrom_40 : decode cX2_copyFrom 40 = .ok (.bipush 17, 2) := by decide +kernel
theorem dX2_copyFrom_42 : decode cX2_copyFrom 42 = .ok (.invokestatic 28, 3) := by decide +kernel
theorem dX2_copyFrom_45 : decode cX2_copyFrom 45 = .ok (.aload_n 1, 1) := by decide +kernel
theorem dX2_copyFrom_46 : decode cX2_copyFrom 46 = .ok (.getfield 19, 3) := by decide +kernel
theorem dX2_copyFrom_49 : decode cX2_copyFrom 49 = .ok (.iconst 0, 1) := by decide +kernel
theorem dX2_copyFrom_50 : decode cX2_copyFrom 50 = .ok (.aload_n 0, 1) := by decide +kernel
theorem dX2_copyFrom_51 : decode cX2_copyFrom 51 = .ok (.getfield 19, 3) := by decide +kernel
theorem dX2_copyFrom_54 : decode cX2_copyFrom 54 = .ok (.iconst 0, 1) := by decide +kernel
theorem dX2_copyFrom_55 : decode cX2_copyFrom 55 = .ok (.bipush 17, 2) := by decide +kernel
theorem dX2_copyFrom_57 : decode cX2_copyFrom 57 = .ok (.invokestatic 28, 3) := by decide +kernel
theorem dX2_copyFrom_60 : decode cX2_copyFrom 60 = .ok (.aload_n 1, 1) := by decide +kernel
theorem dX2_copyFrom_61 : decode cX2_copyFrom 61 = .ok (.getfield 22, 3) := by decide +kernel
theorem dX2_copyFrom_64 : decode cX2_copyFrom 64 = .ok (.iconst 0, 1) := by decide +kernel
theorem dX2_copyFrom_65 : decode cX2_copyFrom 65 = .ok (.aload_n 0, 1) := by decide +kernel
theorem dX2_copyFrom_66 : decode cX2_copyFrom 66 = .ok (.getfield 22, 3) := by decide +kernel
theorem dX2_copyFrom_69 : decode cX2_copyFrom 69 = .ok (.iconst 0, 1) := by decide +kernel
theorem dX2_copyFrom_70 : decode cX2_copyFrom 70 = .ok (.bipush 17, 2) := by decide +kernel
theorem dX2_copyFrom_72 : decode cX2_copyFrom 72 = .ok (.invokestatic 28, 3) := by decide +kernel
theorem dX2_copyFrom_75 : decode cX2_copyFrom 75 = .ok (.aload_n 1, 1) := by decide +kernel
theorem dX2_copyFrom_76 : decode cX2_copyFrom 76 = .ok (.getfield 25, 3) := by decide +kernel
theorem dX2_copyFrom_79 : decode cX2_copyFrom 79 = .ok (.iconst 0, 1) := by decide +kernel
theorem dX2_copyFrom_80 : decode cX2_copyFrom 80 = .ok (.aload_n 0, 1) := by decide +kernel
theorem dX2_copyFrom_81 : decode cX2_copyFrom 81 = .ok (.getfield 25, 3) := by decide +kernel
theorem dX2_copyFrom_84 : decode cX2_copyFrom 84 = .ok (.iconst 0, 1) := by decide +kernel
theorem dX2_copyFrom_85 : decode cX2_copyFrom 85 = .ok (.bipush 17, 2) := by decide +kernel
theorem dX2_copyFrom_87 : decode cX2_copyFrom 87 = .ok (.invokestatic 28, 3) := by decide +kernel
theorem dX2_copyFrom_90 : decode cX2_copyFrom 90 = .ok (.aload_n 0, 1) := by decide +kernel
theorem dX2_copyFrom_91 : decode cX2_copyFrom 91 = .ok (.aload_n 1, 1) := by decide +kernel
theorem dX2_copyFrom_92 : decode cX2_copyFrom 92 = .ok (.getfield 34, 3) := by decide +kernel
theorem dX2_copyFrom_95 : decode cX2_copyFrom 95 = .ok (.putfield 34, 3) := by decide +kernel
theorem dX2_copyFrom_98 : decode cX2_copyFrom 98 = .ok (.return_, 1) := by decide +kernel
theorem dX2_has_0 : decode cX2_has 0 = .ok (.iload_n 1, 1) := by decide +kernel
theorem dX2_has_1 : decode cX2_has 1 = .ok (.ifCond .lt 15, 3) := by decide +kernel
theorem dX2_has_4 : decode cX2_has 4 = .ok (.iload_n 1, 1) := by decide +kernel
theorem dX2_has_5 : decode cX2_has 5 = .ok (.aload_n 0, 1) := by decide +kernel
theorem dX2_has_6 : decode cX2_has 6 = .ok (.getfield 34, 3) := by decide +kernel
theorem dX2_has_9 : decode cX2_has 9 = .ok (.if_icmp .ge 7, 3) := by decide +kernel
theorem dX2_has_12 : decode cX2_has 12 = .ok (.iconst 1, 1) := by decide +kernel
theorem dX2_has_13 : decode cX2_has 13 = .ok (.goto 4, 3) := by decide +kernel
theorem dX2_has_16 : decode cX2_has 16 = .ok (.iconst 0, 1) := by decide +kernel
theorem dX2_has_17 : decode cX2_has 17 = .ok (.ireturn, 1) := by decide +kernel
set_option maxRecDepth 20000 in
theorem ggX2_hasStatus_X2_has : GoodIn wsX2_hasStatus wsX2_has := goodIn_r _ [6, 7, 8, 9, 10, 11, 12, 13, 14] (by decide +kernel) (by decide +kernel)
set_option maxRecDepth 20000 in
theorem gX2_hasStatus_X2_has : GoodIn wsX2_hasStatus (wsV RX2 38 RX2 yX2_has wsX2_has) := goodIn_app (goodIn_of _ (by decide +kernel)) ggX2_hasStatus_X2_has
theorem dX2_hasStatus_0 : decode cX2_hasStatus 0 = .ok (.aload_n 0, 1) := by decide +kernel
theorem dX2_hasStatus_1 : decode cX2_hasStatus 1 = .ok (.iload_n 1, 1) := by decide +kernel
theorem dX2_hasStatus_2 : decode cX2_hasStatus 2 = .ok (.invokevirtual 38, 3) := by decide +kernel
theorem dX2_hasStatus_5 : decode cX2_hasStatus 5 = .ok (.ifCond .eq 17, 3) := by decide +kernel
theorem dX2_hasStatus_8 : decode cX2_hasStatus 8 = .ok (.aload_n 0, 1) := by decide +kernel
theorem dX2_hasStatus_9 : decode cX2_hasStatus 9 = .ok (.getfield 19, 3) := by decide +kernel
theorem dX2_hasStatus_12 : decode cX2_hasStatus 12 = .ok (.iload_n 1, 1) := by decide +kernel
theorem dX2_hasStatus_13 : decode cX2_hasStatus 13 = .ok (.iaload, 1) := by decide +kernel
theorem dX2_hasStatus_14 : decode cX2_hasStatus 14 = .ok (.iload_n 2, 1) := by decide +kernel
theorem dX2_hasStatus_15 : decode cX2_hasStatus 15 = .ok (.if_icmp .ne 7, 3) := by decide +kernel
theorem dX2_hasStatus_18 : decode cX2_hasStatus 18 = .ok (.iconst 1, 1) := by decide +kernel
theorem dX2_hasStatus_19 : decode cX2_hasStatus 19 = .ok (.goto 4, 3) := by decide +kernel
theorem dX2_hasStatus_22 : decode cX2_hasStatus 22 = .ok (.iconst 0, 1) := by decide +kernel
theorem dX2_hasStatus_23 : decode cX2_hasStatus 23 = .ok (.ireturn, 1) := by decide +kernel
set_option maxRecDepth 20000 in
theorem ggX2_isAwaited_X2_has : GoodIn wsX2_isAwaited wsX2_has := goodIn_r _ [6, 7, 8, 9, 10, 11, 12, 13, 14] (by decide +kernel) (by decide +kernel)
set_option maxRecDepth 20000 in
theorem gX2_isAwaited_X2_has : GoodIn wsX2_isAwaited (wsV RX2 38 RX2 yX2_has wsX2_has) := goodIn_app (goodIn_of _ (by decide +kernel)) ggX2_isAwaited_X2_has
theorem dX2_isAwaited_0 : decode cX2_isAwaited 0 = .ok (.aload_n 0, 1) := by decide +kernel
theorem dX2_isAwaited_1 : decode cX2_isAwaited 1 = .ok (.iload_n 1, 1) := by decide +kernel
theorem dX2_isAwaited_2 : decode cX2_isAwaited 2 = .ok (.invokevirtual 38, 3) := by decide +kernel
theorem dX2_isAwaited_5 : decode cX2_isAwaited 5 = .ok (.ifCond .eq 26, 3) := by decide +kernel
theorem dX2_isAwaited_8 : decode cX2_isAwaited 8 = .ok (.aload_n 0, 1) := by decide +kernel
theorem dX2_isAwaited_9 : decode cX2_isAwaited 9 = .ok (.getfield 19, 3) := by decide +kernel
theorem dX2_isAwaited_12 : decode cX2_isAwaited 12 = .ok (.iload_n 1, 1) := by decide +kernel
theorem dX2_isAwaited_13 : decode cX2_isAwaited 13 = .ok (.iaload, 1) := by decide +kernel
theorem dX2_isAwaited_14 : decode cX2_isAwaited 14 = .ok (.ifCond .eq 13, 3) := by decide +kernel
theorem dX2_isAwaited_17 : decode cX2_isAwaited 17 = .ok (.aload_n 0, 1) := by decide +kernel
theorem dX2_isAwaited_18 : decode cX2_isAwaited 18 = .ok (.getfield 19, 3) := by decide +kernel
theorem dX2_isAwaited_21 : decode cX2_isAwaited 21 = .ok (.iload_n 1, 1) := by decide +kernel
theorem dX2_isAwaited_22 : decode cX2_isAwaited 22 = .ok (.iaload, 1) := by decide +kernel
theorem dX2_isAwaited_23 : decode cX2_isAwaited 23 = .ok (.iconst 1, 1) := by decide +kernel
theorem dX2_isAwaited_24 : decode cX2_isAwaited 24 = .ok (.if_icmp .ne 7, 3) := by decide +kernel
theorem dX2_isAwaited_27 : decode cX2_isAwaited 27 = .ok (.iconst 1, 1) := by decide +kernel
theorem dX2_isAwaited_28 : decode cX2_isAwaited 28 = .ok (.goto 4, 3) := by decide +kernel
theorem dX2_isAwaited_31 : decode cX2_isAwaited 31 = .ok (.iconst 0, 1) := by decide +kernel
theorem dX2_isAwaited_32 : decode cX2_isAwaited 32 = .ok (.ireturn, 1) := by decide +kernel
theorem dX2_anyAwaited_0 : decode cX2_anyAwaited 0 = .ok (.iconst 0, 1) := by decide +kernel
theorem dX2_anyAwaited_1 : decode cX2_anyAwaited 1 = .ok (.istore_n 1, 1) := by decide +kernel
theorem dX2_anyAwaited_2 : decode cX2_anyAwaited 2 = .ok (.iload_n 1, 1) := by decide +kernel
theorem dX2_anyAwaited_3 : decode cX2_anyAwaited 3 = .ok (.aload_n 0, 1) := by decide +kernel
theorem dX2_anyAwaited_4 : decode cX2_anyAwaited 4 = .ok (.getfield 34, 3) := by decide +kernel
theorem dX2_anyAwaited_7 : decode cX2_anyAwaited 7 = .ok (.if_icmp .ge 30, 3) := by decide +kernel
theorem dX2_anyAwaited_10 : decode cX2_anyAwaited 10 = .ok (.aload_n 0, 1) := by decide +kernel
theorem dX2_anyAwaited_11 : decode cX2_anyAwaited 11 = .ok (.getfield 19, 3) := by decide +kernel
theorem dX2_anyAwaited_14 : decode cX2_anyAwaited 14 = .ok (.iload_n 1, 1) := by decide +kernel
theorem dX2_anyAwaited_15 : decode cX2_anyAwaited 15 = .ok (.iaload, 1) := by decide +kernel
theorem dX2_anyAwaited_16 : decode cX2_anyAwaited 16 = .ok (.ifCond .eq 13, 3) := by decide +kernel
theorem dX2_anyAwaited_19 : decode cX2_anyAwaited 19 = .ok (.aload_n 0, 1) := by decide +kernel
theorem dX2_anyAwaited_20 : decode cX2_anyAwaited 20 = .ok (.getfield 19, 3) := by decide +kernel
theorem dX2_anyAwaited_23 : decode cX2_anyAwaited 23 = .ok (.iload_n 1, 1) := by decide +kernel
theorem dX2_anyAwaited_24 : decode cX2_anyAwaited 24 = .ok (.iaload, 1) := by decide +kernel
theorem dX2_anyAwaited_25 : decode cX2_anyAwaited 25 = .ok (.iconst 1, 1) := by decide +kernel
theorem dX2_anyAwaited_26 : decode cX2_anyAwaited 26 = .ok (.if_icmp .ne 5, 3) := by decide +kernel
theorem dX2_anyAwaited_29 : decode cX2_anyAwaited 29 = .ok (.iconst 1, 1) := by decide +kernel
theorem dX2_anyAwaited_30 : decode cX2_anyAwaited 30 = .ok (.ireturn, 1) := by decide +kernel
theorem dX2_anyAwaited_31 : decode cX2_anyAwaited 31 = .ok (.iinc 1 1, 3) := by decide +kernel
theorem dX2_anyAwaited_34 : decode cX2_anyAwaited 34 = .ok (.goto (-32), 3) := by decide +kernel
theorem dX2_anyAwaited_37 : decode cX2_anyAwaited 37 = .ok (.iconst 0, 1) := by decide +kernel
theorem dX2_anyAwaited_38 : decode cX2_anyAwaited 38 = .ok (.ireturn, 1) := by decide +kernel
theorem dX2_withStatus_0 : decode cX2_withStatus 0 = .ok (.iconst 0, 1) := by decide +kernel
theorem dX2_withStatus_1 : decode cX2_withStatus 1 = .ok (.istore_n 2, 1) := by decide +kernel
theorem dX2_withStatus_2 : decode cX2_withStatus 2 = .ok (.iconst 0, 1) := by decide +kernel
theorem dX2_withStatus_3 : decode cX2_withStatus 3 = .ok (.istore_n 3, 1) := by decide +kernel
theorem dX2_withStatus_4 : decode cX2_withStatus 4 = .ok (.iload_n 3, 1) := by decide +kernel
theorem dX2_withStatus_5 : decode cX2_withStatus 5 = .ok (.aload_n 0, 1) := by decide +kernel
theorem dX2_withStatus_6 : decode cX2_withStatus 6 = .ok (.getfield 34, 3) := by decide +kernel
theorem dX2_withStatus_9 : decode cX2_withStatus 9 = .ok (.if_icmp .ge 22, 3) := by decide +kernel
theorem dX2_withStatus_12 : decode cX2_withStatus 12 = .ok (.aload_n 0, 1) := by decide +kernel
theorem dX2_withStatus_13 : decode cX2_withStatus 13 = .ok (.getfield 19, 3) := by decide +kernel
theorem dX2_withStatus_16 : decode cX2_withStatus 16 = .ok (.iload_n 3, 1) := by decide +kernel
theorem dX2_withStatus_17 : decode cX2_withStatus 17 = .ok (.iaload, 1) := by decide +kernel
theorem dX2_withStatus_18 : decode cX2_withStatus 18 = .ok (.iload_n 1, 1) := by decide +kernel
theorem dX2_withStatus_19 : decode cX2_withStatus 19 = .ok (.if_icmp .ne 6, 3) := by decide +kernel
theorem dX2_withStatus_22 : decode cX2_withStatus 22 = .ok (.iinc 2 1, 3) := by decide +kernel
theorem dX2_withStatus_25 : decode cX2_withStatus 25 = .ok (.iinc 3 1, 3) := by decide +kernel
theorem dX2_withStatus_28 : decode cX2_withStatus 28 = .ok (.goto (-24), 3) := by decide +kernel
theorem dX2_withStatus_31 : decode cX2_withStatus 31 = .ok (.iload_n 2, 1) := by decide +kernel
theorem dX2_withStatus_32 : decode cX2_withStatus 32 = .ok (.ireturn, 1) := by decide +kernel
theorem dX2_guests_0 : decode cX2_guests 0 = .ok (.iconst 0, 1) := by decide +kernel
theorem dX2_guests_1 : decode cX2_guests 1 = .ok (.istore_n 1, 1) := by decide +kernel
theorem dX2_guests_2 : decode cX2_guests 2 = .ok (.iconst 0, 1) := by decide +kernel
theorem dX2_guests_3 : decode cX2_guests 3 = .ok (.istore_n 2, 1) := by decide +kernel
theorem dX2_guests_4 : decode cX2_guests 4 = .ok (.iload_n 2, 1) := by decide +kernel
theorem dX2_guests_5 : decode cX2_guests 5 = .ok (.aload_n 0, 1) := by decide +kernel
theorem dX2_guests_6 : decode cX2_guests 6 = .ok (.getfield 34, 3) := by decide +kernel
theorem dX2_guests_9 : decode cX2_guests 9 = .ok (.if_icmp .ge 28, 3) := by decide +kernel
theorem dX2_guests_12 : decode cX2_guests 12 = .ok (.aload_n 0, 1) := by decide +kernel
theorem dX2_guests_13 : decode cX2_guests 13 = .ok (.getfield 19, 3) := by decide +kernel
theorem dX2_guests_16 : decode cX2_guests 16 = .ok (.iload_n 2, 1) := by decide +kernel
theorem dX2_guests_17 : decode cX2_guests 17 = .ok (.iaload, 1) := by decide +kernel
theorem dX2_guests_18 : decode cX2_guests 18 = .ok (.iconst 1, 1) := by decide +kernel
theorem dX2_guests_19 : decode cX2_guests 19 = .ok (.if_icmp .ne 12, 3) := by decide +kernel
theorem dX2_guests_22 : decode cX2_guests 22 = .ok (.iload_n 1, 1) := by decide +kernel
theorem dX2_guests_23 : decode cX2_guests 23 = .ok (.aload_n 0, 1) := by decide +kernel
theorem dX2_guests_24 : decode cX2_guests 24 = .ok (.getfield 9, 3) := by decide +kernel
theorem dX2_guests_27 : decode cX2_guests 27 = .ok (.iload_n 2, 1) := by decide +kernel
theorem dX2_guests_28 : decode cX2_guests 28 = .ok (.iaload, 1) := by decide +kernel
theorem dX2_guests_29 : decode cX2_guests 29 = .ok (.iadd, 1) := by decide +kernel
theorem dX2_guests_30 : decode cX2_guests 30 = .ok (.istore_n 1, 1) := by decide +kernel
theorem dX2_guests_31 : decode cX2_guests 31 = .ok (.iinc 2 1, 3) := by decide +kernel
theorem dX2_guests_34 : decode cX2_guests 34 = .ok (.goto (-30), 3) := by decide +kernel
theorem dX2_guests_37 : decode cX2_guests 37 = .ok (.iload_n 1, 1) := by decide +kernel
theorem dX2_guests_38 : decode cX2_guests 38 = .ok (.ireturn, 1) := by decide +kernel
theorem dX2_add_0 : decode cX2_add 0 = .ok (.aload_n 0, 1) := by decide +kernel
theorem dX2_add_1 : decode cX2_add 1 = .ok (.getfield 34, 3) := by decide +kernel
theorem dX2_add_4 : decode cX2_add 4 = .ok (.bipush 17, 2) := by decide +kernel
theorem dX2_add_6 : decode cX2_add 6 = .ok (.if_icmp .lt 4, 3) := by decide +kernel
theorem dX2_add_9 : decode cX2_add 9 = .ok (.return_, 1) := by decide +kernel
theorem dX2_add_10 : decode cX2_add 10 = .ok (.aload_n 0, 1) := by decide +kernel
theorem dX2_add_11 : decode cX2_add 11 = .ok (.getfield 9, 3) := by decide +kernel
theorem dX2_add_14 : decode cX2_add 14 = .ok (.aload_n 0, 1) := by decide +kernel
theorem dX2_add_15 : decode cX2_add 15 = .ok (.getfield 34, 3) := by decide +kernel
theorem dX2_add_18 : decode cX2_add 18 = .ok (.iload_n 1, 1) := by decide +kernel
theorem dX2_add_19 : decode cX2_add 19 = .ok (.iastore, 1) := by decide +kernel
theorem dX2_add_20 : decode cX2_add 20 = .ok (.aload_n 0, 1) := by decide +kernel
theorem dX2_add_21 : decode cX2_add 21 = .ok (.getfield 13, 3) := by decide +kernel
theorem dX2_add_24 : decode cX2_add 24 = .ok (.aload_n 0, 1) := by decide +kernel
theorem dX2_add_25 : decode cX2_add 25 = .ok (.getfield 34, 3) := by decide +kernel
theorem dX2_add_28 : decode cX2_add 28 = .ok (.iload_n 2, 1) := by decide +kernel
theorem dX2_add_29 : decode cX2_add 29 = .ok (.iastore, 1) := by decide +kernel
theorem dX2_add_30 : decode cX2_add 30 = .ok (.aload_n 0, 1) := by decide +kernel
theorem dX2_add_31 : decode cX2_add 31 = .ok (.getfield 16, 3) := by decide +kernel
theorem dX2_add_34 : decode cX2_add 34 = .ok (.aload_n 0, 1) := by decide +kernel
theorem dX2_add_35 : decode cX2_add 35 = .ok (.getfield 34, 3) := by decide +kernel
theorem dX2_add_38 : decode cX2_add 38 = .ok (.iload_n 3, 1) := by decide +kernel
theorem dX2_add_39 : decode cX2_add 39 = .ok (.iastore, 1) := by decide +kernel
theorem dX2_add_40 : decode cX2_add 40 = .ok (.aload_n 0, 1) := by decide +kernel
theorem dX2_add_41 : decode cX2_add 41 = .ok (.getfield 19, 3) := by decide +kernel
theorem dX2_add_44 : decode cX2_add 44 = .ok (.aload_n 0, 1) := by decide +kernel
theorem dX2_add_45 : decode cX2_add 45 = .ok (.getfield 34, 3) := by decide +kernel
theorem dX2_add_48 : decode cX2_add 48 = .ok (.iconst 0, 1) := by decide +kernel
theorem dX2_add_49 : decode cX2_add 49 = .ok (.iastore, 1) := by decide +kernel
theorem dX2_add_50 : decode cX2_add 50 = .ok (.aload_n 0, 1) := by decide +kernel
theorem dX2_add_51 : decode cX2_add 51 = .ok (.getfield 22, 3) := by decide +kernel
theorem dX2_add_54 : decode cX2_add 54 = .ok (.aload_n 0, 1) := by decide +kernel
theorem dX2_add_55 : decode cX2_add 55 = .ok (.getfield 34, 3) := by decide +kernel
theorem dX2_add_58 : decode cX2_add 58 = .ok (.iconst 0, 1) := by decide +kernel
theorem dX2_add_59 : decode cX2_add 59 = .ok (.iastore, 1) := by decide +kernel
theorem dX2_add_60 : decode cX2_add 60 = .ok (.aload_n 0, 1) := by decide +kernel
theorem dX2_add_61 : decode cX2_add 61 = .ok (.getfield 25, 3) := by decide +kernel
theorem dX2_add_64 : decode cX2_add 64 = .ok (.aload_n 0, 1) := by decide +kernel
theorem dX2_add_65 : decode cX2_add 65 = .ok (.getfield 34, 3) := by decide +kernel
theorem dX2_add_68 : decode cX2_add 68 = .ok (.iconst (-1), 1) := by decide +kernel
theorem dX2_add_69 : decode cX2_add 69 = .ok (.iastore, 1) := by decide +kernel
theorem dX2_add_70 : decode cX2_add 70 = .ok (.aload_n 0, 1) := by decide +kernel
theorem dX2_add_71 : decode cX2_add 71 = .ok (.dup, 1) := by decide +kernel
theorem dX2_add_72 : decode cX2_add 72 = .ok (.getfield 34, 3) := by decide +kernel
theorem dX2_add_75 : decode cX2_add 75 = .ok (.iconst 1, 1) := by decide +kernel
theorem dX2_add_76 : decode cX2_add 76 = .ok (.iadd, 1) := by decide +kernel
theorem dX2_add_77 : decode cX2_add 77 = .ok (.putfield 34, 3) := by decide +kernel
theorem dX2_add_80 : decode cX2_add 80 = .ok (.return_, 1) := by decide +kernel
theorem dX2_leave_0 : decode cX2_leave 0 = .ok (.iconst 0, 1) := by decide +kernel
theorem dX2_leave_1 : decode cX2_leave 1 = .ok (.istore_n 1, 1) := by decide +kernel
theorem dX2_leave_2 : decode cX2_leave 2 = .ok (.iload_n 1, 1) := by decide +kernel
theorem dX2_leave_3 : decode cX2_leave 3 = .ok (.aload_n 0, 1) := by decide +kernel
theorem dX2_leave_4 : decode cX2_leave 4 = .ok (.getfield 34, 3) := by decide +kernel
theorem dX2_leave_7 : decode cX2_leave 7 = .ok (.if_icmp .ge 41, 3) := by decide +kernel
theorem dX2_leave_10 : decode cX2_leave 10 = .ok (.aload_n 0, 1) := by decide +kernel
theorem dX2_leave_11 : decode cX2_leave 11 = .ok (.getfield 19, 3) := by decide +kernel
theorem dX2_leave_14 : decode cX2_leave 14 = .ok (.iload_n 1, 1) := by decide +kernel
theorem dX2_leave_15 : decode cX2_leave 15 = .ok (.iaload, 1) := by decide +kernel
theorem dX2_leave_16 : decode cX2_leave 16 = .ok (.iconst 1, 1) := by decide +kernel
theorem dX2_leave_17 : decode cX2_leave 17 = .ok (.if_icmp .ne 25, 3) := by decide +kernel
theorem dX2_leave_20 : decode cX2_leave 20 = .ok (.aload_n 0, 1) := by decide +kernel
theorem dX2_leave_21 : decode cX2_leave 21 = .ok (.getfield 22, 3) := by decide +kernel
theorem dX2_leave_24 : decode cX2_leave 24 = .ok (.iload_n 1, 1) := by decide +kernel
theorem dX2_leave_25 : decode cX2_leave 25 = .ok (.iaload, 1) := by decide +kernel
theorem dX2_leave_26 : decode cX2_leave 26 = .ok (.aload_n 0, 1) := by decide +kernel
theorem dX2_leave_27 : decode cX2_leave 27 = .ok (.getfield 16, 3) := by decide +kernel
theorem dX2_leave_30 : decode cX2_leave 30 = .ok (.iload_n 1, 1) := by decide +kernel
theorem dX2_leave_31 : decode cX2_leave 31 = .ok (.iaload, 1) := by decide +kernel
theorem dX2_leave_32 : decode cX2_leave 32 = .ok (.if_icmp .lt 10, 3) := by decide +kernel
theorem dX2_leave_35 : decode cX2_leave 35 = .ok (.aload_n 0, 1) := by decide +kernel
theorem dX2_leave_36 : decode cX2_leave 36 = .ok (.getfield 19, 3) := by decide +kernel
theorem dX2_leave_39 : decode cX2_leave 39 = .ok (.iload_n 1, 1) := by decide +kernel
theorem dX2_leave_40 : decode cX2_leave 40 = .ok (.iconst 2, 1) := by decide +kernel
theorem dX2_leave_41 : decode cX2_leave 41 = .ok (.iastore, 1) := by decide +kernel
theorem dX2_leave_42 : decode cX2_leave 42 = .ok (.iinc 1 1, 3) := by decide +kernel
theorem dX2_leave_45 : decode cX2_leave 45 = .ok (.goto (-43), 3) := by decide +kernel
theorem dX2_leave_48 : decode cX2_leave 48 = .ok (.return_, 1) := by decide +kernel
theorem dX2_arrive_0 : decode cX2_arrive 0 = .ok (.iconst 1, 1) := by decide +kernel
theorem dX2_arrive_1 : decode cX2_arrive 1 = .ok (.istore 4, 2) := by decide +kernel
theorem dX2_arrive_3 : decode cX2_arrive 3 = .ok (.iload_n 3, 1) := by decide +kernel
theorem dX2_arrive_4 : decode cX2_arrive 4 = .ok (.istore 5, 2) := by decide +kernel
theorem dX2_arrive_6 : decode cX2_arrive 6 = .ok (.iconst 0, 1) := by decide +kernel
theorem dX2_arrive_7 : decode cX2_arrive 7 = .ok (.istore 6, 2) := by decide +kernel
theorem dX2_arrive_9 : decode cX2_arrive 9 = .ok (.iload 6, 2) := by decide +kernel
theorem dX2_arrive_11 : decode cX2_arrive 11 = .ok (.aload_n 0, 1) := by decide +kernel
theorem dX2_arrive_12 : decode cX2_arrive 12 = .ok (.getfield 34, 3) := by decide +kernel
theorem dX2_arrive_15 : decode cX2_arrive 15 = .ok (.if_icmp .ge 125, 3) := by decide +kernel
theorem dX2_arrive_18 : decode cX2_arrive 18 = .ok (.aload_n 0, 1) := by decide +kernel
theorem dX2_arrive_19 : decode cX2_arrive 19 = .ok (.getfield 19, 3) := by decide +kernel
theorem dX2_arrive_22 : decode cX2_arrive 22 = .ok (.iload 6, 2) := by decide +kernel
theorem dX2_arrive_24 : decode cX2_arrive 24 = .ok (.iaload, 1) := by decide +kernel
theorem dX2_arrive_25 : decode cX2_arrive 25 = .ok (.ifCond .ne 109, 3) := by decide +kernel
theorem dX2_arrive_28 : decode cX2_arrive 28 = .ok (.aload_n 0, 1) := by decide +kernel
theorem dX2_arrive_29 : decode cX2_arrive 29 = .ok (.getfield 13, 3) := by decide +kernel
theorem dX2_arrive_32 : decode cX2_arrive 32 = .ok (.iload 6, 2) := by decide +kernel
theorem dX2_arrive_34 : decode cX2_arrive 34 = .ok (.iaload, 1) := by decide +kernel
theorem dX2_arrive_35 : decode cX2_arrive 35 = .ok (.iload_n 1, 1) := by decide +kernel
theorem dX2_arrive_36 : decode cX2_arrive 36 = .ok (.if_icmp .le 6, 3) := by decide +kernel
theorem dX2_arrive_39 : decode cX2_arrive 39 = .ok (.goto 95, 3) := by decide +kernel
theorem dX2_arrive_42 : decode cX2_arrive 42 = .ok (.aload_n 0, 1) := by decide +kernel
theorem dX2_arrive_43 : decode cX2_arrive 43 = .ok (.getfield 13, 3) := by decide +kernel
theorem dX2_arrive_46 : decode cX2_arrive 46 = .ok (.iload 6, 2) := by decide +kernel
theorem dX2_arrive_48 : decode cX2_arrive 48 = .ok (.iaload, 1) := by decide +kernel
theorem dX2_arrive_49 : decode cX2_arrive 49 = .ok (.aload_n 0, 1) := by decide +kernel
theorem dX2_arrive_50 : decode cX2_arrive 50 = .ok (.getfield 16, 3) := by decide +kernel
theorem dX2_arrive_53 : decode cX2_arrive 53 = .ok (.iload 6, 2) := by decide +kernel
theorem dX2_arrive_55 : decode cX2_arrive 55 = .ok (.iaload, 1) := by decide +kernel
theorem dX2_arrive_56 : decode cX2_arrive 56 = .ok (.iadd, 1) := by decide +kernel
theorem dX2_arrive_57 : decode cX2_arrive 57 = .ok (.iload_n 1, 1) := by decide +kernel
theorem dX2_arrive_58 : decode cX2_arrive 58 = .ok (.if_icmp .gt 14, 3) := by decide +kernel
theorem dX2_arrive_61 : decode cX2_arrive 61 = .ok (.aload_n 0, 1) := by decide +kernel
theorem dX2_arrive_62 : decode cX2_arrive 62 = .ok (.getfield 19, 3) := by decide +kernel
theorem dX2_arrive_65 : decode cX2_arrive 65 = .ok (.iload 6, 2) := by decide +kernel
theorem dX2_arrive_67 : decode cX2_arrive 67 = .ok (.iconst 3, 1) := by decide +kernel
theorem dX2_arrive_68 : decode cX2_arrive 68 = .ok (.iastore, 1) := by decide +kernel
theorem dX2_arrive_69 : decode cX2_arrive 69 = .ok (.goto 65, 3) := by decide +kernel
theorem dX2_arrive_72 : decode cX2_arrive 72 = .ok (.iload_n 2, 1) := by decide +kernel
theorem dX2_arrive_73 : decode cX2_arrive 73 = .ok (.ifCond .ne 46, 3) := by decide +kernel
theorem dX2_arrive_76 : decode cX2_arrive 76 = .ok (.aload_n 0, 1) := by decide +kernel
theorem dX2_arrive_77 : decode cX2_arrive 77 = .ok (.getfield 9, 3) := by decide +kernel
theorem dX2_arrive_80 : decode cX2_arrive 80 = .ok (.iload 6, 2) := by decide +kernel
theorem dX2_arrive_82 : decode cX2_arrive 82 = .ok (.iaload, 1) := by decide +kernel
theorem dX2_arrive_83 : decode cX2_arrive 83 = .ok (.iload 5, 2) := by decide +kernel
theorem dX2_arrive_85 : decode cX2_arrive 85 = .ok (.if_icmp .gt 34, 3) := by decide +kernel
theorem dX2_arrive_88 : decode cX2_arrive 88 = .ok (.aload_n 0, 1) := by decide +kernel
theorem dX2_arrive_89 : decode cX2_arrive 89 = .ok (.getfield 19, 3) := by decide +kernel
theorem dX2_arrive_92 : decode cX2_arrive 92 = .ok (.iload 6, 2) := by decide +kernel
theorem dX2_arrive_94 : decode cX2_arrive 94 = .ok (.iconst 1, 1) := by decide +kernel
theorem dX2_arrive_95 : decode cX2_arrive 95 = .ok (.iastore, 1) := by decide +kernel
theorem dX2_arrive_96 : decode cX2_arrive 96 = .ok (.aload_n 0, 1) := by decide +kernel
theorem dX2_arrive_97 : decode cX2_arrive 97 = .ok (.getfield 25, 3) := by decide +kernel
theorem dX2_arrive_100 : decode cX2_arrive 100 = .ok (.iload 6, 2) := by decide +kernel
theorem dX2_arrive_102 : decode cX2_arrive 102 = .ok (.iload_n 1, 1) := by decide +kernel
theorem dX2_arrive_103 : decode cX2_arrive 103 = .ok (.iastore, 1) := by decide +kernel
theorem dX2_arrive_104 : decode cX2_arrive 104 = .ok (.iload 5, 2) := by decide +kernel
theorem dX2_arrive_106 : decode cX2_arrive 106 = .ok (.aload_n 0, 1) := by decide +kernel
theorem dX2_arrive_107 : decode cX2_arrive 107 = .ok (.getfield 9, 3) := by decide +kernel
theorem dX2_arrive_110 : decode cX2_arrive 110 = .ok (.iload 6, 2) := by decide +kernel
theorem dX2_arrive_112 : decode cX2_arrive 112 = .ok (.iaload, 1) := by decide +kernel
theorem dX2_arrive_113 : decode cX2_arrive 113 = .ok (.isub, 1) := by decide +kernel
theorem dX2_arrive_114 : decode cX2_arrive 114 = .ok (.istore 5, 2) := by decide +kernel
theorem dX2_arrive_116 : decode cX2_arrive 116 = .ok (.goto 18, 3) := by decide +kernel
theorem dX2_arrive_119 : decode cX2_arrive 119 = .ok (.iload_n 2, 1) := by decide +kernel
theorem dX2_arrive_120 : decode cX2_arrive 120 = .ok (.ifCond .ne 14, 3) := by decide +kernel
theorem dX2_arrive_123 : decode cX2_arrive 123 = .ok (.aload_n 0, 1) := by decide +kernel
theorem dX2_arrive_124 : decode cX2_arrive 124 = .ok (.getfield 19, 3) := by decide +kernel
theorem dX2_arrive_127 : decode cX2_arrive 127 = .ok (.iload 6, 2) := by decide +kernel
theorem dX2_arrive_129 : decode cX2_arrive 129 = .ok (.iconst 3, 1) := by decide +kernel
theorem dX2_arrive_130 : decode cX2_arrive 130 = .ok (.iastore, 1) := by decide +kernel
theorem dX2_arrive_131 : decode cX2_arrive 131 = .ok (.iconst 0, 1) := by decide +kernel
theorem dX2_arrive_132 : decode cX2_arrive 132 = .ok (.istore 4, 2) := by decide +kernel
theorem dX2_arrive_134 : decode cX2_arrive 134 = .ok (.iinc 6 1, 3) := by decide +kernel
theorem dX2_arrive_137 : decode cX2_arrive 137 = .ok (.goto (-128), 3) := by decide +kernel
theorem dX2_arrive_140 : decode cX2_arrive 140 = .ok (.iload 4, 2) := by decide +kernel
theorem dX2_arrive_142 : decode cX2_arrive 142 = .ok (.ireturn, 1) := by decide +kernel
theorem dX2_sleepOnce_0 : decode cX2_sleepOnce 0 = .ok (.iconst 0, 1) := by decide +kernel
theorem dX2_sleepOnce_1 : decode cX2_sleepOnce 1 = .ok (.istore_n 1, 1) := by decide +kernel
theorem dX2_sleepOnce_2 : decode cX2_sleepOnce 2 = .ok (.iload_n 1, 1) := by decide +kernel
theorem dX2_sleepOnce_3 : decode cX2_sleepOnce 3 = .ok (.aload_n 0, 1) := by decide +kernel
theorem dX2_sleepOnce_4 : decode cX2_sleepOnce 4 = .ok (.getfield 34, 3) := by decide +kernel
theorem dX2_sleepOnce_7 : decode cX2_sleepOnce 7 = .ok (.if_icmp .ge 29, 3) := by decide +kernel
theorem dX2_sleepOnce_10 : decode cX2_sleepOnce 10 = .ok (.aload_n 0, 1) := by decide +kernel
theorem dX2_sleepOnce_11 : decode cX2_sleepOnce 11 = .ok (.getfield 19, 3) := by decide +kernel
theorem dX2_sleepOnce_14 : decode cX2_sleepOnce 14 = .ok (.iload_n 1, 1) := by decide +kernel
theorem dX2_sleepOnce_15 : decode cX2_sleepOnce 15 = .ok (.iaload, 1) := by decide +kernel
theorem dX2_sleepOnce_16 : decode cX2_sleepOnce 16 = .ok (.iconst 1, 1) := by decide +kernel
theorem dX2_sleepOnce_17 : decode cX2_sleepOnce 17 = .ok (.if_icmp .ne 13, 3) := by decide +kernel
theorem dX2_sleepOnce_20 : decode cX2_sleepOnce 20 = .ok (.aload_n 0, 1) := by decide +kernel
theorem dX2_sleepOnce_21 : decode cX2_sleepOnce 21 = .ok (.getfield 22, 3) := by decide +kernel
theorem dX2_sleepOnce_24 : decode cX2_sleepOnce 24 = .ok (.iload_n 1, 1) := by decide +kernel
theorem dX2_sleepOnce_25 : decode cX2_sleepOnce 25 = .ok (.dup2, 1) := by decide +kernel
theorem dX2_sleepOnce_26 : decode cX2_sleepOnce 26 = .ok (.iaload, 1) := by decide +kernel
theorem dX2_sleepOnce_27 : decode cX2_sleepOnce 27 = .ok (.iconst 1, 1) := by decide +kernel
theorem dX2_sleepOnce_28 : decode cX2_sleepOnce 28 = .ok (.iadd, 1) := by decide +kernel
theorem dX2_sleepOnce_29 : decode cX2_sleepOnce 29 = .ok (.iastore, 1) := by decide +kernel
theorem dX2_sleepOnce_30 : decode cX2_sleepOnce 30 = .ok (.iinc 1 1, 3) := by decide +kernel
theorem dX2_sleepOnce_33 : decode cX2_sleepOnce 33 = .ok (.goto (-31), 3) := by decide +kernel
theorem dX2_sleepOnce_36 : decode cX2_sleepOnce 36 = .ok (.return_, 1) := by decide +kernel
set_option maxRecDepth 20000 in
theorem ggX3_init_X1_init : GoodIn wsX3_init wsX1_init := goodIn_r _ [11, 12, 2, 3, 13, 14, 15, 16, 17, 18, 19, 20, 21, 22, 23, 24, 25, 26, 27, 28, 29, 30, 31, 32, 33, 34, 35, 36, 37, 38, 39, 40, 41, 42, 43, 44, 45, 46, 47, 48, 65, 66, 67, 68, 69, 70, 71, 72, 73, 74, 75, 49, 50, 51, 52, 53, 54, 55, 56, 57, 58, 76, 77, 78, 79, 80, 81, 82] (by decide +kernel) (by decide +kernel)
set_option maxRecDepth 20000 in
theorem gX3_init_X1_init : GoodIn wsX3_init (wsX1_init) := ggX3_init_X1_init
theorem dX3_init_0 : decode cX3_init 0 = .ok (.aload_n 0, 1) := by decide +kernel
theorem dX3_init_1 : decode cX3_init 1 = .ok (.invokespecial 3, 3) := by decide +kernel
theorem dX3_init_4 : decode cX3_init 4 = .ok (.aload_n 0, 1) := by decide +kernel
theorem dX3_init_5 : decode cX3_init 5 = .ok (.new 9, 3) := by decide +kernel
theorem dX3_init_8 : decode cX3_init 8 = .ok (.dup, 1) := by decide +kernel
theorem dX3_init_9 : decode cX3_init 9 = .ok (.invokespecial 11, 3) := by decide +kernel
theorem dX3_init_12 : decode cX3_init 12 = .ok (.putfield 12, 3) := by decide +kernel
theorem dX3_init_15 : decode cX3_init 15 = .ok (.aload_n 0, 1) := by decide +kernel
theorem dX3_init_16 : decode cX3_init 16 = .ok (.aload_n 1, 1) := by decide +kernel
theorem dX3_init_17 : decode cX3_init 17 = .ok (.putfield 18, 3) := by decide +kernel
theorem dX3_init_20 : decode cX3_init 20 = .ok (.return_, 1) := by decide +kernel
set_option maxRecDepth 20000 in
theorem ggX3_run_X1_copyFrom : GoodIn wsX3_run wsX1_copyFrom := goodIn_r _ [14, 15, 16, 17, 18, 19, 20, 21, 22, 23, 24, 25, 26, 27, 28, 29, 30, 31, 32, 33, 34, 35, 36, 37, 38, 39, 40, 41, 42, 43, 44, 45, 46, 47, 48, 49, 50, 51, 52, 53, 54, 55, 56, 57, 58, 226, 227, 228, 229, 230, 231, 232, 233, 234, 235, 236, 237, 238, 239, 240, 241, 242, 243, 244, 245, 246, 247, 248, 249, 250, 251, 252, 253] (by decide +kernel) (by decide +kernel)
set_option maxRecDepth 20000 in
theorem gX3_run_X1_copyFrom : GoodIn wsX3_run (wsV RX3 21 RX1 yX1_copyFrom wsX1_copyFrom) := goodIn_app (goodIn_of _ (by decide +kernel)) ggX3_run_X1_copyFrom
set_option maxRecDepth 20000 in
theorem ggX3_run_X5_readCommand : GoodIn wsX3_run wsX5_readCommand := goodIn_r _ [63, 64, 65, 66, 67, 68, 69, 62, 70, 71, 72, 73, 74, 75, 76, 77, 78, 79, 80, 81, 82, 83, 84, 85, 86, 87, 88, 221, 222, 223, 224, 225] (by decide +kernel) (by decide +kernel)
set_option maxRecDepth 20000 in
theorem gX3_run_X5_readCommand : GoodIn wsX3_run (wsV RX3 43 RX5 yX5_readCommand wsX5_readCommand) := goodIn_app (goodIn_of _ (by decide +kernel)) ggX3_run_X5_readCommand
set_option maxRecDepth 20000 in
theorem ggX3_run_X3_obey : GoodIn wsX3_run wsX3_obey := goodIn_r _ [93, 1, 94, 95, 96, 97, 13, 98, 15, 99, 100, 101, 32, 102, 103, 104, 105, 106, 45, 38, 39, 40, 107, 108, 109, 110, 24, 22, 111, 23, 112, 113, 114, 115, 17, 116, 117, 118, 119, 120, 121, 122, 123, 44, 37, 34, 36, 41, 124, 125, 126, 127, 128, 16, 129, 130, 131, 132, 133, 134, 135, 136, 137, 138, 11, 12, 14, 18, 19, 20, 21, 25, 26, 27, 28, 29, 30, 31, 33, 35, 42, 43, 46, 47, 48, 49, 50, 51, 52, 53, 54, 55, 56, 57, 58, 139, 140, 141, 142, 143, 144, 145, 146, 147, 148, 149, 150, 151, 152, 87, 153, 154, 155, 156, 157, 158, 159, 160, 161, 162, 163, 164, 165, 166, 167, 168, 169, 170, 171, 172, 173, 174, 175, 176, 177, 178, 179, 180, 181, 182, 183, 184, 185, 186, 187, 188, 189, 190, 191, 192, 193, 194, 195, 196, 197, 198, 199, 200, 201, 202, 203, 204, 205, 206, 207, 208, 209, 210, 211, 212, 213, 214, 215, 216, 217, 218, 219, 220, 226, 227, 228, 229, 230, 231, 232, 233, 234, 235, 236, 237, 238, 239, 240, 241, 242, 243, 244, 245, 246, 247, 248, 249, 250, 251, 252, 253] (by decide +kernel) (by decide +kernel)
set_option maxRecDepth 20000 in
theorem gX3_run_X3_obey : GoodIn wsX3_run (wsV RX3 55 RX3 yX3_obey wsX3_obey) := goodIn_app (goodIn_of _ (by decide +kernel)) ggX3_run_X3_obey
theorem dX3_run_0 : decode cX3_run 0 = .ok (.aload_n 0, 1) := by decide +kernel
theorem dX3_run_1 : decode cX3_run 1 = .ok (.getfield 12, 3) := by decide +kernel
theorem dX3_run_4 : decode cX3_run 4 = .ok (.aload_n 2, 1) := by decide +kernel
theorem dX3_run_5 : decode cX3_run 5 = .ok (.invokevirtual 21, 3) := by decide +kernel
theorem dX3_run_8 : decode cX3_run 8 = .ok (.aload_n 0, 1) := by decide +kernel
theorem dX3_run_9 : decode cX3_run 9 = .ok (.iconst 0, 1) := by decide +kernel
theorem dX3_run_10 : decode cX3_run 10 = .ok (.putfield 25, 3) := by decide +kernel
theorem dX3_run_13 : decode cX3_run 13 = .ok (.aload_n 0, 1) := by decide +kernel
theorem dX3_run_14 : decode cX3_run 14 = .ok (.iconst 0, 1) := by decide +kernel
theorem dX3_run_15 : decode cX3_run 15 = .ok (.putfield 29, 3) := by decide +kernel
theorem dX3_run_18 : decode cX3_run 18 = .ok (.aload_n 0, 1) := by decide +kernel
theorem dX3_run_19 : decode cX3_run 19 = .ok (.iconst 0, 1) := by decide +kernel
theorem dX3_run_20 : decode cX3_run 20 = .ok (.putfield 32, 3) := by decide +kernel
theorem dX3_run_23 : decode cX3_run 23 = .ok (.aload_n 0, 1) := by decide +kernel
theorem dX3_run_24 : decode cX3_run 24 = .ok (.iconst 0, 1) := by decide +kernel
theorem dX3_run_25 : decode cX3_run 25 = .ok (.putfield 35, 3) := by decide +kernel
theorem dX3_run_28 : decode cX3_run 28 = .ok (.iconst 0, 1) := by decide +kernel
theorem dX3_run_29 : decode cX3_run 29 = .ok (.istore_n 3, 1) := by decide +kernel
theorem dX3_run_30 : decode cX3_run 30 = .ok (.iload_n 3, 1) := by decide +kernel
theorem dX3_run_31 : decode cX3_run 31 = .ok (.bipush 60, 2) := by decide +kernel
theorem dX3_run_33 : decode cX3_run 33 = .ok (.if_icmp .ge 86, 3) := by decide +kernel
theorem dX3_run_36 : decode cX3_run 36 = .ok (.aload_n 0, 1) := by decide +kernel
theorem dX3_run_37 : decode cX3_run 37 = .ok (.getfield 29, 3) := by decide +kernel
theorem dX3_run_40 : decode cX3_run 40 = .ok (.aload_n 1, 1) := by decide +kernel
theorem dX3_run_41 : decode cX3_run 41 = .ok (.getfield 40, 3) := by decide +kernel
theorem dX3_run_44 : decode cX3_run 44 = .ok (.if_icmp .ge 75, 3) := by decide +kernel
theorem dX3_run_47 : decode cX3_run 47 = .ok (.aload_n 1, 1) := by decide +kernel
theorem dX3_run_48 : decode cX3_run 48 = .ok (.aload_n 0, 1) := by decide +kernel
theorem dX3_run_49 : decode cX3_run 49 = .ok (.getfield 29, 3) := by decide +kernel
theorem dX3_run_52 : decode cX3_run 52 = .ok (.invokevirtual 43, 3) := by decide +kernel
theorem dX3_run_55 : decode cX3_run 55 = .ok (.ifCond .ne 9, 3) := by decide +kernel
theorem dX3_run_58 : decode cX3_run 58 = .ok (.aload_n 0, 1) := by decide +kernel
theorem dX3_run_59 : decode cX3_run 59 = .ok (.iconst 1, 1) := by decide +kernel
theorem dX3_run_60 : decode cX3_run 60 = .ok (.putfield 32, 3) := by decide +kernel
theorem dX3_run_63 : decode cX3_run 63 = .ok (.return_, 1) := by decide +kernel
theorem dX3_run_64 : decode cX3_run 64 = .ok (.aload_n 0, 1) := by decide +kernel
theorem dX3_run_65 : decode cX3_run 65 = .ok (.aload_n 1, 1) := by decide +kernel
theorem dX3_run_66 : decode cX3_run 66 = .ok (.getfield 47, 3) := by decide +kernel
theorem dX3_run_69 : decode cX3_run 69 = .ok (.aload_n 1, 1) := by decide +kernel
theorem dX3_run_70 : decode cX3_run 70 = .ok (.getfield 51, 3) := by decide +kernel
theorem dX3_run_73 : decode cX3_run 73 = .ok (.invokevirtual 55, 3) := by decide +kernel
theorem dX3_run_76 : decode cX3_run 76 = .ok (.istore 4, 2) := by decide +kernel
theorem dX3_run_78 : decode cX3_run 78 = .ok (.iload 4, 2) := by decide +kernel
theorem dX3_run_80 : decode cX3_run 80 = .ok (.ifCond .ge 15, 3) := by decide +kernel
theorem dX3_run_83 : decode cX3_run 83 = .ok (.aload_n 0, 1) := by decide +kernel
theorem dX3_run_84 : decode cX3_run 84 = .ok (.iconst 2, 1) := by decide +kernel
theorem dX3_run_85 : decode cX3_run 85 = .ok (.putfield 32, 3) := by decide +kernel
theorem dX3_run_88 : decode cX3_run 88 = .ok (.aload_n 0, 1) := by decide +kernel
theorem dX3_run_89 : decode cX3_run 89 = .ok (.iload 4, 2) := by decide +kernel
theorem dX3_run_91 : decode cX3_run 91 = .ok (.putfield 35, 3) := by decide +kernel
theorem dX3_run_94 : decode cX3_run 94 = .ok (.return_, 1) := by decide +kernel
theorem dX3_run_95 : decode cX3_run 95 = .ok (.aload_n 0, 1) := by decide +kernel
theorem dX3_run_96 : decode cX3_run 96 = .ok (.dup, 1) := by decide +kernel
theorem dX3_run_97 : decode cX3_run 97 = .ok (.getfield 25, 3) := by decide +kernel
theorem dX3_run_100 : decode cX3_run 100 = .ok (.iconst 1, 1) := by decide +kernel
theorem dX3_run_101 : decode cX3_run 101 = .ok (.iadd, 1) := by decide +kernel
theorem dX3_run_102 : decode cX3_run 102 = .ok (.putfield 25, 3) := by decide +kernel
theorem dX3_run_105 : decode cX3_run 105 = .ok (.aload_n 0, 1) := by decide +kernel
theorem dX3_run_106 : decode cX3_run 106 = .ok (.aload_n 1, 1) := by decide +kernel
theorem dX3_run_107 : decode cX3_run 107 = .ok (.getfield 59, 3) := by decide +kernel
theorem dX3_run_110 : decode cX3_run 110 = .ok (.putfield 29, 3) := by decide +kernel
theorem dX3_run_113 : decode cX3_run 113 = .ok (.iinc 3 1, 3) := by decide +kernel
theorem dX3_run_116 : decode cX3_run 116 = .ok (.goto (-86), 3) := by decide +kernel
theorem dX3_run_119 : decode cX3_run 119 = .ok (.return_, 1) := by decide +kernel
set_option maxRecDepth 20000 in
theorem ggX3_obey_X1_putOnPallet : GoodIn wsX3_obey wsX1_putOnPallet := goodIn_r _ [7, 8, 9, 10, 11, 12, 13, 14, 15, 16, 17, 18, 19, 20, 21, 178, 179, 180, 181, 182, 183, 184, 185, 186, 187, 188, 189, 190, 191, 192, 193, 194, 195, 196, 197, 198] (by decide +kernel) (by decide +kernel)
set_option maxRecDepth 20000 in
theorem gX3_obey_X1_putOnPallet : GoodIn wsX3_obey (wsV RX3 62 RX1 yX1_putOnPallet wsX1_putOnPallet) := goodIn_app (goodIn_of _ (by decide +kernel)) ggX3_obey_X1_putOnPallet
set_option maxRecDepth 20000 in
theorem ggX3_obey_X1_bringPallet : GoodIn wsX3_obey wsX1_bringPallet := goodIn_r _ [25, 8, 9, 26, 27, 28, 29, 30, 31, 32, 6, 33, 34, 35, 36, 37, 12, 38, 18, 19, 20, 21, 39, 40, 41, 42, 43, 44, 45, 46, 47, 48, 11, 13, 178, 179, 180, 181, 182, 183, 184, 185, 186, 187, 188, 189, 190, 191, 192, 193, 194, 195, 196, 197, 198] (by decide +kernel) (by decide +kernel)
set_option maxRecDepth 20000 in
theorem gX3_obey_X1_bringPallet : GoodIn wsX3_obey (wsV RX3 66 RX1 yX1_bringPallet wsX1_bringPallet) := goodIn_app (goodIn_of _ (by decide +kernel)) ggX3_obey_X1_bringPallet
set_option maxRecDepth 20000 in
theorem ggX3_obey_X1_takeBooking : GoodIn wsX3_obey wsX1_takeBooking := goodIn_r _ [52, 53, 54, 55, 56, 57, 6, 58, 29, 59, 60, 61, 62, 63, 64, 65, 66, 8, 34, 67, 68, 69, 70, 27, 26, 71, 72, 73, 74, 75, 76, 77, 12, 78, 45, 79, 46, 44, 19, 20, 21, 47, 80, 81, 43, 18, 82, 83, 84, 85, 86, 87, 88, 89, 90, 91, 92, 93, 94, 95, 96, 97, 98, 99, 100, 101, 102, 103, 104, 105, 106, 107, 108, 109, 110, 30, 31, 32, 33, 111, 112, 113, 114, 115, 116, 117, 118, 119, 120, 121, 122, 123, 124, 125, 126, 127, 128, 129, 130, 131, 132, 133, 134, 135, 136, 137, 138, 139, 140, 141, 142, 143, 144, 145, 146, 147, 148, 149, 150, 178, 179, 180, 181, 182, 183, 184, 185, 186, 187, 199, 200, 201, 202, 203, 204, 205, 188, 189, 190, 191, 192, 193, 194, 195, 196, 197, 198] (by decide +kernel) (by decide +kernel)
set_option maxRecDepth 20000 in
theorem gX3_obey_X1_takeBooking : GoodIn wsX3_obey (wsV RX3 70 RX1 yX1_takeBooking wsX1_takeBooking) := goodIn_app (goodIn_of _ (by decide +kernel)) ggX3_obey_X1_takeBooking
set_option maxRecDepth 20000 in
theorem ggX3_obey_X1_callOff : GoodIn wsX3_obey wsX1_callOff := goodIn_r _ [154, 53, 155, 156, 157, 158, 85, 159, 94, 160, 161, 162, 163, 91, 178, 179, 180, 181, 182, 183, 184, 185, 186, 187, 199, 200, 201, 202, 203, 204, 205] (by decide +kernel) (by decide +kernel)
set_option maxRecDepth 20000 in
theorem gX3_obey_X1_callOff : GoodIn wsX3_obey (wsV RX3 74 RX1 yX1_callOff wsX1_callOff) := goodIn_app (goodIn_of _ (by decide +kernel)) ggX3_obey_X1_callOff
set_option maxRecDepth 20000 in
theorem ggX3_obey_X1_tellStorm : GoodIn wsX3_obey wsX1_tellStorm := goodIn_r _ [167, 29, 34, 178, 179, 180, 181, 182, 183, 184, 185, 186, 187] (by decide +kernel) (by decide +kernel)
set_option maxRecDepth 20000 in
theorem gX3_obey_X1_tellStorm : GoodIn wsX3_obey (wsV RX3 78 RX1 yX1_tellStorm wsX1_tellStorm) := goodIn_app (goodIn_of _ (by decide +kernel)) ggX3_obey_X1_tellStorm
set_option maxRecDepth 20000 in
theorem ggX3_obey_X1_passNights : GoodIn wsX3_obey wsX1_passNights := goodIn_r _ [171, 29, 71, 103, 104, 105, 6, 106, 53, 27, 8, 74, 107, 108, 109, 110, 72, 73, 30, 31, 32, 33, 34, 111, 112, 113, 85, 114, 94, 91, 92, 90, 115, 116, 117, 118, 87, 119, 120, 121, 122, 89, 93, 123, 124, 125, 12, 126, 43, 45, 46, 127, 128, 129, 130, 131, 132, 133, 134, 80, 135, 136, 137, 138, 139, 140, 141, 142, 143, 144, 145, 146, 44, 81, 147, 148, 149, 150, 178, 179, 180, 181, 182, 183, 184, 185, 186, 187, 199, 200, 201, 202, 203, 204, 205, 188, 189, 190, 191, 192, 193, 194, 195, 196, 197, 198] (by decide +kernel) (by decide +kernel)
set_option maxRecDepth 20000 in
theorem gX3_obey_X1_passNights : GoodIn wsX3_obey (wsV RX3 82 RX1 yX1_passNights wsX1_passNights) := goodIn_app (goodIn_of _ (by decide +kernel)) ggX3_obey_X1_passNights
theorem dX3_obey_0 : decode cX3_obey 0 = .ok (.iload_n 1, 1) := by decide +kernel
theorem dX3_obey_1 : decode cX3_obey 1 = .ok (.lookupswitch 141 #[(98, 84), (102, 76), (108, 59), (110, 130), (115, 116), (120, 105)], 59) := by decide +kernel
theorem dX3_obey_60 : decode cX3_obey 60 = .ok (.aload_n 0, 1) := by decide +kernel
theorem dX3_obey_61 : decode cX3_obey 61 = .ok (.getfield 12, 3) := by decide +kernel
theorem dX3_obey_64 : decode cX3_obey 64 = .ok (.aload_n 2, 1) := by decide +kernel
theorem dX3_obey_65 : decode cX3_obey 65 = .ok (.iconst 0, 1) := by decide +kernel
theorem dX3_obey_66 : decode cX3_obey 66 = .ok (.iaload, 1) := by decide +kernel
theorem dX3_obey_67 : decode cX3_obey 67 = .ok (.aload_n 2, 1) := by decide +kernel
theorem dX3_obey_68 : decode cX3_obey 68 = .ok (.iconst 1, 1) := by decide +kernel
theorem dX3_obey_69 : decode cX3_obey 69 = .ok (.iaload, 1) := by decide +kernel
theorem dX3_obey_70 : decode cX3_obey 70 = .ok (.aload_n 2, 1) := by decide +kernel
theorem dX3_obey_71 : decode cX3_obey 71 = .ok (.iconst 2, 1) := by decide +kernel
theorem dX3_obey_72 : decode cX3_obey 72 = .ok (.iaload, 1) := by decide +kernel
theorem dX3_obey_73 : decode cX3_obey 73 = .ok (.invokevirtual 62, 3) := by decide +kernel
theorem dX3_obey_76 : decode cX3_obey 76 = .ok (.ireturn, 1) := by decide +kernel
theorem dX3_obey_77 : decode cX3_obey 77 = .ok (.aload_n 0, 1) := by decide +kernel
theorem dX3_obey_78 : decode cX3_obey 78 = .ok (.getfield 12, 3) := by decide +kernel
theorem dX3_obey_81 : decode cX3_obey 81 = .ok (.invokevirtual 66, 3) := by decide +kernel
theorem dX3_obey_84 : decode cX3_obey 84 = .ok (.ireturn, 1) := by decide +kernel
theorem dX3_obey_85 : decode cX3_obey 85 = .ok (.aload_n 0, 1) := by decide +kernel
theorem dX3_obey_86 : decode cX3_obey 86 = .ok (.getfield 12, 3) := by decide +kernel
theorem dX3_obey_89 : decode cX3_obey 89 = .ok (.aload_n 2, 1) := by decide +kernel
theorem dX3_obey_90 : decode cX3_obey 90 = .ok (.iconst 0, 1) := by decide +kernel
theorem dX3_obey_91 : decode cX3_obey 91 = .ok (.iaload, 1) := by decide +kernel
theorem dX3_obey_92 : decode cX3_obey 92 = .ok (.aload_n 2, 1) := by decide +kernel
theorem dX3_obey_93 : decode cX3_obey 93 = .ok (.iconst 1, 1) := by decide +kernel
theorem dX3_obey_94 : decode cX3_obey 94 = .ok (.iaload, 1) := by decide +kernel
theorem dX3_obey_95 : decode cX3_obey 95 = .ok (.aload_n 2, 1) := by decide +kernel
theorem dX3_obey_96 : decode cX3_obey 96 = .ok (.iconst 2, 1) := by decide +kernel
theorem dX3_obey_97 : decode cX3_obey 97 = .ok (.iaload, 1) := by decide +kernel
theorem dX3_obey_98 : decode cX3_obey 98 = .ok (.aload_n 0, 1) := by decide +kernel
theorem dX3_obey_99 : decode cX3_obey 99 = .ok (.getfield 18, 3) := by decide +kernel
theorem dX3_obey_102 : decode cX3_obey 102 = .ok (.invokevirtual 70, 3) := by decide +kernel
theorem dX3_obey_105 : decode cX3_obey 105 = .ok (.ireturn, 1) := by decide +kernel
theorem dX3_obey_106 : decode cX3_obey 106 = .ok (.aload_n 0, 1) := by decide +kernel
theorem dX3_obey_107 : decode cX3_obey 107 = .ok (.getfield 12, 3) := by decide +kernel
theorem dX3_obey_110 : decode cX3_obey 110 = .ok (.aload_n 2, 1) := by decide +kernel
theorem dX3_obey_111 : decode cX3_obey 111 = .ok (.iconst 0, 1) := by decide +kernel
theorem dX3_obey_112 : decode cX3_obey 112 = .ok (.iaload, 1) := by decide +kernel
theorem dX3_obey_113 : decode cX3_obey 113 = .ok (.invokevirtual 74, 3) := by decide +kernel
theorem dX3_obey_116 : decode cX3_obey 116 = .ok (.ireturn, 1) := by decide +kernel
theorem dX3_obey_117 : decode cX3_obey 117 = .ok (.aload_n 0, 1) := by decide +kernel
theorem dX3_obey_118 : decode cX3_obey 118 = .ok (.getfield 12, 3) := by decide +kernel
theorem dX3_obey_121 : decode cX3_obey 121 = .ok (.aload_n 2, 1) := by decide +kernel
theorem dX3_obey_122 : decode cX3_obey 122 = .ok (.iconst 0, 1) := by decide +kernel
theorem dX3_obey_123 : decode cX3_obey 123 = .ok (.iaload, 1) := by decide +kernel
theorem dX3_obey_124 : decode cX3_obey 124 = .ok (.aload_n 2, 1) := by decide +kernel
theorem dX3_obey_125 : decode cX3_obey 125 = .ok (.iconst 1, 1) := by decide +kernel
theorem dX3_obey_126 : decode cX3_obey 126 = .ok (.iaload, 1) := by decide +kernel
theorem dX3_obey_127 : decode cX3_obey 127 = .ok (.invokevirtual 78, 3) := by decide +kernel
theorem dX3_obey_130 : decode cX3_obey 130 = .ok (.ireturn, 1) := by decide +kernel
theorem dX3_obey_131 : decode cX3_obey 131 = .ok (.aload_n 0, 1) := by decide +kernel
theorem dX3_obey_132 : decode cX3_obey 132 = .ok (.getfield 12, 3) := by decide +kernel
theorem dX3_obey_135 : decode cX3_obey 135 = .ok (.aload_n 2, 1) := by decide +kernel
theorem dX3_obey_136 : decode cX3_obey 136 = .ok (.iconst 0, 1) := by decide +kernel
theorem dX3_obey_137 : decode cX3_obey 137 = .ok (.iaload, 1) := by decide +kernel
theorem dX3_obey_138 : decode cX3_obey 138 = .ok (.invokevirtual 82, 3) := by decide +kernel
theorem dX3_obey_141 : decode cX3_obey 141 = .ok (.ireturn, 1) := by decide +kernel
theorem dX3_obey_142 : decode cX3_obey 142 = .ok (.iconst (-1), 1) := by decide +kernel
theorem dX3_obey_143 : decode cX3_obey 143 = .ok (.ireturn, 1) := by decide +kernel
end
section
theorem dX4_init_0 : decode cX4_init 0 = .ok (.aload_n 0, 1) := by decide +kernel
theorem dX4_init_1 : decode cX4_init 1 = .ok (.invokespecial 1, 3) := by decide +kernel
theorem dX4_init_4 : decode cX4_init 4 = .ok (.aload_n 0, 1) := by decide +kernel
theorem dX4_init_5 : decode cX4_init 5 = .ok (.bipush 20, 2) := by decide +kernel
theorem dX4_init_7 : decode cX4_init 7 = .ok (.newarray .int, 2) := by decide +kernel
theorem dX4_init_9 : decode cX4_init 9 = .ok (.putfield 9, 3) := by decide +kernel
theorem dX4_init_12 : decode cX4_init 12 = .ok (.aload_n 0, 1) := by decide +kernel
theorem dX4_init_13 : decode cX4_init 13 = .ok (.bipush 20, 2) := by decide +kernel
theorem dX4_init_15 : decode cX4_init 15 = .ok (.newarray .int, 2) := by decide +kernel
theorem dX4_init_17 : decode cX4_init 17 = .ok (.putfield 13, 3) := by decide +kernel
theorem dX4_init_20 : decode cX4_init 20 = .ok (.aload_n 0, 1) := by decide +kernel
theorem dX4_init_21 : decode cX4_init 21 = .ok (.bipush 20, 2) := by decide +kernel
theorem dX4_init_23 : decode cX4_init 23 = .ok (.newarray .int, 2) := by decide +kernel
theorem dX4_init_25 : decode cX4_init 25 = .ok (.putfield 16, 3) := by decide +kernel
theorem dX4_init_28 : decode cX4_init 28 = .ok (.aload_n 0, 1) := by decide +kernel
theorem dX4_init_29 : decode cX4_init 29 = .ok (.bipush 6, 2) := by decide +kernel
theorem dX4_init_31 : decode cX4_init 31 = .ok (.newarray .int, 2) := by decide +kernel
theorem dX4_init_33 : decode cX4_init 33 = .ok (.putfield 19, 3) := by decide +kernel
theorem dX4_init_36 : decode cX4_init 36 = .ok (.aload_n 0, 1) := by decide +kernel
theorem dX4_init_37 : decode cX4_init 37 = .ok (.bipush 6, 2) := by decide +kernel
theorem dX4_init_39 : decode cX4_init 39 = .ok (.newarray .int, 2) := by decide +kernel
theorem dX4_init_41 : decode cX4_init 41 = .ok (.putfield 22, 3) := by decide +kernel
theorem dX4_init_44 : decode cX4_init 44 = .ok (.aload_n 0, 1) := by decide +kernel
theorem dX4_init_45 : decode cX4_init 45 = .ok (.bipush 6, 2) := by decide +kernel
theorem dX4_init_47 : decode cX4_init 47 = .ok (.newarray .int, 2) := by decide +kernel
theorem dX4_init_49 : decode cX4_init 49 = .ok (.putfield 25, 3) := by decide +kernel
theorem dX4_init_52 : decode cX4_init 52 = .ok (.aload_n 0, 1) := by decide +kernel
theorem dX4_init_53 : decode cX4_init 53 = .ok (.iconst 3, 1) := by decide +kernel
theorem dX4_init_54 : decode cX4_init 54 = .ok (.newarray .int, 2) := by decide +kernel
theorem dX4_init_56 : decode cX4_init 56 = .ok (.putfield 28, 3) := by decide +kernel
theorem dX4_init_59 : decode cX4_init 59 = .ok (.aload_n 0, 1) := by decide +kernel
theorem dX4_init_60 : decode cX4_init 60 = .ok (.iconst 3, 1) := by decide +kernel
theorem dX4_init_61 : decode cX4_init 61 = .ok (.newarray .int, 2) := by decide +kernel
theorem dX4_init_63 : decode cX4_init 63 = .ok (.putfield 31, 3) := by decide +kernel
theorem dX4_init_66 : decode cX4_init 66 = .ok (.aload_n 0, 1) := by decide +kernel
theorem dX4_init_67 : decode cX4_init 67 = .ok (.iconst 3, 1) := by decide +kernel
theorem dX4_init_68 : decode cX4_init 68 = .ok (.newarray .int, 2) := by decide +kernel
theorem dX4_init_70 : decode cX4_init 70 = .ok (.putfield 34, 3) := by decide +kernel
theorem dX4_init_73 : decode cX4_init 73 = .ok (.return_, 1) := by decide +kernel
theorem dX4_isKind_0 : decode cX4_isKind 0 = .ok (.iload_n 0, 1) := by decide +kernel
theorem dX4_isKind_1 : decode cX4_isKind 1 = .ok (.ifCond .lt 12, 3) := by decide +kernel
theorem dX4_isKind_4 : decode cX4_isKind 4 = .ok (.iload_n 0, 1) := by decide +kernel
theorem dX4_isKind_5 : decode cX4_isKind 5 = .ok (.iconst 3, 1) := by decide +kernel
theorem dX4_isKind_6 : decode cX4_isKind 6 = .ok (.if_icmp .ge 7, 3) := by decide +kernel
theorem dX4_isKind_9 : decode cX4_isKind 9 = .ok (.iconst 1, 1) := by decide +kernel
theorem dX4_isKind_10 : decode cX4_isKind 10 = .ok (.goto 4, 3) := by decide +kernel
theorem dX4_isKind_13 : decode cX4_isKind 13 = .ok (.iconst 0, 1) := by decide +kernel
theorem dX4_isKind_14 : decode cX4_isKind 14 = .ok (.ireturn, 1) := by decide +kernel
theorem dX4_copyFrom_0 : decode cX4_copyFrom 0 = .ok (.aload_n 1, 1) := by decide +kernel
theorem dX4_copyFrom_1 : decode cX4_copyFrom 1 = .ok (.getfield 9, 3) := by decide +kernel
theorem dX4_copyFrom_4 : decode cX4_copyFrom 4 = .ok (.iconst 0, 1) := by decide +kernel
theorem dX4_copyFrom_5 : decode cX4_copyFrom 5 = .ok (.aload_n 0, 1) := by decide +kernel
theorem dX4_copyFrom_6 : decode cX4_copyFrom 6 = .ok (.getfield 9, 3) := by decide +kernel
theorem dX4_copyFrom_9 : decode cX4_copyFrom 9 = .ok (.iconst 0, 1) := by decide +kernel
theorem dX4_copyFrom_10 : decode cX4_copyFrom 10 = .ok (.bipush 20, 2) := by decide +kernel
theorem dX4_copyFrom_12 : decode cX4_copyFrom 12 = .ok (.invokestatic 37, 3) := by decide +kernel
theorem dX4_copyFrom_15 : decode cX4_copyFrom 15 = .ok (.aload_n 1, 1) := by decide +kernel
theorem dX4_copyFrom_16 : decode cX4_copyFrom 16 = .ok (.getfield 13, 3) := by decide +kernel
theorem dX4_copyFrom_19 : decode cX4_copyFrom 19 = .ok (.iconst 0, 1) := by decide +kernel
theorem dX4_copyFrom_20 : decode cX4_copyFrom 20 = .ok (.aload_n 0, 1) := by decide +kernel
theorem dX4_copyFrom_21 : decode cX4_copyFrom 21 = .ok (.getfield 13, 3) := by decide +kernel
theorem dX4_copyFrom_24 : decode cX4_copyFrom 24 = .ok (.iconst 0, 1) := by decide +kernel
theorem dX4_copyFrom_25 : decode cX4_copyFrom 25 = .ok (.bipush 20, 2) := by decide +kernel
theorem dX4_copyFrom_27 : decode cX4_copyFrom 27 = .ok (.invokestatic 37, 3) := by decide +kernel
theorem dX4_copyFrom_30 : decode cX4_copyFrom 30 = .ok (.aload_n 1, 1) := by decide +kernel
theorem dX4_copyFrom_31 : decode cX4_copyFrom 31 = .ok (.getfield 16, 3) := by decide +kernel
theorem dX4_copyFrom_34 : decode cX4_copyFrom 34 = .ok (.iconst 0, 1) := by decide +kernel
theorem dX4_copyFrom_35 : decode cX4_copyFrom 35 = .ok (.aload_n 0, 1) := by decide +kernel
theorem dX4_copyFrom_36 : decode cX4_copyFrom 36 = .ok (.getfield 16, 3) := by decide +kernel
theorem dX4_copyFrom_39 : decode cX4_copyFrom 39 = .ok (.iconst 0, 1) := by decide +kernel
theorem dX4_copyFrom_40 : decode cX4_copyFrom 40 = .ok (.bipush 20, 2) := by decide +kernel
theorem dX4_copyFrom_42 : decode cX4_copyFrom 42 = .ok (.invokestatic 37, 3) := by decide +kernel
theorem dX4_copyFrom_45 : decode cX4_copyFrom 45 = .ok (.aload_n 1, 1) := by decide +kernel
theorem dX4_copyFrom_46 : decode cX4_copyFrom 46 = .ok (.getfield 19, 3) := by decide +kernel
theorem dX4_copyFrom_49 : decode cX4_copyFrom 49 = .ok (.iconst 0, 1) := by decide +kernel
theorem dX4_copyFrom_50 : decode cX4_copyFrom 50 = .ok (.aload_n 0, 1) := by decide +kernel
theorem dX4_copyFrom_51 : decode cX4_copyFrom 51 = .ok (.getfield 19, 3) := by decide +kernel
theorem dX4_copyFrom_54 : decode cX4_copyFrom 54 = .ok (.iconst 0, 1) := by decide +kernel
theorem dX4_copyFrom_55 : decode cX4_copyFrom 55 = .ok (.bipush 6, 2) := by decide +kernel
theorem dX4_copyFrom_57 : decode cX4_copyFrom 57 = .ok (.invokestatic 37, 3) := by decide +kernel
theorem dX4_copyFrom_60 : decode cX4_copyFrom 60 = .ok (.aload_n 1, 1) := by decide +kernel
theorem dX4_copyFrom_61 : decode cX4_copyFrom 61 = .ok (.getfield 22, 3) := by decide +kernel
theorem dX4_copyFrom_64 : decode cX4_copyFrom 64 = .ok (.iconst 0, 1) := by decide +kernel
theorem dX4_copyFrom_65 : decode cX4_copyFrom 65 = .ok (.aload_n 0, 1) := by decide +kernel
theorem dX4_copyFrom_66 : decode cX4_copyFrom 66 = .ok (.getfield 22, 3) := by decide +kernel
theorem dX4_copyFrom_69 : decode cX4_copyFrom 69 = .ok (.iconst 0, 1) := by decide +kernel
theorem dX4_copyFrom_70 : decode cX4_copyFrom 70 = .ok (.bipush 6, 2) := by decide +kernel
theorem dX4_copyFrom_72 : decode cX4_copyFrom 72 = .ok (.invokestatic 37, 3) := by decide +kernel
theorem dX4_copyFrom_75 : decode cX4_copyFrom 75 = .ok (.aload_n 1, 1) := by decide +kernel
theorem dX4_copyFrom_76 : decode cX4_copyFrom 76 = .ok (.getfield 25, 3) := by decide +kernel
theorem dX4_copyFrom_79 : decode cX4_copyFrom 79 = .ok (.iconst 0, 1) := by decide +kernel
theorem dX4_copyFrom_80 : decode cX4_copyFrom 80 = .ok (.aload_n 0, 1) := by decide +kernel
theorem dX4_copyFrom_81 : decode cX4_copyFrom 81 = .ok (.getfield 25, 3) := by decide +kernel
theorem dX4_copyFrom_84 : decode cX4_copyFrom 84 = .ok (.iconst 0, 1) := by decide +kernel
theorem dX4_copyFrom_85 : decode cX4_copyFrom 85 = .ok (.bipush 6, 2) := by decide +kernel
theorem dX4_copyFrom_87 : decode cX4_copyFrom 87 = .ok (.invokestatic 37, 3) := by decide +kernel
theorem dX4_copyFrom_90 : decode cX4_copyFrom 90 = .ok (.aload_n 1, 1) := by decide +kernel
theorem dX4_copyFrom_91 : decode cX4_copyFrom 91 = .ok (.getfield 28, 3) := by decide +kernel
theorem dX4_copyFrom_94 : decode cX4_copyFrom 94 = .ok (.iconst 0, 1) := by decide +kernel
theorem dX4_copyFrom_95 : decode cX4_copyFrom 95 = .ok (.aload_n 0, 1) := by decide +kernel
theorem dX4_copyFrom_96 : decode cX4_copyFrom 96 = .ok (.getfield 28, 3) := by decide +kernel
theorem dX4_copyFrom_99 : decode cX4_copyFrom 99 = .ok (.iconst 0, 1) := by decide +kernel
theorem dX4_copyFrom_100 : decode cX4_copyFrom 100 = .ok (.iconst 3, 1) := by decide +kernel
theorem dX4_copyFrom_101 : decode cX4_copyFrom 101 = .ok (.invokestatic 37, 3) := by decide +kernel
theorem dX4_copyFrom_104 : decode cX4_copyFrom 104 = .ok (.aload_n 1, 1) := by decide +kernel
theorem dX4_copyFrom_105 : decode cX4_copyFrom 105 = .ok (.getfield 31, 3) := by decide +kernel
theorem dX4_copyFrom_108 : decode cX4_copyFrom 108 = .ok (.iconst 0, 1) := by decide +kernel
theorem dX4_copyFrom_109 : decode cX4_copyFrom 109 = .ok (.aload_n 0, 1) := by decide +kernel
theorem dX4_copyFrom_110 : decode cX4_copyFrom 110 = .ok (.getfield 31, 3) := by decide +kernel
theorem dX4_copyFrom_113 : decode cX4_copyFrom 113 = .ok (.iconst 0, 1) := by decide +kernel
theorem dX4_copyFrom_114 : decode cX4_copyFrom 114 = .ok (.iconst 3, 1) := by decide +kernel
theorem dX4_copyFrom_115 : decode cX4_copyFrom 115 = .ok (.invokestatic 37, 3) := by decide +kernel
theorem dX4_copyFrom_118 : decode cX4_copyFrom 118 = .ok (.aload_n 1, 1) := by decide +kernel
theorem dX4_copyFrom_119 : decode cX4_copyFrom 119 = .ok (.getfield 34, 3) := by decide +kernel
theorem dX4_copyFrom_122 : decode cX4_copyFrom 122 = .ok (.iconst 0, 1) := by decide +kernel
theorem dX4_copyFrom_123 : decode cX4_copyFrom 123 = .ok (.aload_n 0, 1) := by decide +kernel
theorem dX4_copyFrom_124 : decode cX4_copyFrom 124 = .ok (.getfield 34, 3) := by decide +kernel
theorem dX4_copyFrom_127 : decode cX4_copyFrom 127 = .ok (.iconst 0, 1) := by decide +kernel
theorem dX4_copyFrom_128 : decode cX4_copyFrom 128 = .ok (.iconst 3, 1) := by decide +kernel
theorem dX4_copyFrom_129 : decode cX4_copyFrom 129 = .ok (.invokestatic 37, 3) := by decide +kernel
theorem dX4_copyFrom_132 : decode cX4_copyFrom 132 = .ok (.aload_n 0, 1) := by decide +kernel
theorem dX4_copyFrom_133 : decode cX4_copyFrom 133 = .ok (.aload_n 1, 1) := by decide +kernel
theorem dX4_copyFrom_134 : decode cX4_copyFrom 134 = .ok (.getfield 43, 3) := by decide +kernel
theorem dX4_copyFrom_137 : decode cX4_copyFrom 137 = .ok (.putfield 43, 3) := by decide +kernel
theorem dX4_copyFrom_140 : decode cX4_copyFrom 140 = .ok (.aload_n 0, 1) := by decide +kernel
theorem dX4_copyFrom_141 : decode cX4_copyFrom 141 = .ok (.aload_n 1, 1) := by decide +kernel
theorem dX4_copyFrom_142 : decode cX4_copyFrom 142 = .ok (.getfield 47, 3) := by decide +kernel
theorem dX4_copyFrom_145 : decode cX4_copyFrom 145 = .ok (.putfield 47, 3) := by decide +kernel
theorem dX4_copyFrom_148 : decode cX4_copyFrom 148 = .ok (.return_, 1) := by decide +kernel
theorem dX4_addToPallet_0 : decode cX4_addToPallet 0 = .ok (.aload_n 0, 1) := by decide +kernel
theorem dX4_addToPallet_1 : decode cX4_addToPallet 1 = .ok (.getfield 47, 3) := by decide +kernel
theorem dX4_addToPallet_4 : decode cX4_addToPallet 4 = .ok (.bipush 6, 2) := by decide +kernel
theorem dX4_addToPallet_6 : decode cX4_addToPallet 6 = .ok (.if_icmp .lt 4, 3) := by decide +kernel
theorem dX4_addToPallet_9 : decode cX4_addToPallet 9 = .ok (.return_, 1) := by decide +kernel
theorem dX4_addToPallet_10 : decode cX4_addToPallet 10 = .ok (.aload_n 0, 1) := by decide +kernel
theorem dX4_addToPallet_11 : decode cX4_addToPallet 11 = .ok (.getfield 19, 3) := by decide +kernel
theorem dX4_addToPallet_14 : decode cX4_addToPallet 14 = .ok (.aload_n 0, 1) := by decide +kernel
theorem dX4_addToPallet_15 : decode cX4_addToPallet 15 = .ok (.getfield 47, 3) := by decide +kernel
theorem dX4_addToPallet_18 : decode cX4_addToPallet 18 = .ok (.iload_n 1, 1) := by decide +kernel
theorem dX4_addToPallet_19 : decode cX4_addToPallet 19 = .ok (.iastore, 1) := by decide +kernel
theorem dX4_addToPallet_20 : decode cX4_addToPallet 20 = .ok (.aload_n 0, 1) := by decide +kernel
theorem dX4_addToPallet_21 : decode cX4_addToPallet 21 = .ok (.getfield 22, 3) := by decide +kernel
theorem dX4_addToPallet_24 : decode cX4_addToPallet 24 = .ok (.aload_n 0, 1) := by decide +kernel
theorem dX4_addToPallet_25 : decode cX4_addToPallet 25 = .ok (.getfield 47, 3) := by decide +kernel
theorem dX4_addToPallet_28 : decode cX4_addToPallet 28 = .ok (.iload_n 2, 1) := by decide +kernel
theorem dX4_addToPallet_29 : decode cX4_addToPallet 29 = .ok (.iastore, 1) := by decide +kernel
theorem dX4_addToPallet_30 : decode cX4_addToPallet 30 = .ok (.aload_n 0, 1) := by decide +kernel
theorem dX4_addToPallet_31 : decode cX4_addToPallet 31 = .ok (.getfield 25, 3) := by decide +kernel
theorem dX4_addToPallet_34 : decode cX4_addToPallet 34 = .ok (.aload_n 0, 1) := by decide +kernel
theorem dX4_addToPallet_35 : decode cX4_addToPallet 35 = .ok (.getfield 47, 3) := by decide +kernel
theorem dX4_addToPallet_38 : decode cX4_addToPallet 38 = .ok (.iload_n 3, 1) := by decide +kernel
theorem dX4_addToPallet_39 : decode cX4_addToPallet 39 = .ok (.iastore, 1) := by decide +kernel
theorem dX4_addToPallet_40 : decode cX4_addToPallet 40 = .ok (.aload_n 0, 1) := by decide +kernel
theorem dX4_addToPallet_41 : decode cX4_addToPallet 41 = .ok (.dup, 1) := by decide +kernel
theorem dX4_addToPallet_42 : decode cX4_addToPallet 42 = .ok (.getfield 47, 3) := by decide +kernel
theorem dX4_addToPallet_45 : decode cX4_addToPallet 45 = .ok (.iconst 1, 1) := by decide +kernel
theorem dX4_addToPallet_46 : decode cX4_addToPallet 46 = .ok (.iadd, 1) := by decide +kernel
theorem dX4_addToPallet_47 : decode cX4_addToPallet 47 = .ok (.putfield 47, 3) := by decide +kernel
theorem dX4_addToPallet_50 : decode cX4_addToPallet 50 = .ok (.return_, 1) := by decide +kernel
set_option maxRecDepth 20000 in
theorem ggX4_unloadPallet_X4_addLot : GoodIn wsX4_unloadPallet wsX4_addLot := goodIn_r _ [9, 10, 11, 12, 13, 14, 15, 16, 8, 17, 18, 19, 20, 21, 22, 23, 24, 25, 26, 27, 28] (by decide +kernel) (by decide +kernel)
set_option maxRecDepth 20000 in
theorem gX4_unloadPallet_X4_addLot : GoodIn wsX4_unloadPallet (wsV RX4 50 RX4 yX4_addLot wsX4_addLot) := goodIn_app (goodIn_of _ (by decide +kernel)) ggX4_unloadPallet_X4_addLot
theorem dX4_unloadPallet_0 : decode cX4_unloadPallet 0 = .ok (.iconst 0, 1) := by decide +kernel
theorem dX4_unloadPallet_1 : decode cX4_unloadPallet 1 = .ok (.istore_n 2, 1) := by decide +kernel
theorem dX4_unloadPallet_2 : decode cX4_unloadPallet 2 = .ok (.iload_n 2, 1) := by decide +kernel
theorem dX4_unloadPallet_3 : decode cX4_unloadPallet 3 = .ok (.aload_n 0, 1) := by decide +kernel
theorem dX4_unloadPallet_4 : decode cX4_unloadPallet 4 = .ok (.getfield 47, 3) := by decide +kernel
theorem dX4_unloadPallet_7 : decode cX4_unloadPallet 7 = .ok (.if_icmp .ge 33, 3) := by decide +kernel
theorem dX4_unloadPallet_10 : decode cX4_unloadPallet 10 = .ok (.aload_n 0, 1) := by decide +kernel
theorem dX4_unloadPallet_11 : decode cX4_unloadPallet 11 = .ok (.aload_n 0, 1) := by decide +kernel
theorem dX4_unloadPallet_12 : decode cX4_unloadPallet 12 = .ok (.getfield 19, 3) := by decide +kernel
theorem dX4_unloadPallet_15 : decode cX4_unloadPallet 15 = .ok (.iload_n 2, 1) := by decide +kernel
theorem dX4_unloadPallet_16 : decode cX4_unloadPallet 16 = .ok (.iaload, 1) := by decide +kernel
theorem dX4_unloadPallet_17 : decode cX4_unloadPallet 17 = .ok (.aload_n 0, 1) := by decide +kernel
theorem dX4_unloadPallet_18 : decode cX4_unloadPallet 18 = .ok (.getfield 22, 3) := by decide +kernel
theorem dX4_unloadPallet_21 : decode cX4_unloadPallet 21 = .ok (.iload_n 2, 1) := by decide +kernel
theorem dX4_unloadPallet_22 : decode cX4_unloadPallet 22 = .ok (.iaload, 1) := by decide +kernel
theorem dX4_unloadPallet_23 : decode cX4_unloadPallet 23 = .ok (.iload_n 1, 1) := by decide +kernel
theorem dX4_unloadPallet_24 : decode cX4_unloadPallet 24 = .ok (.aload_n 0, 1) := by decide +kernel
theorem dX4_unloadPallet_25 : decode cX4_unloadPallet 25 = .ok (.getfield 25, 3) := by decide +kernel
theorem dX4_unloadPallet_28 : decode cX4_unloadPallet 28 = .ok (.iload_n 2, 1) := by decide +kernel
theorem dX4_unloadPallet_29 : decode cX4_unloadPallet 29 = .ok (.iaload, 1) := by decide +kernel
theorem dX4_unloadPallet_30 : decode cX4_unloadPallet 30 = .ok (.iadd, 1) := by decide +kernel
theorem dX4_unloadPallet_31 : decode cX4_unloadPallet 31 = .ok (.invokevirtual 50, 3) := by decide +kernel
theorem dX4_unloadPallet_34 : decode cX4_unloadPallet 34 = .ok (.iinc 2 1, 3) := by decide +kernel
theorem dX4_unloadPallet_37 : decode cX4_unloadPallet 37 = .ok (.goto (-35), 3) := by decide +kernel
theorem dX4_unloadPallet_40 : decode cX4_unloadPallet 40 = .ok (.aload_n 0, 1) := by decide +kernel
theorem dX4_unloadPallet_41 : decode cX4_unloadPallet 41 = .ok (.iconst 0, 1) := by decide +kernel
theorem dX4_unloadPallet_42 : decode cX4_unloadPallet 42 = .ok (.putfield 47, 3) := by decide +kernel
theorem dX4_unloadPallet_45 : decode cX4_unloadPallet 45 = .ok (.return_, 1) := by decide +kernel
set_option maxRecDepth 20000 in
theorem ggX4_addLot_X4_isKind : GoodIn wsX4_addLot wsX4_isKind := goodIn_r _ [9] (by decide +kernel) (by decide +kernel)
set_option maxRecDepth 20000 in
theorem gX4_addLot_X4_isKind : GoodIn wsX4_addLot (va_wsS RX4 54 yX4_isKind wsX4_isKind) := goodIn_app (goodIn_of _ (by decide +kernel)) ggX4_addLot_X4_isKind
theorem dX4_addLot_0 : decode cX4_addLot 0 = .ok (.aload_n 0, 1) := by decide +kernel
theorem dX4_addLot_1 : decode cX4_addLot 1 = .ok (.getfield 43, 3) := by decide +kernel
theorem dX4_addLot_4 : decode cX4_addLot 4 = .ok (.bipush 20, 2) := by decide +kernel
theorem dX4_addLot_6 : decode cX4_addLot 6 = .ok (.if_icmp .ge 10, 3) := by decide +kernel
theorem dX4_addLot_9 : decode cX4_addLot 9 = .ok (.iload_n 1, 1) := by decide +kernel
theorem dX4_addLot_10 : decode cX4_addLot 10 = .ok (.invokestatic 54, 3) := by decide +kernel
theorem dX4_addLot_13 : decode cX4_addLot 13 = .ok (.ifCond .ne 4, 3) := by decide +kernel
theorem dX4_addLot_16 : decode cX4_addLot 16 = .ok (.return_, 1) := by decide +kernel
theorem dX4_addLot_17 : decode cX4_addLot 17 = .ok (.aload_n 0, 1) := by decide +kernel
theorem dX4_addLot_18 : decode cX4_addLot 18 = .ok (.getfield 43, 3) := by decide +kernel
theorem dX4_addLot_21 : decode cX4_addLot 21 = .ok (.istore 4, 2) := by decide +kernel
theorem dX4_addLot_23 : decode cX4_addLot 23 = .ok (.iload 4, 2) := by decide +kernel
theorem dX4_addLot_25 : decode cX4_addLot 25 = .ok (.ifCond .le 70, 3) := by decide +kernel
theorem dX4_addLot_28 : decode cX4_addLot 28 = .ok (.aload_n 0, 1) := by decide +kernel
theorem dX4_addLot_29 : decode cX4_addLot 29 = .ok (.getfield 16, 3) := by decide +kernel
theorem dX4_addLot_32 : decode cX4_addLot 32 = .ok (.iload 4, 2) := by decide +kernel
theorem dX4_addLot_34 : decode cX4_addLot 34 = .ok (.iconst 1, 1) := by decide +kernel
theorem dX4_addLot_35 : decode cX4_addLot 35 = .ok (.isub, 1) := by decide +kernel
theorem dX4_addLot_36 : decode cX4_addLot 36 = .ok (.iaload, 1) := by decide +kernel
theorem dX4_addLot_37 : decode cX4_addLot 37 = .ok (.iload_n 3, 1) := by decide +kernel
theorem dX4_addLot_38 : decode cX4_addLot 38 = .ok (.if_icmp .le 57, 3) := by decide +kernel
theorem dX4_addLot_41 : decode cX4_addLot 41 = .ok (.aload_n 0, 1) := by decide +kernel
theorem dX4_addLot_42 : decode cX4_addLot 42 = .ok (.getfield 9, 3) := by decide +kernel
theorem dX4_addLot_45 : decode cX4_addLot 45 = .ok (.iload 4, 2) := by decide +kernel
theorem dX4_addLot_47 : decode cX4_addLot 47 = .ok (.aload_n 0, 1) := by decide +kernel
theorem dX4_addLot_48 : decode cX4_addLot 48 = .ok (.getfield 9, 3) := by decide +kernel
theorem dX4_addLot_51 : decode cX4_addLot 51 = .ok (.iload 4, 2) := by decide +kernel
theorem dX4_addLot_53 : decode cX4_addLot 53 = .ok (.iconst 1, 1) := by decide +kernel
theorem dX4_addLot_54 : decode cX4_addLot 54 = .ok (.isub, 1) := by decide +kernel
theorem dX4_addLot_55 : decode cX4_addLot 55 = .ok (.iaload, 1) := by decide +kernel
theorem dX4_addLot_56 : decode cX4_addLot 56 = .ok (.iastore, 1) := by decide +kernel
theorem dX4_addLot_57 : decode cX4_addLot 57 = .ok (.aload_n 0, 1) := by decide +kernel
theorem dX4_addLot_58 : decode cX4_addLot 58 = .ok (.getfield 13, 3) := by decide +kernel
theorem dX4_addLot_61 : decode cX4_addLot 61 = .ok (.iload 4, 2) := by decide +kernel
theorem dX4_addLot_63 : decode cX4_addLot 63 = .ok (.aload_n 0, 1) := by decide +kernel
theorem dX4_addLot_64 : decode cX4_addLot 64 = .ok (.getfield 13, 3) := by decide +kernel
theorem dX4_addLot_67 : decode cX4_addLot 67 = .ok (.iload 4, 2) := by decide +kernel
theorem dX4_addLot_69 : decode cX4_addLot 69 = .ok (.iconst 1, 1) := by decide +kernel
theorem dX4_addLot_70 : decode cX4_addLot 70 = .ok (.isub, 1) := by decide +kernel
theorem dX4_addLot_71 : decode cX4_addLot 71 = .ok (.iaload, 1) := by decide +kernel
theorem dX4_addLot_72 : decode cX4_addLot 72 = .ok (.iastore, 1) := by decide +kernel
theorem dX4_addLot_73 : decode cX4_addLot 73 = .ok (.aload_n 0, 1) := by decide +kernel
theorem dX4_addLot_74 : decode cX4_addLot 74 = .ok (.getfield 16, 3) := by decide +kernel
theorem dX4_addLot_77 : decode cX4_addLot 77 = .ok (.iload 4, 2) := by decide +kernel
theorem dX4_addLot_79 : decode cX4_addLot 79 = .ok (.aload_n 0, 1) := by decide +kernel
theorem dX4_addLot_80 : decode cX4_addLot 80 = .ok (.getfield 16, 3) := by decide +kernel
theorem dX4_addLot_83 : decode cX4_addLot 83 = .ok (.iload 4, 2) := by decide +kernel
theorem dX4_addLot_85 : decode cX4_addLot 85 = .ok (.iconst 1, 1) := by decide +kernel
theorem dX4_addLot_86 : decode cX4_addLot 86 = .ok (.isub, 1) := by decide +kernel
theorem dX4_addLot_87 : decode cX4_addLot 87 = .ok (.iaload, 1) := by decide +kernel
theorem dX4_addLot_88 : decode cX4_addLot 88 = .ok (.iastore, 1) := by decide +kernel
theorem dX4_addLot_89 : decode cX4_addLot 89 = .ok (.iinc 4 (-1), 3) := by decide +kernel
theorem dX4_addLot_92 : decode cX4_addLot 92 = .ok (.goto (-69), 3) := by decide +kernel
theorem dX4_addLot_95 : decode cX4_addLot 95 = .ok (.aload_n 0, 1) := by decide +kernel
theorem dX4_addLot_96 : decode cX4_addLot 96 = .ok (.getfield 9, 3) := by decide +kernel
theorem dX4_addLot_99 : decode cX4_addLot 99 = .ok (.iload 4, 2) := by decide +kernel
theorem dX4_addLot_101 : decode cX4_addLot 101 = .ok (.iload_n 1, 1) := by decide +kernel
theorem dX4_addLot_102 : decode cX4_addLot 102 = .ok (.iastore, 1) := by decide +kernel
theorem dX4_addLot_103 : decode cX4_addLot 103 = .ok (.aload_n 0, 1) := by decide +kernel
theorem dX4_addLot_104 : decode cX4_addLot 104 = .ok (.getfield 13, 3) := by decide +kernel
theorem dX4_addLot_107 : decode cX4_addLot 107 = .ok (.iload 4, 2) := by decide +kernel
theorem dX4_addLot_109 : decode cX4_addLot 109 = .ok (.iload_n 2, 1) := by decide +kernel
theorem dX4_addLot_110 : decode cX4_addLot 110 = .ok (.iastore, 1) := by decide +kernel
theorem dX4_addLot_111 : decode cX4_addLot 111 = .ok (.aload_n 0, 1) := by decide +kernel
theorem dX4_addLot_112 : decode cX4_addLot 112 = .ok (.getfield 16, 3) := by decide +kernel
theorem dX4_addLot_115 : decode cX4_addLot 115 = .ok (.iload 4, 2) := by decide +kernel
theorem dX4_addLot_117 : decode cX4_addLot 117 = .ok (.iload_n 3, 1) := by decide +kernel
theorem dX4_addLot_118 : decode cX4_addLot 118 = .ok (.iastore, 1) := by decide +kernel
theorem dX4_addLot_119 : decode cX4_addLot 119 = .ok (.aload_n 0, 1) := by decide +kernel
theorem dX4_addLot_120 : decode cX4_addLot 120 = .ok (.dup, 1) := by decide +kernel
theorem dX4_addLot_121 : decode cX4_addLot 121 = .ok (.getfield 43, 3) := by decide +kernel
theorem dX4_addLot_124 : decode cX4_addLot 124 = .ok (.iconst 1, 1) := by decide +kernel
theorem dX4_addLot_125 : decode cX4_addLot 125 = .ok (.iadd, 1) := by decide +kernel
theorem dX4_addLot_126 : decode cX4_addLot 126 = .ok (.putfield 43, 3) := by decide +kernel
theorem dX4_addLot_129 : decode cX4_addLot 129 = .ok (.aload_n 0, 1) := by decide +kernel
theorem dX4_addLot_130 : decode cX4_addLot 130 = .ok (.getfield 28, 3) := by decide +kernel
theorem dX4_addLot_133 : decode cX4_addLot 133 = .ok (.iload_n 1, 1) := by decide +kernel
theorem dX4_addLot_134 : decode cX4_addLot 134 = .ok (.dup2, 1) := by decide +kernel
theorem dX4_addLot_135 : decode cX4_addLot 135 = .ok (.iaload, 1) := by decide +kernel
theorem dX4_addLot_136 : decode cX4_addLot 136 = .ok (.iload_n 2, 1) := by decide +kernel
theorem dX4_addLot_137 : decode cX4_addLot 137 = .ok (.iadd, 1) := by decide +kernel
theorem dX4_addLot_138 : decode cX4_addLot 138 = .ok (.iastore, 1) := by decide +kernel
theorem dX4_addLot_139 : decode cX4_addLot 139 = .ok (.return_, 1) := by decide +kernel
theorem dX4_take_0 : decode cX4_take 0 = .ok (.iconst 0, 1) := by decide +kernel
theorem dX4_take_1 : decode cX4_take 1 = .ok (.istore_n 3, 1) := by decide +kernel
theorem dX4_take_2 : decode cX4_take 2 = .ok (.iconst 0, 1) := by decide +kernel
theorem dX4_take_3 : decode cX4_take 3 = .ok (.istore 4, 2) := by decide +kernel
theorem dX4_take_5 : decode cX4_take 5 = .ok (.iload 4, 2) := by decide +kernel
theorem dX4_take_7 : decode cX4_take 7 = .ok (.aload_n 0, 1) := by decide +kernel
theorem dX4_take_8 : decode cX4_take 8 = .ok (.getfield 43, 3) := by decide +kernel
theorem dX4_take_11 : decode cX4_take 11 = .ok (.if_icmp .ge 68, 3) := by decide +kernel
theorem dX4_take_14 : decode cX4_take 14 = .ok (.aload_n 0, 1) := by decide +kernel
theorem dX4_take_15 : decode cX4_take 15 = .ok (.getfield 9, 3) := by decide +kernel
theorem dX4_take_18 : decode cX4_take 18 = .ok (.iload 4, 2) := by decide +kernel
theorem dX4_take_20 : decode cX4_take 20 = .ok (.iaload, 1) := by decide +kernel
theorem dX4_take_21 : decode cX4_take 21 = .ok (.iload_n 1, 1) := by decide +kernel
theorem dX4_take_22 : decode cX4_take 22 = .ok (.if_icmp .ne 51, 3) := by decide +kernel
theorem dX4_take_25 : decode cX4_take 25 = .ok (.iload_n 2, 1) := by decide +kernel
theorem dX4_take_26 : decode cX4_take 26 = .ok (.iload_n 3, 1) := by decide +kernel
theorem dX4_take_27 : decode cX4_take 27 = .ok (.isub, 1) := by decide +kernel
theorem dX4_take_28 : decode cX4_take 28 = .ok (.istore 5, 2) := by decide +kernel
theorem dX4_take_30 : decode cX4_take 30 = .ok (.aload_n 0, 1) := by decide +kernel
theorem dX4_take_31 : decode cX4_take 31 = .ok (.getfield 13, 3) := by decide +kernel
theorem dX4_take_34 : decode cX4_take 34 = .ok (.iload 4, 2) := by decide +kernel
theorem dX4_take_36 : decode cX4_take 36 = .ok (.iaload, 1) := by decide +kernel
theorem dX4_take_37 : decode cX4_take 37 = .ok (.iload 5, 2) := by decide +kernel
theorem dX4_take_39 : decode cX4_take 39 = .ok (.if_icmp .ge 13, 3) := by decide +kernel
theorem dX4_take_42 : decode cX4_take 42 = .ok (.aload_n 0, 1) := by decide +kernel
theorem dX4_take_43 : decode cX4_take 43 = .ok (.getfield 13, 3) := by decide +kernel
theorem dX4_take_46 : decode cX4_take 46 = .ok (.iload 4, 2) := by decide +kernel
theorem dX4_take_48 : decode cX4_take 48 = .ok (.iaload, 1) := by decide +kernel
theorem dX4_take_49 : decode cX4_take 49 = .ok (.goto 5, 3) := by decide +kernel
theorem dX4_take_52 : decode cX4_take 52 = .ok (.iload 5, 2) := by decide +kernel
theorem dX4_take_54 : decode cX4_take 54 = .ok (.istore 6, 2) := by decide +kernel
theorem dX4_take_56 : decode cX4_take 56 = .ok (.aload_n 0, 1) := by decide +kernel
theorem dX4_take_57 : decode cX4_take 57 = .ok (.getfield 13, 3) := by decide +kernel
theorem dX4_take_60 : decode cX4_take 60 = .ok (.iload 4, 2) := by decide +kernel
theorem dX4_take_62 : decode cX4_take 62 = .ok (.dup2, 1) := by decide +kernel
theorem dX4_take_63 : decode cX4_take 63 = .ok (.iaload, 1) := by decide +kernel
theorem dX4_take_64 : decode cX4_take 64 = .ok (.iload 6, 2) := by decide +kernel
theorem dX4_take_66 : decode cX4_take 66 = .ok (.isub, 1) := by decide +kernel
theorem dX4_take_67 : decode cX4_take 67 = .ok (.iastore, 1) := by decide +kernel
theorem dX4_take_68 : decode cX4_take 68 = .ok (.iload_n 3, 1) := by decide +kernel
theorem dX4_take_69 : decode cX4_take 69 = .ok (.iload 6, 2) := by decide +kernel
theorem dX4_take_71 : decode cX4_take 71 = .ok (.iadd, 1) := by decide +kernel
theorem dX4_take_72 : decode cX4_take 72 = .ok (.istore_n 3, 1) := by decide +kernel
theorem dX4_take_73 : decode cX4_take 73 = .ok (.iinc 4 1, 3) := by decide +kernel
theorem dX4_take_76 : decode cX4_take 76 = .ok (.goto (-71), 3) := by decide +kernel
theorem dX4_take_79 : decode cX4_take 79 = .ok (.aload_n 0, 1) := by decide +kernel
theorem dX4_take_80 : decode cX4_take 80 = .ok (.getfield 31, 3) := by decide +kernel
theorem dX4_take_83 : decode cX4_take 83 = .ok (.iload_n 1, 1) := by decide +kernel
theorem dX4_take_84 : decode cX4_take 84 = .ok (.dup2, 1) := by decide +kernel
theorem dX4_take_85 : decode cX4_take 85 = .ok (.iaload, 1) := by decide +kernel
theorem dX4_take_86 : decode cX4_take 86 = .ok (.iload_n 3, 1) := by decide +kernel
theorem dX4_take_87 : decode cX4_take 87 = .ok (.iadd, 1) := by decide +kernel
theorem dX4_take_88 : decode cX4_take 88 = .ok (.iastore, 1) := by decide +kernel
theorem dX4_take_89 : decode cX4_take 89 = .ok (.iload_n 3, 1) := by decide +kernel
theorem dX4_take_90 : decode cX4_take 90 = .ok (.ireturn, 1) := by decide +kernel
theorem dX4_spoil_0 : decode cX4_spoil 0 = .ok (.iconst 0, 1) := by decide +kernel
theorem dX4_spoil_1 : decode cX4_spoil 1 = .ok (.istore_n 2, 1) := by decide +kernel
theorem dX4_spoil_2 : decode cX4_spoil 2 = .ok (.iload_n 2, 1) := by decide +kernel
theorem dX4_spoil_3 : decode cX4_spoil 3 = .ok (.iconst 3, 1) := by decide +kernel
theorem dX4_spoil_4 : decode cX4_spoil 4 = .ok (.if_icmp .ge 67, 3) := by decide +kernel
theorem dX4_spoil_7 : decode cX4_spoil 7 = .ok (.iconst 0, 1) := by decide +kernel
theorem dX4_spoil_8 : decode cX4_spoil 8 = .ok (.istore_n 3, 1) := by decide +kernel
theorem dX4_spoil_9 : decode cX4_spoil 9 = .ok (.iload_n 3, 1) := by decide +kernel
theorem dX4_spoil_10 : decode cX4_spoil 10 = .ok (.aload_n 0, 1) := by decide +kernel
theorem dX4_spoil_11 : decode cX4_spoil 11 = .ok (.getfield 43, 3) := by decide +kernel
theorem dX4_spoil_14 : decode cX4_spoil 14 = .ok (.if_icmp .ge 51, 3) := by decide +kernel
theorem dX4_spoil_17 : decode cX4_spoil 17 = .ok (.aload_n 0, 1) := by decide +kernel
theorem dX4_spoil_18 : decode cX4_spoil 18 = .ok (.getfield 9, 3) := by decide +kernel
theorem dX4_spoil_21 : decode cX4_spoil 21 = .ok (.iload_n 3, 1) := by decide +kernel
theorem dX4_spoil_22 : decode cX4_spoil 22 = .ok (.iaload, 1) := by decide +kernel
theorem dX4_spoil_23 : decode cX4_spoil 23 = .ok (.iload_n 2, 1) := by decide +kernel
theorem dX4_spoil_24 : decode cX4_spoil 24 = .ok (.if_icmp .ne 35, 3) := by decide +kernel
theorem dX4_spoil_27 : decode cX4_spoil 27 = .ok (.aload_n 0, 1) := by decide +kernel
theorem dX4_spoil_28 : decode cX4_spoil 28 = .ok (.getfield 16, 3) := by decide +kernel
theorem dX4_spoil_31 : decode cX4_spoil 31 = .ok (.iload_n 3, 1) := by decide +kernel
theorem dX4_spoil_32 : decode cX4_spoil 32 = .ok (.iaload, 1) := by decide +kernel
theorem dX4_spoil_33 : decode cX4_spoil 33 = .ok (.iload_n 1, 1) := by decide +kernel
theorem dX4_spoil_34 : decode cX4_spoil 34 = .ok (.if_icmp .ne 25, 3) := by decide +kernel
theorem dX4_spoil_37 : decode cX4_spoil 37 = .ok (.aload_n 0, 1) := by decide +kernel
theorem dX4_spoil_38 : decode cX4_spoil 38 = .ok (.getfield 34, 3) := by decide +kernel
theorem dX4_spoil_41 : decode cX4_spoil 41 = .ok (.iload_n 2, 1) := by decide +kernel
theorem dX4_spoil_42 : decode cX4_spoil 42 = .ok (.dup2, 1) := by decide +kernel
theorem dX4_spoil_43 : decode cX4_spoil 43 = .ok (.iaload, 1) := by decide +kernel
theorem dX4_spoil_44 : decode cX4_spoil 44 = .ok (.aload_n 0, 1) := by decide +kernel
theorem dX4_spoil_45 : decode cX4_spoil 45 = .ok (.getfield 13, 3) := by decide +kernel
theorem dX4_spoil_48 : decode cX4_spoil 48 = .ok (.iload_n 3, 1) := by decide +kernel
theorem dX4_spoil_49 : decode cX4_spoil 49 = .ok (.iaload, 1) := by decide +kernel
theorem dX4_spoil_50 : decode cX4_spoil 50 = .ok (.iadd, 1) := by decide +kernel
theorem dX4_spoil_51 : decode cX4_spoil 51 = .ok (.iastore, 1) := by decide +kernel
theorem dX4_spoil_52 : decode cX4_spoil 52 = .ok (.aload_n 0, 1) := by decide +kernel
theorem dX4_spoil_53 : decode cX4_spoil 53 = .ok (.getfield 13, 3) := by decide +kernel
theorem dX4_spoil_56 : decode cX4_spoil 56 = .ok (.iload_n 3, 1) := by decide +kernel
theorem dX4_spoil_57 : decode cX4_spoil 57 = .ok (.iconst 0, 1) := by decide +kernel
theorem dX4_spoil_58 : decode cX4_spoil 58 = .ok (.iastore, 1) := by decide +kernel
theorem dX4_spoil_59 : decode cX4_spoil 59 = .ok (.iinc 3 1, 3) := by decide +kernel
theorem dX4_spoil_62 : decode cX4_spoil 62 = .ok (.goto (-53), 3) := by decide +kernel
theorem dX4_spoil_65 : decode cX4_spoil 65 = .ok (.iinc 2 1, 3) := by decide +kernel
theorem dX4_spoil_68 : decode cX4_spoil 68 = .ok (.goto (-66), 3) := by decide +kernel
theorem dX4_spoil_71 : decode cX4_spoil 71 = .ok (.return_, 1) := by decide +kernel
theorem dX4_dropEmptyLots_0 : decode cX4_dropEmptyLots 0 = .ok (.iconst 0, 1) := by decide +kernel
theorem dX4_dropEmptyLots_1 : decode cX4_dropEmptyLots 1 = .ok (.istore_n 1, 1) := by decide +kernel
theorem dX4_dropEmptyLots_2 : decode cX4_dropEmptyLots 2 = .ok (.iconst 0, 1) := by decide +kernel
theorem dX4_dropEmptyLots_3 : decode cX4_dropEmptyLots 3 = .ok (.istore_n 2, 1) := by decide +kernel
theorem dX4_dropEmptyLots_4 : decode cX4_dropEmptyLots 4 = .ok (.iload_n 2, 1) := by decide +kernel
theorem dX4_dropEmptyLots_5 : decode cX4_dropEmptyLots 5 = .ok (.aload_n 0, 1) := by decide +kernel
theorem dX4_dropEmptyLots_6 : decode cX4_dropEmptyLots 6 = .ok (.getfield 43, 3) := by decide +kernel
theorem dX4_dropEmptyLots_9 : decode cX4_dropEmptyLots 9 = .ok (.if_icmp .ge 57, 3) := by decide +kernel
theorem dX4_dropEmptyLots_12 : decode cX4_dropEmptyLots 12 = .ok (.aload_n 0, 1) := by decide +kernel
theorem dX4_dropEmptyLots_13 : decode cX4_dropEmptyLots 13 = .ok (.getfield 13, 3) := by decide +kernel
theorem dX4_dropEmptyLots_16 : decode cX4_dropEmptyLots 16 = .ok (.iload_n 2, 1) := by decide +kernel
theorem dX4_dropEmptyLots_17 : decode cX4_dropEmptyLots 17 = .ok (.iaload, 1) := by decide +kernel
theorem dX4_dropEmptyLots_18 : decode cX4_dropEmptyLots 18 = .ok (.ifCond .le 42, 3) := by decide +kernel
theorem dX4_dropEmptyLots_21 : decode cX4_dropEmptyLots 21 = .ok (.aload_n 0, 1) := by decide +kernel
theorem dX4_dropEmptyLots_22 : decode cX4_dropEmptyLots 22 = .ok (.getfield 9, 3) := by decide +kernel
theorem dX4_dropEmptyLots_25 : decode cX4_dropEmptyLots 25 = .ok (.iload_n 1, 1) := by decide +kernel
theorem dX4_dropEmptyLots_26 : decode cX4_dropEmptyLots 26 = .ok (.aload_n 0, 1) := by decide +kernel
theorem dX4_dropEmptyLots_27 : decode cX4_dropEmptyLots 27 = .ok (.getfield 9, 3) := by decide +kernel
theorem dX4_dropEmptyLots_30 : decode cX4_dropEmptyLots 30 = .ok (.iload_n 2, 1) := by decide +kernel
theorem dX4_dropEmptyLots_31 : decode cX4_dropEmptyLots 31 = .ok (.iaload, 1) := by decide +kernel
theorem dX4_dropEmptyLots_32 : decode cX4_dropEmptyLots 32 = .ok (.iastore, 1) := by decide +kernel
theorem dX4_dropEmptyLots_33 : decode cX4_dropEmptyLots 33 = .ok (.aload_n 0, 1) := by decide +kernel
theorem dX4_dropEmptyLots_34 : decode cX4_dropEmptyLots 34 = .ok (.getfield 13, 3) := by decide +kernel
theorem dX4_dropEmptyLots_37 : decode cX4_dropEmptyLots 37 = .ok (.iload_n 1, 1) := by decide +kernel
theorem dX4_dropEmptyLots_38 : decode cX4_dropEmptyLots 38 = .ok (.aload_n 0, 1) := by decide +kernel
theorem dX4_dropEmptyLots_39 : decode cX4_dropEmptyLots 39 = .ok (.getfield 13, 3) := by decide +kernel
theorem dX4_dropEmptyLots_42 : decode cX4_dropEmptyLots 42 = .ok (.iload_n 2, 1) := by decide +kernel
theorem dX4_dropEmptyLots_43 : decode cX4_dropEmptyLots 43 = .ok (.iaload, 1) := by decide +kernel
theorem dX4_dropEmptyLots_44 : decode cX4_dropEmptyLots 44 = .ok (.iastore, 1) := by decide +kernel
theorem dX4_dropEmptyLots_45 : decode cX4_dropEmptyLots 45 = .ok (.aload_n 0, 1) := by decide +kernel
theorem dX4_dropEmptyLots_46 : decode cX4_dropEmptyLots 46 = .ok (.getfield 16, 3) := by decide +kernel
theorem dX4_dropEmptyLots_49 : decode cX4_dropEmptyLots 49 = .ok (.iload_n 1, 1) := by decide +kernel
theorem dX4_dropEmptyLots_50 : decode cX4_dropEmptyLots 50 = .ok (.aload_n 0, 1) := by decide +kernel
theorem dX4_dropEmptyLots_51 : decode cX4_dropEmptyLots 51 = .ok (.getfield 16, 3) := by decide +kernel
theorem dX4_dropEmptyLots_54 : decode cX4_dropEmptyLots 54 = .ok (.iload_n 2, 1) := by decide +kernel
theorem dX4_dropEmptyLots_55 : decode cX4_dropEmptyLots 55 = .ok (.iaload, 1) := by decide +kernel
theorem dX4_dropEmptyLots_56 : decode cX4_dropEmptyLots 56 = .ok (.iastore, 1) := by decide +kernel
theorem dX4_dropEmptyLots_57 : decode cX4_dropEmptyLots 57 = .ok (.iinc 1 1, 3) := by decide +kernel
theorem dX4_dropEmptyLots_60 : decode cX4_dropEmptyLots 60 = .ok (.iinc 2 1, 3) := by decide +kernel
theorem dX4_dropEmptyLots_63 : decode cX4_dropEmptyLots 63 = .ok (.goto (-59), 3) := by decide +kernel
theorem dX4_dropEmptyLots_66 : decode cX4_dropEmptyLots 66 = .ok (.aload_n 0, 1) := by decide +kernel
theorem dX4_dropEmptyLots_67 : decode cX4_dropEmptyLots 67 = .ok (.iload_n 1, 1) := by decide +kernel
theorem dX4_dropEmptyLots_68 : decode cX4_dropEmptyLots 68 = .ok (.putfield 43, 3) := by decide +kernel
theorem dX4_dropEmptyLots_71 : decode cX4_dropEmptyLots 71 = .ok (.return_, 1) := by decide +kernel
theorem dX4_find_0 : decode cX4_find 0 = .ok (.iconst 0, 1) := by decide +kernel
theorem dX4_find_1 : decode cX4_find 1 = .ok (.istore_n 3, 1) := by decide +kernel
theorem dX4_find_2 : decode cX4_find 2 = .ok (.iconst 0, 1) := by decide +kernel
theorem dX4_find_3 : decode cX4_find 3 = .ok (.istore 4, 2) := by decide +kernel
theorem dX4_find_5 : decode cX4_find 5 = .ok (.iload 4, 2) := by decide +kernel
theorem dX4_find_7 : decode cX4_find 7 = .ok (.aload_n 0, 1) := by decide +kernel
theorem dX4_find_8 : decode cX4_find 8 = .ok (.getfield 43, 3) := by decide +kernel
theorem dX4_find_11 : decode cX4_find 11 = .ok (.if_icmp .ge 31, 3) := by decide +kernel
theorem dX4_find_14 : decode cX4_find 14 = .ok (.aload_n 0, 1) := by decide +kernel
theorem dX4_find_15 : decode cX4_find 15 = .ok (.getfield 9, 3) := by decide +kernel
theorem dX4_find_18 : decode cX4_find 18 = .ok (.iload 4, 2) := by decide +kernel
theorem dX4_find_20 : decode cX4_find 20 = .ok (.iaload, 1) := by decide +kernel
theorem dX4_find_21 : decode cX4_find 21 = .ok (.iload_n 1, 1) := by decide +kernel
theorem dX4_find_22 : decode cX4_find 22 = .ok (.if_icmp .ne 14, 3) := by decide +kernel
theorem dX4_find_25 : decode cX4_find 25 = .ok (.iload_n 3, 1) := by decide +kernel
theorem dX4_find_26 : decode cX4_find 26 = .ok (.iload_n 2, 1) := by decide +kernel
theorem dX4_find_27 : decode cX4_find 27 = .ok (.if_icmp .ne 6, 3) := by decide +kernel
theorem dX4_find_30 : decode cX4_find 30 = .ok (.iload 4, 2) := by decide +kernel
theorem dX4_find_32 : decode cX4_find 32 = .ok (.ireturn, 1) := by decide +kernel
theorem dX4_find_33 : decode cX4_find 33 = .ok (.iinc 3 1, 3) := by decide +kernel
theorem dX4_find_36 : decode cX4_find 36 = .ok (.iinc 4 1, 3) := by decide +kernel
theorem dX4_find_39 : decode cX4_find 39 = .ok (.goto (-34), 3) := by decide +kernel
theorem dX4_find_42 : decode cX4_find 42 = .ok (.iconst (-1), 1) := by decide +kernel
theorem dX4_find_43 : decode cX4_find 43 = .ok (.ireturn, 1) := by decide +kernel
theorem dX4_stock_0 : decode cX4_stock 0 = .ok (.iconst 0, 1) := by decide +kernel
theorem dX4_stock_1 : decode cX4_stock 1 = .ok (.istore_n 2, 1) := by decide +kernel
theorem dX4_stock_2 : decode cX4_stock 2 = .ok (.iconst 0, 1) := by decide +kernel
theorem dX4_stock_3 : decode cX4_stock 3 = .ok (.istore_n 3, 1) := by decide +kernel
theorem dX4_stock_4 : decode cX4_stock 4 = .ok (.iload_n 3, 1) := by decide +kernel
theorem dX4_stock_5 : decode cX4_stock 5 = .ok (.aload_n 0, 1) := by decide +kernel
theorem dX4_stock_6 : decode cX4_stock 6 = .ok (.getfield 43, 3) := by decide +kernel
theorem dX4_stock_9 : decode cX4_stock 9 = .ok (.if_icmp .ge 28, 3) := by decide +kernel
theorem dX4_stock_12 : decode cX4_stock 12 = .ok (.aload_n 0, 1) := by decide +kernel
theorem dX4_stock_13 : decode cX4_stock 13 = .ok (.getfield 9, 3) := by decide +kernel
theorem dX4_stock_16 : decode cX4_stock 16 = .ok (.iload_n 3, 1) := by decide +kernel
theorem dX4_stock_17 : decode cX4_stock 17 = .ok (.iaload, 1) := by decide +kernel
theorem dX4_stock_18 : decode cX4_stock 18 = .ok (.iload_n 1, 1) := by decide +kernel
theorem dX4_stock_19 : decode cX4_stock 19 = .ok (.if_icmp .ne 12, 3) := by decide +kernel
theorem dX4_stock_22 : decode cX4_stock 22 = .ok (.iload_n 2, 1) := by decide +kernel
theorem dX4_stock_23 : decode cX4_stock 23 = .ok (.aload_n 0, 1) := by decide +kernel
theorem dX4_stock_24 : decode cX4_stock 24 = .ok (.getfield 13, 3) := by decide +kernel
theorem dX4_stock_27 : decode cX4_stock 27 = .ok (.iload_n 3, 1) := by decide +kernel
theorem dX4_stock_28 : decode cX4_stock 28 = .ok (.iaload, 1) := by decide +kernel
theorem dX4_stock_29 : decode cX4_stock 29 = .ok (.iadd, 1) := by decide +kernel
theorem dX4_stock_30 : decode cX4_stock 30 = .ok (.istore_n 2, 1) := by decide +kernel
theorem dX4_stock_31 : decode cX4_stock 31 = .ok (.iinc 3 1, 3) := by decide +kernel
theorem dX4_stock_34 : decode cX4_stock 34 = .ok (.goto (-30), 3) := by decide +kernel
theorem dX4_stock_37 : decode cX4_stock 37 = .ok (.iload_n 2, 1) := by decide +kernel
theorem dX4_stock_38 : decode cX4_stock 38 = .ok (.ireturn, 1) := by decide +kernel
theorem dX4_lotsOfKind_0 : decode cX4_lotsOfKind 0 = .ok (.iconst 0, 1) := by decide +kernel
theorem dX4_lotsOfKind_1 : decode cX4_lotsOfKind 1 = .ok (.istore_n 2, 1) := by decide +kernel
theorem dX4_lotsOfKind_2 : decode cX4_lotsOfKind 2 = .ok (.iconst 0, 1) := by decide +kernel
theorem dX4_lotsOfKind_3 : decode cX4_lotsOfKind 3 = .ok (.istore_n 3, 1) := by decide +kernel
theorem dX4_lotsOfKind_4 : decode cX4_lotsOfKind 4 = .ok (.iload_n 3, 1) := by decide +kernel
theorem dX4_lotsOfKind_5 : decode cX4_lotsOfKind 5 = .ok (.aload_n 0, 1) := by decide +kernel
theorem dX4_lotsOfKind_6 : decode cX4_lotsOfKind 6 = .ok (.getfield 43, 3) := by decide +kernel
theorem dX4_lotsOfKind_9 : decode cX4_lotsOfKind 9 = .ok (.if_icmp .ge 22, 3) := by decide +kernel
theorem dX4_lotsOfKind_12 : decode cX4_lotsOfKind 12 = .ok (.aload_n 0, 1) := by decide +kernel
theorem dX4_lotsOfKind_13 : decode cX4_lotsOfKind 13 = .ok (.getfield 9, 3) := by decide +kernel
theorem dX4_lotsOfKind_16 : decode cX4_lotsOfKind 16 = .ok (.iload_n 3, 1) := by decide +kernel
theorem dX4_lotsOfKind_17 : decode cX4_lotsOfKind 17 = .ok (.iaload, 1) := by decide +kernel
theorem dX4_lotsOfKind_18 : decode cX4_lotsOfKind 18 = .ok (.iload_n 1, 1) := by decide +kernel
theorem dX4_lotsOfKind_19 : decode cX4_lotsOfKind 19 = .ok (.if_icmp .ne 6, 3) := by decide +kernel
theorem dX4_lotsOfKind_22 : decode cX4_lotsOfKind 22 = .ok (.iinc 2 1, 3) := by decide +kernel
theorem dX4_lotsOfKind_25 : decode cX4_lotsOfKind 25 = .ok (.iinc 3 1, 3) := by decide +kernel
theorem dX4_lotsOfKind_28 : decode cX4_lotsOfKind 28 = .ok (.goto (-24), 3) := by decide +kernel
theorem dX4_lotsOfKind_31 : decode cX4_lotsOfKind 31 = .ok (.iload_n 2, 1) := by decide +kernel
theorem dX4_lotsOfKind_32 : decode cX4_lotsOfKind 32 = .ok (.ireturn, 1) := by decide +kernel
theorem dX4_amountOnPallet_0 : decode cX4_amountOnPallet 0 = .ok (.iconst 0, 1) := by decide +kernel
theorem dX4_amountOnPallet_1 : decode cX4_amountOnPallet 1 = .ok (.istore_n 2, 1) := by decide +kernel
theorem dX4_amountOnPallet_2 : decode cX4_amountOnPallet 2 = .ok (.iconst 0, 1) := by decide +kernel
theorem dX4_amountOnPallet_3 : decode cX4_amountOnPallet 3 = .ok (.istore_n 3, 1) := by decide +kernel
theorem dX4_amountOnPallet_4 : decode cX4_amountOnPallet 4 = .ok (.iload_n 3, 1) := by decide +kernel
theorem dX4_amountOnPallet_5 : decode cX4_amountOnPallet 5 = .ok (.aload_n 0, 1) := by decide +kernel
theorem dX4_amountOnPallet_6 : decode cX4_amountOnPallet 6 = .ok (.getfield 47, 3) := by decide +kernel
theorem dX4_amountOnPallet_9 : decode cX4_amountOnPallet 9 = .ok (.if_icmp .ge 28, 3) := by decide +kernel
theorem dX4_amountOnPallet_12 : decode cX4_amountOnPallet 12 = .ok (.aload_n 0, 1) := by decide +kernel
theorem dX4_amountOnPallet_13 : decode cX4_amountOnPallet 13 = .ok (.getfield 19, 3) := by decide +kernel
theorem dX4_amountOnPallet_16 : decode cX4_amountOnPallet 16 = .ok (.iload_n 3, 1) := by decide +kernel
theorem dX4_amountOnPallet_17 : decode cX4_amountOnPallet 17 = .ok (.iaload, 1) := by decide +kernel
theorem dX4_amountOnPallet_18 : decode cX4_amountOnPallet 18 = .ok (.iload_n 1, 1) := by decide +kernel
theorem dX4_amountOnPallet_19 : decode cX4_amountOnPallet 19 = .ok (.if_icmp .ne 12, 3) := by decide +kernel
theorem dX4_amountOnPallet_22 : decode cX4_amountOnPallet 22 = .ok (.iload_n 2, 1) := by decide +kernel
theorem dX4_amountOnPallet_23 : decode cX4_amountOnPallet 23 = .ok (.aload_n 0, 1) := by decide +kernel
theorem dX4_amountOnPallet_24 : decode cX4_amountOnPallet 24 = .ok (.getfield 22, 3) := by decide +kernel
theorem dX4_amountOnPallet_27 : decode cX4_amountOnPallet 27 = .ok (.iload_n 3, 1) := by decide +kernel
theorem dX4_amountOnPallet_28 : decode cX4_amountOnPallet 28 = .ok (.iaload, 1) := by decide +kernel
theorem dX4_amountOnPallet_29 : decode cX4_amountOnPallet 29 = .ok (.iadd, 1) := by decide +kernel
theorem dX4_amountOnPallet_30 : decode cX4_amountOnPallet 30 = .ok (.istore_n 2, 1) := by decide +kernel
theorem dX4_amountOnPallet_31 : decode cX4_amountOnPallet 31 = .ok (.iinc 3 1, 3) := by decide +kernel
theorem dX4_amountOnPallet_34 : decode cX4_amountOnPallet 34 = .ok (.goto (-30), 3) := by decide +kernel
theorem dX4_amountOnPallet_37 : decode cX4_amountOnPallet 37 = .ok (.iload_n 2, 1) := by decide +kernel
theorem dX4_amountOnPallet_38 : decode cX4_amountOnPallet 38 = .ok (.ireturn, 1) := by decide +kernel
theorem dX5_init_0 : decode cX5_init 0 = .ok (.aload_n 0, 1) := by decide +kernel
theorem dX5_init_1 : decode cX5_init 1 = .ok (.invokespecial 1, 3) := by decide +kernel
theorem dX5_init_4 : decode cX5_init 4 = .ok (.aload_n 0, 1) := by decide +kernel
theorem dX5_init_5 : decode cX5_init 5 = .ok (.bipush 60, 2) := by decide +kernel
theorem dX5_init_7 : decode cX5_init 7 = .ok (.newarray .char, 2) := by decide +kernel
theorem dX5_init_9 : decode cX5_init 9 = .ok (.putfield 9, 3) := by decide +kernel
theorem dX5_init_12 : decode cX5_init 12 = .ok (.aload_n 0, 1) := by decide +kernel
theorem dX5_init_13 : decode cX5_init 13 = .ok (.iconst 3, 1) := by decide +kernel
theorem dX5_init_14 : decode cX5_init 14 = .ok (.newarray .int, 2) := by decide +kernel
theorem dX5_init_16 : decode cX5_init 16 = .ok (.putfield 13, 3) := by decide +kernel
theorem dX5_init_19 : decode cX5_init 19 = .ok (.return_, 1) := by decide +kernel
theorem dX5_append_0 : decode cX5_append 0 = .ok (.aload_n 0, 1) := by decide +kernel
theorem dX5_append_1 : decode cX5_append 1 = .ok (.getfield 17, 3) := by decide +kernel
theorem dX5_append_4 : decode cX5_append 4 = .ok (.bipush 60, 2) := by decide +kernel
theorem dX5_append_6 : decode cX5_append 6 = .ok (.if_icmp .ge 24, 3) := by decide +kernel
theorem dX5_append_9 : decode cX5_append 9 = .ok (.aload_n 0, 1) := by decide +kernel
theorem dX5_append_10 : decode cX5_append 10 = .ok (.getfield 9, 3) := by decide +kernel
theorem dX5_append_13 : decode cX5_append 13 = .ok (.aload_n 0, 1) := by decide +kernel
theorem dX5_append_14 : decode cX5_append 14 = .ok (.getfield 17, 3) := by decide +kernel
theorem dX5_append_17 : decode cX5_append 17 = .ok (.iload_n 1, 1) := by decide +kernel
theorem dX5_append_18 : decode cX5_append 18 = .ok (.i2c, 1) := by decide +kernel
theorem dX5_append_19 : decode cX5_append 19 = .ok (.castore, 1) := by decide +kernel
theorem dX5_append_20 : decode cX5_append 20 = .ok (.aload_n 0, 1) := by decide +kernel
theorem dX5_append_21 : decode cX5_append 21 = .ok (.dup, 1) := by decide +kernel
theorem dX5_append_22 : decode cX5_append 22 = .ok (.getfield 17, 3) := by decide +kernel
theorem dX5_append_25 : decode cX5_append 25 = .ok (.iconst 1, 1) := by decide +kernel
theorem dX5_append_26 : decode cX5_append 26 = .ok (.iadd, 1) := by decide +kernel
theorem dX5_append_27 : decode cX5_append 27 = .ok (.putfield 17, 3) := by decide +kernel
theorem dX5_append_30 : decode cX5_append 30 = .ok (.return_, 1) := by decide +kernel
set_option maxRecDepth 20000 in
theorem ggX5_readCommand_X5_at : GoodIn wsX5_readCommand wsX5_at := goodIn_r _ [8, 9, 10, 27, 28, 29, 30, 31] (by decide +kernel) (by decide +kernel)
set_option maxRecDepth 20000 in
theorem gX5_readCommand_X5_at : GoodIn wsX5_readCommand (wsV RX5 21 RX5 yX5_at wsX5_at) := goodIn_app (goodIn_of _ (by decide +kernel)) ggX5_readCommand_X5_at
set_option maxRecDepth 20000 in
theorem ggX5_readCommand_X5_numbersOf : GoodIn wsX5_readCommand wsX5_numbersOf := goodIn_r _ [14] (by decide +kernel) (by decide +kernel)
set_option maxRecDepth 20000 in
theorem gX5_readCommand_X5_numbersOf : GoodIn wsX5_readCommand (wsV RX5 32 RX5 yX5_numbersOf wsX5_numbersOf) := goodIn_app (goodIn_of _ (by decide +kernel)) ggX5_readCommand_X5_numbersOf
set_option maxRecDepth 20000 in
theorem ggX5_readCommand_X5_passes : GoodIn wsX5_readCommand wsX5_passes := goodIn_r _ [18, 2, 4, 5, 6, 7, 8, 9, 10, 27, 28, 29, 30, 31] (by decide +kernel) (by decide +kernel)
set_option maxRecDepth 20000 in
theorem gX5_readCommand_X5_passes : GoodIn wsX5_readCommand (wsV RX5 36 RX5 yX5_passes wsX5_passes) := goodIn_app (goodIn_of _ (by decide +kernel)) ggX5_readCommand_X5_passes
set_option maxRecDepth 20000 in
theorem ggX5_readCommand_X5_readNumber : GoodIn wsX5_readCommand wsX5_readNumber := goodIn_r _ [22, 2, 23, 24, 25, 26, 4, 5, 6, 7, 8, 9, 10, 27, 28, 29, 30, 31] (by decide +kernel) (by decide +kernel)
set_option maxRecDepth 20000 in
theorem gX5_readCommand_X5_readNumber : GoodIn wsX5_readCommand (wsV RX5 40 RX5 yX5_readNumber wsX5_readNumber) := goodIn_app (goodIn_of _ (by decide +kernel)) ggX5_readCommand_X5_readNumber
theorem dX5_readCommand_0 : decode cX5_readCommand 0 = .ok (.aload_n 0, 1) := by decide +kernel
theorem dX5_readCommand_1 : decode cX5_readCommand 1 = .ok (.aload_n 0, 1) := by decide +kernel
theorem dX5_readCommand_2 : decode cX5_readCommand 2 = .ok (.iload_n 1, 1) := by decide +kernel
theorem dX5_readCommand_3 : decode cX5_readCommand 3 = .ok (.invokevirtual 21, 3) := by decide +kernel
theorem dX5_readCommand_6 : decode cX5_readCommand 6 = .ok (.putfield 25, 3) := by decide +kernel
theorem dX5_readCommand_9 : decode cX5_readCommand 9 = .ok (.aload_n 0, 1) := by decide +kernel
theorem dX5_readCommand_10 : decode cX5_readCommand 10 = .ok (.iload_n 1, 1) := by decide +kernel
theorem dX5_readCommand_11 : decode cX5_readCommand 11 = .ok (.iconst 1, 1) := by decide +kernel
theorem dX5_readCommand_12 : decode cX5_readCommand 12 = .ok (.iadd, 1) := by decide +kernel
theorem dX5_readCommand_13 : decode cX5_readCommand 13 = .ok (.putfield 29, 3) := by decide +kernel
theorem dX5_readCommand_16 : decode cX5_readCommand 16 = .ok (.aload_n 0, 1) := by decide +kernel
theorem dX5_readCommand_17 : decode cX5_readCommand 17 = .ok (.aload_n 0, 1) := by decide +kernel
theorem dX5_readCommand_18 : decode cX5_readCommand 18 = .ok (.getfield 25, 3) := by decide +kernel
theorem dX5_readCommand_21 : decode cX5_readCommand 21 = .ok (.invokevirtual 32, 3) := by decide +kernel
theorem dX5_readCommand_24 : decode cX5_readCommand 24 = .ok (.istore_n 2, 1) := by decide +kernel
theorem dX5_readCommand_25 : decode cX5_readCommand 25 = .ok (.iload_n 2, 1) := by decide +kernel
theorem dX5_readCommand_26 : decode cX5_readCommand 26 = .ok (.ifCond .ge 5, 3) := by decide +kernel
theorem dX5_readCommand_29 : decode cX5_readCommand 29 = .ok (.iconst 0, 1) := by decide +kernel
theorem dX5_readCommand_30 : decode cX5_readCommand 30 = .ok (.ireturn, 1) := by decide +kernel
theorem dX5_readCommand_31 : decode cX5_readCommand 31 = .ok (.iconst 0, 1) := by decide +kernel
theorem dX5_readCommand_32 : decode cX5_readCommand 32 = .ok (.istore_n 3, 1) := by decide +kernel
theorem dX5_readCommand_33 : decode cX5_readCommand 33 = .ok (.iload_n 3, 1) := by decide +kernel
theorem dX5_readCommand_34 : decode cX5_readCommand 34 = .ok (.iload_n 2, 1) := by decide +kernel
theorem dX5_readCommand_35 : decode cX5_readCommand 35 = .ok (.if_icmp .ge 50, 3) := by decide +kernel
theorem dX5_readCommand_38 : decode cX5_readCommand 38 = .ok (.iload_n 3, 1) := by decide +kernel
theorem dX5_readCommand_39 : decode cX5_readCommand 39 = .ok (.iconst 3, 1) := by decide +kernel
theorem dX5_readCommand_40 : decode cX5_readCommand 40 = .ok (.if_icmp .ge 45, 3) := by decide +kernel
theorem dX5_readCommand_43 : decode cX5_readCommand 43 = .ok (.iload_n 3, 1) := by decide +kernel
theorem dX5_readCommand_44 : decode cX5_readCommand 44 = .ok (.ifCond .le 14, 3) := by decide +kernel
theorem dX5_readCommand_47 : decode cX5_readCommand 47 = .ok (.aload_n 0, 1) := by decide +kernel
theorem dX5_readCommand_48 : decode cX5_readCommand 48 = .ok (.bipush 44, 2) := by decide +kernel
theorem dX5_readCommand_50 : decode cX5_readCommand 50 = .ok (.invokevirtual 36, 3) := by decide +kernel
theorem dX5_readCommand_53 : decode cX5_readCommand 53 = .ok (.ifCond .ne 5, 3) := by decide +kernel
theorem dX5_readCommand_56 : decode cX5_readCommand 56 = .ok (.iconst 0, 1) := by decide +kernel
theorem dX5_readCommand_57 : decode cX5_readCommand 57 = .ok (.ireturn, 1) := by decide +kernel
theorem dX5_readCommand_58 : decode cX5_readCommand 58 = .ok (.aload_n 0, 1) := by decide +kernel
theorem dX5_readCommand_59 : decode cX5_readCommand 59 = .ok (.getfield 13, 3) := by decide +kernel
theorem dX5_readCommand_62 : decode cX5_readCommand 62 = .ok (.iload_n 3, 1) := by decide +kernel
theorem dX5_readCommand_63 : decode cX5_readCommand 63 = .ok (.aload_n 0, 1) := by decide +kernel
theorem dX5_readCommand_64 : decode cX5_readCommand 64 = .ok (.invokevirtual 40, 3) := by decide +kernel
theorem dX5_readCommand_67 : decode cX5_readCommand 67 = .ok (.iastore, 1) := by decide +kernel
theorem dX5_readCommand_68 : decode cX5_readCommand 68 = .ok (.aload_n 0, 1) := by decide +kernel
theorem dX5_readCommand_69 : decode cX5_readCommand 69 = .ok (.getfield 13, 3) := by decide +kernel
theorem dX5_readCommand_72 : decode cX5_readCommand 72 = .ok (.iload_n 3, 1) := by decide +kernel
theorem dX5_readCommand_73 : decode cX5_readCommand 73 = .ok (.iaload, 1) := by decide +kernel
theorem dX5_readCommand_74 : decode cX5_readCommand 74 = .ok (.ifCond .ge 5, 3) := by decide +kernel
theorem dX5_readCommand_77 : decode cX5_readCommand 77 = .ok (.iconst 0, 1) := by decide +kernel
theorem dX5_readCommand_78 : decode cX5_readCommand 78 = .ok (.ireturn, 1) := by decide +kernel
theorem dX5_readCommand_79 : decode cX5_readCommand 79 = .ok (.iinc 3 1, 3) := by decide +kernel
theorem dX5_readCommand_82 : decode cX5_readCommand 82 = .ok (.goto (-49), 3) := by decide +kernel
theorem dX5_readCommand_85 : decode cX5_readCommand 85 = .ok (.aload_n 0, 1) := by decide +kernel
theorem dX5_readCommand_86 : decode cX5_readCommand 86 = .ok (.bipush 59, 2) := by decide +kernel
theorem dX5_readCommand_88 : decode cX5_readCommand 88 = .ok (.invokevirtual 36, 3) := by decide +kernel
theorem dX5_readCommand_91 : decode cX5_readCommand 91 = .ok (.ireturn, 1) := by decide +kernel
theorem dX5_numbersOf_0 : decode cX5_numbersOf 0 = .ok (.iload_n 1, 1) := by decide +kernel
theorem dX5_numbersOf_1 : decode cX5_numbersOf 1 = .ok (.lookupswitch 71 #[(98, 63), (102, 61), (108, 59), (110, 69), (115, 67), (120, 65)], 59) := by decide +kernel
theorem dX5_numbersOf_60 : decode cX5_numbersOf 60 = .ok (.iconst 3, 1) := by decide +kernel
theorem dX5_numbersOf_61 : decode cX5_numbersOf 61 = .ok (.ireturn, 1) := by decide +kernel
theorem dX5_numbersOf_62 : decode cX5_numbersOf 62 = .ok (.iconst 0, 1) := by decide +kernel
theorem dX5_numbersOf_63 : decode cX5_numbersOf 63 = .ok (.ireturn, 1) := by decide +kernel
theorem dX5_numbersOf_64 : decode cX5_numbersOf 64 = .ok (.iconst 3, 1) := by decide +kernel
theorem dX5_numbersOf_65 : decode cX5_numbersOf 65 = .ok (.ireturn, 1) := by decide +kernel
theorem dX5_numbersOf_66 : decode cX5_numbersOf 66 = .ok (.iconst 1, 1) := by decide +kernel
theorem dX5_numbersOf_67 : decode cX5_numbersOf 67 = .ok (.ireturn, 1) := by decide +kernel
theorem dX5_numbersOf_68 : decode cX5_numbersOf 68 = .ok (.iconst 2, 1) := by decide +kernel
theorem dX5_numbersOf_69 : decode cX5_numbersOf 69 = .ok (.ireturn, 1) := by decide +kernel
theorem dX5_numbersOf_70 : decode cX5_numbersOf 70 = .ok (.iconst 1, 1) := by decide +kernel
theorem dX5_numbersOf_71 : decode cX5_numbersOf 71 = .ok (.ireturn, 1) := by decide +kernel
theorem dX5_numbersOf_72 : decode cX5_numbersOf 72 = .ok (.iconst (-1), 1) := by decide +kernel
theorem dX5_numbersOf_73 : decode cX5_numbersOf 73 = .ok (.ireturn, 1) := by decide +kernel
set_option maxRecDepth 20000 in
theorem ggX5_readNumber_X5_at : GoodIn wsX5_readNumber wsX5_at := goodIn_r _ [10, 11, 12, 13, 14, 15, 16, 17] (by decide +kernel) (by decide +kernel)
set_option maxRecDepth 20000 in
theorem gX5_readNumber_X5_at : GoodIn wsX5_readNumber (wsV RX5 21 RX5 yX5_at wsX5_at) := goodIn_app (goodIn_of _ (by decide +kernel)) ggX5_readNumber_X5_at
theorem dX5_readNumber_0 : decode cX5_readNumber 0 = .ok (.iconst (-1), 1) := by decide +kernel
theorem dX5_readNumber_1 : decode cX5_readNumber 1 = .ok (.istore_n 1, 1) := by decide +kernel
theorem dX5_readNumber_2 : decode cX5_readNumber 2 = .ok (.iconst 0, 1) := by decide +kernel
theorem dX5_readNumber_3 : decode cX5_readNumber 3 = .ok (.istore_n 2, 1) := by decide +kernel
theorem dX5_readNumber_4 : decode cX5_readNumber 4 = .ok (.iload_n 2, 1) := by decide +kernel
theorem dX5_readNumber_5 : decode cX5_readNumber 5 = .ok (.iconst 3, 1) := by decide +kernel
theorem dX5_readNumber_6 : decode cX5_readNumber 6 = .ok (.if_icmp .ge 56, 3) := by decide +kernel
theorem dX5_readNumber_9 : decode cX5_readNumber 9 = .ok (.aload_n 0, 1) := by decide +kernel
theorem dX5_readNumber_10 : decode cX5_readNumber 10 = .ok (.aload_n 0, 1) := by decide +kernel
theorem dX5_readNumber_11 : decode cX5_readNumber 11 = .ok (.getfield 29, 3) := by decide +kernel
theorem dX5_readNumber_14 : decode cX5_readNumber 14 = .ok (.invokevirtual 21, 3) := by decide +kernel
theorem dX5_readNumber_17 : decode cX5_readNumber 17 = .ok (.istore_n 3, 1) := by decide +kernel
theorem dX5_readNumber_18 : decode cX5_readNumber 18 = .ok (.iload_n 3, 1) := by decide +kernel
theorem dX5_readNumber_19 : decode cX5_readNumber 19 = .ok (.bipush 48, 2) := by decide +kernel
theorem dX5_readNumber_21 : decode cX5_readNumber 21 = .ok (.if_icmp .lt 9, 3) := by decide +kernel
theorem dX5_readNumber_24 : decode cX5_readNumber 24 = .ok (.iload_n 3, 1) := by decide +kernel
theorem dX5_readNumber_25 : decode cX5_readNumber 25 = .ok (.bipush 57, 2) := by decide +kernel
theorem dX5_readNumber_27 : decode cX5_readNumber 27 = .ok (.if_icmp .le 5, 3) := by decide +kernel
theorem dX5_readNumber_30 : decode cX5_readNumber 30 = .ok (.iload_n 1, 1) := by decide +kernel
theorem dX5_readNumber_31 : decode cX5_readNumber 31 = .ok (.ireturn, 1) := by decide +kernel
theorem dX5_readNumber_32 : decode cX5_readNumber 32 = .ok (.iload_n 1, 1) := by decide +kernel
theorem dX5_readNumber_33 : decode cX5_readNumber 33 = .ok (.iconst 0, 1) := by decide +kernel
theorem dX5_readNumber_34 : decode cX5_readNumber 34 = .ok (.invokestatic 44, 3) := by decide +kernel
theorem dX5_readNumber_37 : decode cX5_readNumber 37 = .ok (.bipush 10, 2) := by decide +kernel
theorem dX5_readNumber_39 : decode cX5_readNumber 39 = .ok (.imul, 1) := by decide +kernel
theorem dX5_readNumber_40 : decode cX5_readNumber 40 = .ok (.iload_n 3, 1) := by decide +kernel
theorem dX5_readNumber_41 : decode cX5_readNumber 41 = .ok (.bipush 48, 2) := by decide +kernel
theorem dX5_readNumber_43 : decode cX5_readNumber 43 = .ok (.isub, 1) := by decide +kernel
theorem dX5_readNumber_44 : decode cX5_readNumber 44 = .ok (.iadd, 1) := by decide +kernel
theorem dX5_readNumber_45 : decode cX5_readNumber 45 = .ok (.istore_n 1, 1) := by decide +kernel
theorem dX5_readNumber_46 : decode cX5_readNumber 46 = .ok (.aload_n 0, 1) := by decide +kernel
theorem dX5_readNumber_47 : decode cX5_readNumber 47 = .ok (.dup, 1) := by decide +kernel
theorem dX5_readNumber_48 : decode cX5_readNumber 48 = .ok (.getfield 29, 3) := by decide +kernel
theorem dX5_readNumber_51 : decode cX5_readNumber 51 = .ok (.iconst 1, 1) := by decide +kernel
theorem dX5_readNumber_52 : decode cX5_readNumber 52 = .ok (.iadd, 1) := by decide +kernel
theorem dX5_readNumber_53 : decode cX5_readNumber 53 = .ok (.putfield 29, 3) := by decide +kernel
theorem dX5_readNumber_56 : decode cX5_readNumber 56 = .ok (.iinc 2 1, 3) := by decide +kernel
theorem dX5_readNumber_59 : decode cX5_readNumber 59 = .ok (.goto (-55), 3) := by decide +kernel
theorem dX5_readNumber_62 : decode cX5_readNumber 62 = .ok (.iload_n 1, 1) := by decide +kernel
theorem dX5_readNumber_63 : decode cX5_readNumber 63 = .ok (.ireturn, 1) := by decide +kernel
set_option maxRecDepth 20000 in
theorem ggX5_passes_X5_at : GoodIn wsX5_passes wsX5_at := goodIn_r _ [6, 7, 8, 9, 10, 11, 12, 13] (by decide +kernel) (by decide +kernel)
set_option maxRecDepth 20000 in
theorem gX5_passes_X5_at : GoodIn wsX5_passes (wsV RX5 21 RX5 yX5_at wsX5_at) := goodIn_app (goodIn_of _ (by decide +kernel)) ggX5_passes_X5_at
theorem dX5_passes_0 : decode cX5_passes 0 = .ok (.aload_n 0, 1) := by decide +kernel
theorem dX5_passes_1 : decode cX5_passes 1 = .ok (.aload_n 0, 1) := by decide +kernel
theorem dX5_passes_2 : decode cX5_passes 2 = .ok (.getfield 29, 3) := by decide +kernel
theorem dX5_passes_5 : decode cX5_passes 5 = .ok (.invokevirtual 21, 3) := by decide +kernel
theorem dX5_passes_8 : decode cX5_passes 8 = .ok (.iload_n 1, 1) := by decide +kernel
theorem dX5_passes_9 : decode cX5_passes 9 = .ok (.if_icmp .eq 5, 3) := by decide +kernel
theorem dX5_passes_12 : decode cX5_passes 12 = .ok (.iconst 0, 1) := by decide +kernel
theorem dX5_passes_13 : decode cX5_passes 13 = .ok (.ireturn, 1) := by decide +kernel
theorem dX5_passes_14 : decode cX5_passes 14 = .ok (.aload_n 0, 1) := by decide +kernel
theorem dX5_passes_15 : decode cX5_passes 15 = .ok (.dup, 1) := by decide +kernel
theorem dX5_passes_16 : decode cX5_passes 16 = .ok (.getfield 29, 3) := by decide +kernel
theorem dX5_passes_19 : decode cX5_passes 19 = .ok (.iconst 1, 1) := by decide +kernel
theorem dX5_passes_20 : decode cX5_passes 20 = .ok (.iadd, 1) := by decide +kernel
theorem dX5_passes_21 : decode cX5_passes 21 = .ok (.putfield 29, 3) := by decide +kernel
theorem dX5_passes_24 : decode cX5_passes 24 = .ok (.iconst 1, 1) := by decide +kernel
theorem dX5_passes_25 : decode cX5_passes 25 = .ok (.ireturn, 1) := by decide +kernel
theorem dX5_at_0 : decode cX5_at 0 = .ok (.iload_n 1, 1) := by decide +kernel
theorem dX5_at_1 : decode cX5_at 1 = .ok (.ifCond .lt 20, 3) := by decide +kernel
theorem dX5_at_4 : decode cX5_at 4 = .ok (.iload_n 1, 1) := by decide +kernel
theorem dX5_at_5 : decode cX5_at 5 = .ok (.aload_n 0, 1) := by decide +kernel
theorem dX5_at_6 : decode cX5_at 6 = .ok (.getfield 17, 3) := by decide +kernel
theorem dX5_at_9 : decode cX5_at 9 = .ok (.if_icmp .ge 12, 3) := by decide +kernel
theorem dX5_at_12 : decode cX5_at 12 = .ok (.aload_n 0, 1) := by decide +kernel
theorem dX5_at_13 : decode cX5_at 13 = .ok (.getfield 9, 3) := by decide +kernel
theorem dX5_at_16 : decode cX5_at 16 = .ok (.iload_n 1, 1) := by decide +kernel
theorem dX5_at_17 : decode cX5_at 17 = .ok (.caload, 1) := by decide +kernel
theorem dX5_at_18 : decode cX5_at 18 = .ok (.goto 4, 3) := by decide +kernel
theorem dX5_at_21 : decode cX5_at 21 = .ok (.iconst 0, 1) := by decide +kernel
theorem dX5_at_22 : decode cX5_at 22 = .ok (.ireturn, 1) := by decide +kernel
set_option maxRecDepth 20000 in
theorem ggX6_init_X1_init : GoodIn wsX6_init wsX1_init := goodIn_r _ [25, 26, 2, 3, 27, 28, 29, 30, 31, 32, 33, 34, 35, 36, 37, 38, 39, 40, 41, 42, 43, 44, 45, 46, 47, 48, 49, 50, 51, 52, 53, 54, 55, 56, 57, 58, 59, 60, 61, 62, 115, 116, 117, 118, 119, 120, 121, 122, 123, 124, 125, 85, 86, 87, 88, 89, 90, 91, 92, 93, 94, 126, 127, 128, 129, 130, 131, 132] (by decide +kernel) (by decide +kernel)
set_option maxRecDepth 20000 in
theorem gX6_init_X1_init : GoodIn wsX6_init (wsX1_init) := ggX6_init_X1_init
set_option maxRecDepth 20000 in
theorem ggX6_init_X0_init : GoodIn wsX6_init wsX0_init := goodIn_r _ [65, 66, 2, 3, 67, 68, 5, 6, 69, 24, 25, 26, 27, 28, 29, 30, 31, 32, 33, 34, 35, 36, 37, 38, 39, 40, 41, 42, 43, 44, 45, 46, 47, 48, 49, 50, 51, 52, 53, 54, 55, 56, 57, 58, 59, 60, 61, 62, 102, 103, 85, 86, 87, 88, 89, 90, 91, 92, 93, 94, 115, 116, 117, 118, 119, 120, 121, 122, 123, 124, 125, 126, 127, 128, 129, 130, 131, 132] (by decide +kernel) (by decide +kernel)
set_option maxRecDepth 20000 in
theorem gX6_init_X0_init : GoodIn wsX6_init (wsX0_init) := ggX6_init_X0_init
set_option maxRecDepth 20000 in
theorem ggX6_init_X5_init : GoodIn wsX6_init wsX5_init := goodIn_r _ [72, 73, 2, 3, 74, 75, 37, 76, 104, 105, 106, 107, 108] (by decide +kernel) (by decide +kernel)
set_option maxRecDepth 20000 in
theorem gX6_init_X5_init : GoodIn wsX6_init (wsX5_init) := ggX6_init_X5_init
set_option maxRecDepth 20000 in
theorem ggX6_init_X3_init : GoodIn wsX6_init wsX3_init := goodIn_r _ [79, 80, 2, 3, 81, 5, 6, 82, 83, 84, 24, 25, 26, 27, 28, 29, 30, 31, 32, 33, 34, 35, 36, 37, 38, 39, 40, 41, 42, 43, 44, 45, 46, 47, 48, 49, 50, 51, 52, 53, 54, 55, 56, 57, 58, 59, 60, 61, 62, 85, 86, 87, 88, 89, 90, 91, 92, 93, 94, 109, 110, 111, 112, 113, 114, 115, 116, 117, 118, 119, 120, 121, 122, 123, 124, 125, 126, 127, 128, 129, 130, 131, 132] (by decide +kernel) (by decide +kernel)
set_option maxRecDepth 20000 in
theorem gX6_init_X3_init : GoodIn wsX6_init (wsX3_init) := ggX6_init_X3_init
end
section
theorem dX6_init_0 : decode cX6_init 0 = .ok (.aload_n 0, 1) := by decide +kernel
theorem dX6_init_1 : decode cX6_init 1 = .ok (.invokespecial 1, 3) := by decide +kernel
theorem dX6_init_4 : decode cX6_init 4 = .ok (.aload_n 0, 1) := by decide +kernel
theorem dX6_init_5 : decode cX6_init 5 = .ok (.new 7, 3) := by decide +kernel
theorem dX6_init_8 : decode cX6_init 8 = .ok (.dup, 1) := by decide +kernel
theorem dX6_init_9 : decode cX6_init 9 = .ok (.invokespecial 9, 3) := by decide +kernel
theorem dX6_init_12 : decode cX6_init 12 = .ok (.putfield 10, 3) := by decide +kernel
theorem dX6_init_15 : decode cX6_init 15 = .ok (.aload_n 0, 1) := by decide +kernel
theorem dX6_init_16 : decode cX6_init 16 = .ok (.new 7, 3) := by decide +kernel
theorem dX6_init_19 : decode cX6_init 19 = .ok (.dup, 1) := by decide +kernel
theorem dX6_init_20 : decode cX6_init 20 = .ok (.invokespecial 9, 3) := by decide +kernel
theorem dX6_init_23 : decode cX6_init 23 = .ok (.putfield 16, 3) := by decide +kernel
theorem dX6_init_26 : decode cX6_init 26 = .ok (.aload_n 0, 1) := by decide +kernel
theorem dX6_init_27 : decode cX6_init 27 = .ok (.new 7, 3) := by decide +kernel
theorem dX6_init_30 : decode cX6_init 30 = .ok (.dup, 1) := by decide +kernel
theorem dX6_init_31 : decode cX6_init 31 = .ok (.invokespecial 9, 3) := by decide +kernel
theorem dX6_init_34 : decode cX6_init 34 = .ok (.putfield 19, 3) := by decide +kernel
theorem dX6_init_37 : decode cX6_init 37 = .ok (.aload_n 0, 1) := by decide +kernel
theorem dX6_init_38 : decode cX6_init 38 = .ok (.new 22, 3) := by decide +kernel
theorem dX6_init_41 : decode cX6_init 41 = .ok (.dup, 1) := by decide +kernel
theorem dX6_init_42 : decode cX6_init 42 = .ok (.invokespecial 24, 3) := by decide +kernel
theorem dX6_init_45 : decode cX6_init 45 = .ok (.putfield 25, 3) := by decide +kernel
theorem dX6_init_48 : decode cX6_init 48 = .ok (.aload_n 0, 1) := by decide +kernel
theorem dX6_init_49 : decode cX6_init 49 = .ok (.new 29, 3) := by decide +kernel
theorem dX6_init_52 : decode cX6_init 52 = .ok (.dup, 1) := by decide +kernel
theorem dX6_init_53 : decode cX6_init 53 = .ok (.invokespecial 31, 3) := by decide +kernel
theorem dX6_init_56 : decode cX6_init 56 = .ok (.putfield 32, 3) := by decide +kernel
theorem dX6_init_59 : decode cX6_init 59 = .ok (.aload_n 0, 1) := by decide +kernel
theorem dX6_init_60 : decode cX6_init 60 = .ok (.new 36, 3) := by decide +kernel
theorem dX6_init_63 : decode cX6_init 63 = .ok (.dup, 1) := by decide +kernel
theorem dX6_init_64 : decode cX6_init 64 = .ok (.aload_n 0, 1) := by decide +kernel
theorem dX6_init_65 : decode cX6_init 65 = .ok (.getfield 16, 3) := by decide +kernel
theorem dX6_init_68 : decode cX6_init 68 = .ok (.invokespecial 38, 3) := by decide +kernel
theorem dX6_init_71 : decode cX6_init 71 = .ok (.putfield 41, 3) := by decide +kernel
theorem dX6_init_74 : decode cX6_init 74 = .ok (.aload_n 0, 1) := by decide +kernel
theorem dX6_init_75 : decode cX6_init 75 = .ok (.iconst 0, 1) := by decide +kernel
theorem dX6_init_76 : decode cX6_init 76 = .ok (.putfield 45, 3) := by decide +kernel
theorem dX6_init_79 : decode cX6_init 79 = .ok (.return_, 1) := by decide +kernel
set_option maxRecDepth 20000 in
theorem ggX6_load_X0_prepare : GoodIn wsX6_load wsX0_prepare := goodIn_r _ [7, 8, 9, 10, 11, 12, 13, 14, 15, 16, 17, 18, 19, 20, 21, 22, 23, 24, 25, 26, 27, 28, 29, 30, 31, 32, 33, 34, 35, 36, 37, 38, 39, 40, 41, 42, 43, 44, 45, 46, 47, 48, 49, 50, 51, 52, 53, 54, 55, 56, 57, 58, 87, 88, 89, 90, 91, 92, 93, 94, 95, 96, 97, 98, 99, 100, 101, 102, 103, 104, 105, 106, 107, 108, 109, 110, 111, 112, 113, 114, 115, 116] (by decide +kernel) (by decide +kernel)
set_option maxRecDepth 20000 in
theorem gX6_load_X0_prepare : GoodIn wsX6_load (wsV RX6 49 RX0 yX0_prepare wsX0_prepare) := goodIn_app (goodIn_of _ (by decide +kernel)) ggX6_load_X0_prepare
set_option maxRecDepth 20000 in
theorem ggX6_load_X1_putOnPallet : GoodIn wsX6_load wsX1_putOnPallet := goodIn_r _ [62, 15, 63, 64, 65, 32, 66, 67, 68, 69, 70, 45, 38, 39, 40, 89, 90, 91, 92, 93, 94, 95, 96, 97, 98, 99, 100, 101, 102, 103, 104, 105, 106, 107, 108, 109] (by decide +kernel) (by decide +kernel)
set_option maxRecDepth 20000 in
theorem gX6_load_X1_putOnPallet : GoodIn wsX6_load (wsV RX6 52 RX1 yX1_putOnPallet wsX1_putOnPallet) := goodIn_app (goodIn_of _ (by decide +kernel)) ggX6_load_X1_putOnPallet
set_option maxRecDepth 20000 in
theorem ggX6_load_X6_recorded : GoodIn wsX6_load wsX6_recorded := goodIn_r _ [75, 1, 76, 77, 78, 6, 79, 8, 9, 80, 81, 82, 83, 84, 85, 86, 87, 88] (by decide +kernel) (by decide +kernel)
set_option maxRecDepth 20000 in
theorem gX6_load_X6_recorded : GoodIn wsX6_load (wsV RX6 56 RX6 yX6_recorded wsX6_recorded) := goodIn_app (goodIn_of _ (by decide +kernel)) ggX6_load_X6_recorded
theorem dX6_load_0 : decode cX6_load 0 = .ok (.aload_n 0, 1) := by decide +kernel
theorem dX6_load_1 : decode cX6_load 1 = .ok (.getfield 25, 3) := by decide +kernel
theorem dX6_load_4 : decode cX6_load 4 = .ok (.aload_n 0, 1) := by decide +kernel
theorem dX6_load_5 : decode cX6_load 5 = .ok (.getfield 10, 3) := by decide +kernel
theorem dX6_load_8 : decode cX6_load 8 = .ok (.invokevirtual 49, 3) := by decide +kernel
theorem dX6_load_11 : decode cX6_load 11 = .ok (.aload_n 0, 1) := by decide +kernel
theorem dX6_load_12 : decode cX6_load 12 = .ok (.aload_n 0, 1) := by decide +kernel
theorem dX6_load_13 : decode cX6_load 13 = .ok (.getfield 10, 3) := by decide +kernel
theorem dX6_load_16 : decode cX6_load 16 = .ok (.iload_n 1, 1) := by decide +kernel
theorem dX6_load_17 : decode cX6_load 17 = .ok (.iload_n 2, 1) := by decide +kernel
theorem dX6_load_18 : decode cX6_load 18 = .ok (.iload_n 3, 1) := by decide +kernel
theorem dX6_load_19 : decode cX6_load 19 = .ok (.invokevirtual 52, 3) := by decide +kernel
theorem dX6_load_22 : decode cX6_load 22 = .ok (.invokevirtual 56, 3) := by decide +kernel
theorem dX6_load_25 : decode cX6_load 25 = .ok (.ireturn, 1) := by decide +kernel
set_option maxRecDepth 20000 in
theorem ggX6_fly_X0_prepare : GoodIn wsX6_fly wsX0_prepare := goodIn_r _ [7, 8, 9, 10, 11, 12, 13, 14, 15, 16, 17, 18, 19, 20, 21, 22, 23, 24, 25, 26, 27, 28, 29, 30, 31, 32, 33, 34, 35, 36, 37, 38, 39, 40, 41, 42, 43, 44, 45, 46, 47, 48, 49, 50, 51, 52, 53, 54, 55, 56, 57, 58, 96, 97, 98, 99, 100, 101, 102, 103, 104, 105, 106, 107, 108, 109, 110, 111, 112, 113, 114, 115, 116, 117, 118, 119, 120, 121, 122, 123, 124, 125] (by decide +kernel) (by decide +kernel)
set_option maxRecDepth 20000 in
theorem gX6_fly_X0_prepare : GoodIn wsX6_fly (wsV RX6 49 RX0 yX0_prepare wsX0_prepare) := goodIn_app (goodIn_of _ (by decide +kernel)) ggX6_fly_X0_prepare
set_option maxRecDepth 20000 in
theorem ggX6_fly_X1_bringPallet : GoodIn wsX6_fly wsX1_bringPallet := goodIn_r _ [62, 15, 63, 24, 22, 64, 23, 65, 66, 67, 13, 68, 17, 69, 70, 71, 32, 72, 45, 38, 39, 40, 73, 74, 75, 76, 44, 37, 34, 36, 41, 77, 78, 79, 98, 99, 100, 101, 102, 103, 104, 105, 106, 107, 108, 109, 110, 111, 112, 113, 114, 115, 116, 117, 118] (by decide +kernel) (by decide +kernel)
set_option maxRecDepth 20000 in
theorem gX6_fly_X1_bringPallet : GoodIn wsX6_fly (wsV RX6 60 RX1 yX1_bringPallet wsX1_bringPallet) := goodIn_app (goodIn_of _ (by decide +kernel)) ggX6_fly_X1_bringPallet
set_option maxRecDepth 20000 in
theorem ggX6_fly_X6_recorded : GoodIn wsX6_fly wsX6_recorded := goodIn_r _ [84, 1, 85, 86, 87, 6, 88, 8, 9, 89, 90, 91, 92, 93, 94, 95, 96, 97] (by decide +kernel) (by decide +kernel)
set_option maxRecDepth 20000 in
theorem gX6_fly_X6_recorded : GoodIn wsX6_fly (wsV RX6 56 RX6 yX6_recorded wsX6_recorded) := goodIn_app (goodIn_of _ (by decide +kernel)) ggX6_fly_X6_recorded
theorem dX6_fly_0 : decode cX6_fly 0 = .ok (.aload_n 0, 1) := by decide +kernel
theorem dX6_fly_1 : decode cX6_fly 1 = .ok (.getfield 25, 3) := by decide +kernel
theorem dX6_fly_4 : decode cX6_fly 4 = .ok (.aload_n 0, 1) := by decide +kernel
theorem dX6_fly_5 : decode cX6_fly 5 = .ok (.getfield 10, 3) := by decide +kernel
theorem dX6_fly_8 : decode cX6_fly 8 = .ok (.invokevirtual 49, 3) := by decide +kernel
theorem dX6_fly_11 : decode cX6_fly 11 = .ok (.aload_n 0, 1) := by decide +kernel
theorem dX6_fly_12 : decode cX6_fly 12 = .ok (.aload_n 0, 1) := by decide +kernel
theorem dX6_fly_13 : decode cX6_fly 13 = .ok (.getfield 10, 3) := by decide +kernel
theorem dX6_fly_16 : decode cX6_fly 16 = .ok (.invokevirtual 60, 3) := by decide +kernel
theorem dX6_fly_19 : decode cX6_fly 19 = .ok (.invokevirtual 56, 3) := by decide +kernel
theorem dX6_fly_22 : decode cX6_fly 22 = .ok (.ireturn, 1) := by decide +kernel
set_option maxRecDepth 20000 in
theorem ggX6_book_X0_prepare : GoodIn wsX6_book wsX0_prepare := goodIn_r _ [8, 9, 10, 11, 12, 13, 14, 15, 16, 17, 18, 19, 20, 21, 22, 23, 24, 25, 26, 27, 28, 29, 30, 31, 32, 33, 34, 35, 36, 37, 38, 39, 40, 41, 42, 43, 44, 45, 46, 47, 48, 49, 50, 51, 52, 53, 54, 55, 56, 57, 58, 59, 150, 151, 152, 153, 154, 155, 156, 157, 158, 159, 160, 161, 162, 163, 164, 165, 166, 167, 168, 169, 170, 171, 172, 173, 174, 175, 176, 177, 178, 179] (by decide +kernel) (by decide +kernel)
set_option maxRecDepth 20000 in
theorem gX6_book_X0_prepare : GoodIn wsX6_book (wsV RX6 49 RX0 yX0_prepare wsX0_prepare) := goodIn_app (goodIn_of _ (by decide +kernel)) ggX6_book_X0_prepare
set_option maxRecDepth 20000 in
theorem ggX6_book_X1_takeBooking : GoodIn wsX6_book wsX1_takeBooking := goodIn_r _ [63, 17, 64, 65, 66, 67, 14, 68, 24, 69, 70, 71, 72, 73, 12, 13, 15, 16, 18, 19, 20, 21, 22, 23, 25, 26, 27, 28, 29, 30, 31, 32, 33, 34, 35, 36, 37, 38, 39, 40, 41, 42, 43, 44, 45, 46, 47, 48, 49, 50, 51, 52, 53, 54, 55, 56, 57, 58, 59, 74, 75, 76, 77, 78, 79, 80, 81, 82, 83, 84, 85, 86, 87, 88, 89, 90, 91, 92, 93, 94, 95, 96, 97, 98, 99, 100, 101, 102, 103, 104, 105, 106, 107, 108, 109, 110, 111, 112, 113, 114, 115, 116, 117, 118, 119, 120, 121, 122, 123, 124, 125, 126, 127, 128, 129, 130, 131, 132, 133, 152, 153, 154, 155, 156, 157, 158, 159, 160, 161, 173, 174, 175, 176, 177, 178, 179, 162, 163, 164, 165, 166, 167, 168, 169, 170, 171, 172] (by decide +kernel) (by decide +kernel)
set_option maxRecDepth 20000 in
theorem gX6_book_X1_takeBooking : GoodIn wsX6_book (wsV RX6 64 RX1 yX1_takeBooking wsX1_takeBooking) := goodIn_app (goodIn_of _ (by decide +kernel)) ggX6_book_X1_takeBooking
set_option maxRecDepth 20000 in
theorem ggX6_book_X6_recorded : GoodIn wsX6_book wsX6_recorded := goodIn_r _ [138, 1, 139, 140, 141, 7, 142, 9, 10, 143, 144, 145, 146, 147, 148, 149, 150, 151] (by decide +kernel) (by decide +kernel)
set_option maxRecDepth 20000 in
theorem gX6_book_X6_recorded : GoodIn wsX6_book (wsV RX6 56 RX6 yX6_recorded wsX6_recorded) := goodIn_app (goodIn_of _ (by decide +kernel)) ggX6_book_X6_recorded
theorem dX6_book_0 : decode cX6_book 0 = .ok (.aload_n 0, 1) := by decide +kernel
theorem dX6_book_1 : decode cX6_book 1 = .ok (.getfield 25, 3) := by decide +kernel
theorem dX6_book_4 : decode cX6_book 4 = .ok (.aload_n 0, 1) := by decide +kernel
theorem dX6_book_5 : decode cX6_book 5 = .ok (.getfield 10, 3) := by decide +kernel
theorem dX6_book_8 : decode cX6_book 8 = .ok (.invokevirtual 49, 3) := by decide +kernel
theorem dX6_book_11 : decode cX6_book 11 = .ok (.aload_n 0, 1) := by decide +kernel
theorem dX6_book_12 : decode cX6_book 12 = .ok (.aload_n 0, 1) := by decide +kernel
theorem dX6_book_13 : decode cX6_book 13 = .ok (.getfield 10, 3) := by decide +kernel
theorem dX6_book_16 : decode cX6_book 16 = .ok (.iload_n 1, 1) := by decide +kernel
theorem dX6_book_17 : decode cX6_book 17 = .ok (.iload_n 2, 1) := by decide +kernel
theorem dX6_book_18 : decode cX6_book 18 = .ok (.iload_n 3, 1) := by decide +kernel
theorem dX6_book_19 : decode cX6_book 19 = .ok (.aload_n 0, 1) := by decide +kernel
theorem dX6_book_20 : decode cX6_book 20 = .ok (.getfield 16, 3) := by decide +kernel
theorem dX6_book_23 : decode cX6_book 23 = .ok (.invokevirtual 64, 3) := by decide +kernel
theorem dX6_book_26 : decode cX6_book 26 = .ok (.invokevirtual 56, 3) := by decide +kernel
theorem dX6_book_29 : decode cX6_book 29 = .ok (.ireturn, 1) := by decide +kernel
set_option maxRecDepth 20000 in
theorem ggX6_cancel_X0_prepare : GoodIn wsX6_cancel wsX0_prepare := goodIn_r _ [7, 8, 9, 10, 11, 12, 13, 14, 15, 16, 17, 18, 19, 20, 21, 22, 23, 24, 25, 26, 27, 28, 29, 30, 31, 32, 33, 34, 35, 36, 37, 38, 39, 40, 41, 42, 43, 44, 45, 46, 47, 48, 49, 50, 51, 52, 53, 54, 55, 56, 57, 58, 88, 89, 90, 91, 92, 93, 94, 95, 96, 97, 98, 99, 100, 101, 102, 103, 104, 105, 106, 107, 108, 109, 110, 111, 112, 113, 114, 115, 116, 117] (by decide +kernel) (by decide +kernel)
set_option maxRecDepth 20000 in
theorem gX6_cancel_X0_prepare : GoodIn wsX6_cancel (wsV RX6 49 RX0 yX0_prepare wsX0_prepare) := goodIn_app (goodIn_of _ (by decide +kernel)) ggX6_cancel_X0_prepare
set_option maxRecDepth 20000 in
theorem ggX6_cancel_X1_callOff : GoodIn wsX6_cancel wsX1_callOff := goodIn_r _ [62, 16, 63, 64, 65, 66, 49, 67, 58, 68, 69, 70, 71, 55, 90, 91, 92, 93, 94, 95, 96, 97, 98, 99, 111, 112, 113, 114, 115, 116, 117] (by decide +kernel) (by decide +kernel)
set_option maxRecDepth 20000 in
theorem gX6_cancel_X1_callOff : GoodIn wsX6_cancel (wsV RX6 68 RX1 yX1_callOff wsX1_callOff) := goodIn_app (goodIn_of _ (by decide +kernel)) ggX6_cancel_X1_callOff
set_option maxRecDepth 20000 in
theorem ggX6_cancel_X6_recorded : GoodIn wsX6_cancel wsX6_recorded := goodIn_r _ [76, 1, 77, 78, 79, 6, 80, 8, 9, 81, 82, 83, 84, 85, 86, 87, 88, 89] (by decide +kernel) (by decide +kernel)
set_option maxRecDepth 20000 in
theorem gX6_cancel_X6_recorded : GoodIn wsX6_cancel (wsV RX6 56 RX6 yX6_recorded wsX6_recorded) := goodIn_app (goodIn_of _ (by decide +kernel)) ggX6_cancel_X6_recorded
theorem dX6_cancel_0 : decode cX6_cancel 0 = .ok (.aload_n 0, 1) := by decide +kernel
theorem dX6_cancel_1 : decode cX6_cancel 1 = .ok (.getfield 25, 3) := by decide +kernel
theorem dX6_cancel_4 : decode cX6_cancel 4 = .ok (.aload_n 0, 1) := by decide +kernel
theorem dX6_cancel_5 : decode cX6_cancel 5 = .ok (.getfield 10, 3) := by decide +kernel
theorem dX6_cancel_8 : decode cX6_cancel 8 = .ok (.invokevirtual 49, 3) := by decide +kernel
theorem dX6_cancel_11 : decode cX6_cancel 11 = .ok (.aload_n 0, 1) := by decide +kernel
theorem dX6_cancel_12 : decode cX6_cancel 12 = .ok (.aload_n 0, 1) := by decide +kernel
theorem dX6_cancel_13 : decode cX6_cancel 13 = .ok (.getfield 10, 3) := by decide +kernel
theorem dX6_cancel_16 : decode cX6_cancel 16 = .ok (.iload_n 1, 1) := by decide +kernel
theorem dX6_cancel_17 : decode cX6_cancel 17 = .ok (.invokevirtual 68, 3) := by decide +kernel
theorem dX6_cancel_20 : decode cX6_cancel 20 = .ok (.invokevirtual 56, 3) := by decide +kernel
theorem dX6_cancel_23 : decode cX6_cancel 23 = .ok (.ireturn, 1) := by decide +kernel
set_option maxRecDepth 20000 in
theorem ggX6_storm_X0_prepare : GoodIn wsX6_storm wsX0_prepare := goodIn_r _ [7, 8, 9, 10, 11, 12, 13, 14, 15, 16, 17, 18, 19, 20, 21, 22, 23, 24, 25, 26, 27, 28, 29, 30, 31, 32, 33, 34, 35, 36, 37, 38, 39, 40, 41, 42, 43, 44, 45, 46, 47, 48, 49, 50, 51, 52, 53, 54, 55, 56, 57, 58, 79, 80, 81, 82, 83, 84, 85, 86, 87, 88, 89, 90, 91, 92, 93, 94, 95, 96, 97, 98, 99, 100, 101, 102, 103, 104, 105, 106, 107, 108] (by decide +kernel) (by decide +kernel)
set_option maxRecDepth 20000 in
theorem gX6_storm_X0_prepare : GoodIn wsX6_storm (wsV RX6 49 RX0 yX0_prepare wsX0_prepare) := goodIn_app (goodIn_of _ (by decide +kernel)) ggX6_storm_X0_prepare
set_option maxRecDepth 20000 in
theorem ggX6_storm_X1_tellStorm : GoodIn wsX6_storm wsX1_tellStorm := goodIn_r _ [62, 23, 17, 81, 82, 83, 84, 85, 86, 87, 88, 89, 90] (by decide +kernel) (by decide +kernel)
set_option maxRecDepth 20000 in
theorem gX6_storm_X1_tellStorm : GoodIn wsX6_storm (wsV RX6 71 RX1 yX1_tellStorm wsX1_tellStorm) := goodIn_app (goodIn_of _ (by decide +kernel)) ggX6_storm_X1_tellStorm
set_option maxRecDepth 20000 in
theorem ggX6_storm_X6_recorded : GoodIn wsX6_storm wsX6_recorded := goodIn_r _ [67, 1, 68, 69, 70, 6, 71, 8, 9, 72, 73, 74, 75, 76, 77, 78, 79, 80] (by decide +kernel) (by decide +kernel)
set_option maxRecDepth 20000 in
theorem gX6_storm_X6_recorded : GoodIn wsX6_storm (wsV RX6 56 RX6 yX6_recorded wsX6_recorded) := goodIn_app (goodIn_of _ (by decide +kernel)) ggX6_storm_X6_recorded
theorem dX6_storm_0 : decode cX6_storm 0 = .ok (.aload_n 0, 1) := by decide +kernel
theorem dX6_storm_1 : decode cX6_storm 1 = .ok (.getfield 25, 3) := by decide +kernel
theorem dX6_storm_4 : decode cX6_storm 4 = .ok (.aload_n 0, 1) := by decide +kernel
theorem dX6_storm_5 : decode cX6_storm 5 = .ok (.getfield 10, 3) := by decide +kernel
theorem dX6_storm_8 : decode cX6_storm 8 = .ok (.invokevirtual 49, 3) := by decide +kernel
theorem dX6_storm_11 : decode cX6_storm 11 = .ok (.aload_n 0, 1) := by decide +kernel
theorem dX6_storm_12 : decode cX6_storm 12 = .ok (.aload_n 0, 1) := by decide +kernel
theorem dX6_storm_13 : decode cX6_storm 13 = .ok (.getfield 10, 3) := by decide +kernel
theorem dX6_storm_16 : decode cX6_storm 16 = .ok (.iload_n 1, 1) := by decide +kernel
theorem dX6_storm_17 : decode cX6_storm 17 = .ok (.iload_n 2, 1) := by decide +kernel
theorem dX6_storm_18 : decode cX6_storm 18 = .ok (.invokevirtual 71, 3) := by decide +kernel
theorem dX6_storm_21 : decode cX6_storm 21 = .ok (.invokevirtual 56, 3) := by decide +kernel
theorem dX6_storm_24 : decode cX6_storm 24 = .ok (.ireturn, 1) := by decide +kernel
set_option maxRecDepth 20000 in
theorem ggX6_clear_X0_prepare : GoodIn wsX6_clear wsX0_prepare := goodIn_r _ [7, 8, 9, 10, 11, 12, 13, 14, 15, 16, 17, 18, 19, 20, 21, 22, 23, 24, 25, 26, 27, 28, 29, 30, 31, 32, 33, 34, 35, 36, 37, 38, 39, 40, 41, 42, 43, 44, 45, 46, 47, 48, 49, 50, 51, 52, 53, 54, 55, 56, 57, 58, 79, 80, 81, 82, 83, 84, 85, 86, 87, 88, 89, 90, 91, 92, 93, 94, 95, 96, 97, 98, 99, 100, 101, 102, 103, 104, 105, 106, 107, 108] (by decide +kernel) (by decide +kernel)
set_option maxRecDepth 20000 in
theorem gX6_clear_X0_prepare : GoodIn wsX6_clear (wsV RX6 49 RX0 yX0_prepare wsX0_prepare) := goodIn_app (goodIn_of _ (by decide +kernel)) ggX6_clear_X0_prepare
set_option maxRecDepth 20000 in
theorem ggX6_clear_X1_tellCalm : GoodIn wsX6_clear wsX1_tellCalm := goodIn_r _ [62, 23, 17, 81, 82, 83, 84, 85, 86, 87, 88, 89, 90] (by decide +kernel) (by decide +kernel)
set_option maxRecDepth 20000 in
theorem gX6_clear_X1_tellCalm : GoodIn wsX6_clear (wsV RX6 75 RX1 yX1_tellCalm wsX1_tellCalm) := goodIn_app (goodIn_of _ (by decide +kernel)) ggX6_clear_X1_tellCalm
set_option maxRecDepth 20000 in
theorem ggX6_clear_X6_recorded : GoodIn wsX6_clear wsX6_recorded := goodIn_r _ [67, 1, 68, 69, 70, 6, 71, 8, 9, 72, 73, 74, 75, 76, 77, 78, 79, 80] (by decide +kernel) (by decide +kernel)
set_option maxRecDepth 20000 in
theorem gX6_clear_X6_recorded : GoodIn wsX6_clear (wsV RX6 56 RX6 yX6_recorded wsX6_recorded) := goodIn_app (goodIn_of _ (by decide +kernel)) ggX6_clear_X6_recorded
theorem dX6_clear_0 : decode cX6_clear 0 = .ok (.aload_n 0, 1) := by decide +kernel
theorem dX6_clear_1 : decode cX6_clear 1 = .ok (.getfield 25, 3) := by decide +kernel
theorem dX6_clear_4 : decode cX6_clear 4 = .ok (.aload_n 0, 1) := by decide +kernel
theorem dX6_clear_5 : decode cX6_clear 5 = .ok (.getfield 10, 3) := by decide +kernel
theorem dX6_clear_8 : decode cX6_clear 8 = .ok (.invokevirtual 49, 3) := by decide +kernel
theorem dX6_clear_11 : decode cX6_clear 11 = .ok (.aload_n 0, 1) := by decide +kernel
theorem dX6_clear_12 : decode cX6_clear 12 = .ok (.aload_n 0, 1) := by decide +kernel
theorem dX6_clear_13 : decode cX6_clear 13 = .ok (.getfield 10, 3) := by decide +kernel
theorem dX6_clear_16 : decode cX6_clear 16 = .ok (.iload_n 1, 1) := by decide +kernel
theorem dX6_clear_17 : decode cX6_clear 17 = .ok (.invokevirtual 75, 3) := by decide +kernel
theorem dX6_clear_20 : decode cX6_clear 20 = .ok (.invokevirtual 56, 3) := by decide +kernel
theorem dX6_clear_23 : decode cX6_clear 23 = .ok (.ireturn, 1) := by decide +kernel
set_option maxRecDepth 20000 in
theorem ggX6_sleep_X0_prepare : GoodIn wsX6_sleep wsX0_prepare := goodIn_r _ [7, 8, 9, 10, 11, 12, 13, 14, 15, 16, 17, 18, 19, 20, 21, 22, 23, 24, 25, 26, 27, 28, 29, 30, 31, 32, 33, 34, 35, 36, 37, 38, 39, 40, 41, 42, 43, 44, 45, 46, 47, 48, 49, 50, 51, 52, 53, 54, 55, 56, 57, 58, 131, 132, 133, 134, 135, 136, 137, 138, 139, 140, 141, 142, 143, 144, 145, 146, 147, 148, 149, 150, 151, 152, 153, 154, 155, 156, 157, 158, 159, 160] (by decide +kernel) (by decide +kernel)
set_option maxRecDepth 20000 in
theorem gX6_sleep_X0_prepare : GoodIn wsX6_sleep (wsV RX6 49 RX0 yX0_prepare wsX0_prepare) := goodIn_app (goodIn_of _ (by decide +kernel)) ggX6_sleep_X0_prepare
set_option maxRecDepth 20000 in
theorem ggX6_sleep_X1_passNights : GoodIn wsX6_sleep wsX1_passNights := goodIn_r _ [62, 23, 25, 63, 64, 65, 13, 66, 16, 22, 15, 28, 67, 68, 69, 70, 26, 27, 71, 72, 73, 74, 17, 75, 76, 77, 49, 78, 58, 55, 56, 54, 79, 80, 81, 82, 51, 83, 84, 85, 86, 53, 57, 87, 88, 89, 32, 90, 44, 34, 36, 91, 92, 93, 94, 95, 96, 97, 98, 42, 99, 100, 101, 102, 103, 104, 105, 106, 107, 108, 109, 110, 37, 43, 111, 112, 113, 114, 133, 134, 135, 136, 137, 138, 139, 140, 141, 142, 154, 155, 156, 157, 158, 159, 160, 143, 144, 145, 146, 147, 148, 149, 150, 151, 152, 153] (by decide +kernel) (by decide +kernel)
set_option maxRecDepth 20000 in
theorem gX6_sleep_X1_passNights : GoodIn wsX6_sleep (wsV RX6 78 RX1 yX1_passNights wsX1_passNights) := goodIn_app (goodIn_of _ (by decide +kernel)) ggX6_sleep_X1_passNights
set_option maxRecDepth 20000 in
theorem ggX6_sleep_X6_recorded : GoodIn wsX6_sleep wsX6_recorded := goodIn_r _ [119, 1, 120, 121, 122, 6, 123, 8, 9, 124, 125, 126, 127, 128, 129, 130, 131, 132] (by decide +kernel) (by decide +kernel)
set_option maxRecDepth 20000 in
theorem gX6_sleep_X6_recorded : GoodIn wsX6_sleep (wsV RX6 56 RX6 yX6_recorded wsX6_recorded) := goodIn_app (goodIn_of _ (by decide +kernel)) ggX6_sleep_X6_recorded
theorem dX6_sleep_0 : decode cX6_sleep 0 = .ok (.aload_n 0, 1) := by decide +kernel
theorem dX6_sleep_1 : decode cX6_sleep 1 = .ok (.getfield 25, 3) := by decide +kernel
theorem dX6_sleep_4 : decode cX6_sleep 4 = .ok (.aload_n 0, 1) := by decide +kernel
theorem dX6_sleep_5 : decode cX6_sleep 5 = .ok (.getfield 10, 3) := by decide +kernel
theorem dX6_sleep_8 : decode cX6_sleep 8 = .ok (.invokevirtual 49, 3) := by decide +kernel
theorem dX6_sleep_11 : decode cX6_sleep 11 = .ok (.aload_n 0, 1) := by decide +kernel
theorem dX6_sleep_12 : decode cX6_sleep 12 = .ok (.aload_n 0, 1) := by decide +kernel
theorem dX6_sleep_13 : decode cX6_sleep 13 = .ok (.getfield 10, 3) := by decide +kernel
theorem dX6_sleep_16 : decode cX6_sleep 16 = .ok (.iload_n 1, 1) := by decide +kernel
theorem dX6_sleep_17 : decode cX6_sleep 17 = .ok (.invokevirtual 78, 3) := by decide +kernel
theorem dX6_sleep_20 : decode cX6_sleep 20 = .ok (.invokevirtual 56, 3) := by decide +kernel
theorem dX6_sleep_23 : decode cX6_sleep 23 = .ok (.ireturn, 1) := by decide +kernel
set_option maxRecDepth 20000 in
theorem ggX6_set_X0_prepare : GoodIn wsX6_set wsX0_prepare := goodIn_r _ [7, 8, 9, 10, 11, 12, 13, 14, 15, 16, 17, 18, 19, 20, 21, 22, 23, 24, 25, 26, 27, 28, 29, 30, 31, 32, 33, 34, 35, 36, 37, 38, 39, 40, 41, 42, 43, 44, 45, 46, 47, 48, 49, 50, 51, 52, 53, 54, 55, 56, 57, 58, 81, 82, 83, 84, 85, 86, 87, 88, 89, 90, 91, 92, 93, 94, 95, 96, 97, 98, 99, 100, 101, 102, 103, 104, 105, 106, 107, 108, 109, 110] (by decide +kernel) (by decide +kernel)
set_option maxRecDepth 20000 in
theorem gX6_set_X0_prepare : GoodIn wsX6_set (wsV RX6 49 RX0 yX0_prepare wsX0_prepare) := goodIn_app (goodIn_of _ (by decide +kernel)) ggX6_set_X0_prepare
set_option maxRecDepth 20000 in
theorem ggX6_set_X1_changeSetting : GoodIn wsX6_set wsX1_changeSetting := goodIn_r _ [62, 63, 64, 22, 83, 84, 85, 86, 87, 88, 89, 90, 91, 92] (by decide +kernel) (by decide +kernel)
set_option maxRecDepth 20000 in
theorem gX6_set_X1_changeSetting : GoodIn wsX6_set (wsV RX6 81 RX1 yX1_changeSetting wsX1_changeSetting) := goodIn_app (goodIn_of _ (by decide +kernel)) ggX6_set_X1_changeSetting
set_option maxRecDepth 20000 in
theorem ggX6_set_X6_recorded : GoodIn wsX6_set wsX6_recorded := goodIn_r _ [69, 1, 70, 71, 72, 6, 73, 8, 9, 74, 75, 76, 77, 78, 79, 80, 81, 82] (by decide +kernel) (by decide +kernel)
set_option maxRecDepth 20000 in
theorem gX6_set_X6_recorded : GoodIn wsX6_set (wsV RX6 56 RX6 yX6_recorded wsX6_recorded) := goodIn_app (goodIn_of _ (by decide +kernel)) ggX6_set_X6_recorded
theorem dX6_set_0 : decode cX6_set 0 = .ok (.aload_n 0, 1) := by decide +kernel
theorem dX6_set_1 : decode cX6_set 1 = .ok (.getfield 25, 3) := by decide +kernel
theorem dX6_set_4 : decode cX6_set 4 = .ok (.aload_n 0, 1) := by decide +kernel
theorem dX6_set_5 : decode cX6_set 5 = .ok (.getfield 10, 3) := by decide +kernel
theorem dX6_set_8 : decode cX6_set 8 = .ok (.invokevirtual 49, 3) := by decide +kernel
theorem dX6_set_11 : decode cX6_set 11 = .ok (.aload_n 0, 1) := by decide +kernel
theorem dX6_set_12 : decode cX6_set 12 = .ok (.aload_n 0, 1) := by decide +kernel
theorem dX6_set_13 : decode cX6_set 13 = .ok (.getfield 10, 3) := by decide +kernel
theorem dX6_set_16 : decode cX6_set 16 = .ok (.iload_n 1, 1) := by decide +kernel
theorem dX6_set_17 : decode cX6_set 17 = .ok (.iload_n 2, 1) := by decide +kernel
theorem dX6_set_18 : decode cX6_set 18 = .ok (.invokevirtual 81, 3) := by decide +kernel
theorem dX6_set_21 : decode cX6_set 21 = .ok (.invokevirtual 56, 3) := by decide +kernel
theorem dX6_set_24 : decode cX6_set 24 = .ok (.ireturn, 1) := by decide +kernel
set_option maxRecDepth 20000 in
theorem ggX6_lotOf_X4_isKind : GoodIn wsX6_lotOf wsX4_isKind := goodIn_r _ [8] (by decide +kernel) (by decide +kernel)
set_option maxRecDepth 20000 in
theorem gX6_lotOf_X4_isKind : GoodIn wsX6_lotOf (va_wsS RX6 84 yX4_isKind wsX4_isKind) := goodIn_app (goodIn_of _ (by decide +kernel)) ggX6_lotOf_X4_isKind
set_option maxRecDepth 20000 in
theorem ggX6_lotOf_X4_find : GoodIn wsX6_lotOf wsX4_find := goodIn_r _ [12, 13, 14, 32, 33, 34, 35, 36, 37, 38, 39, 40, 41, 42] (by decide +kernel) (by decide +kernel)
set_option maxRecDepth 20000 in
theorem gX6_lotOf_X4_find : GoodIn wsX6_lotOf (wsV RX6 94 RX4 yX4_find wsX4_find) := goodIn_app (goodIn_of _ (by decide +kernel)) ggX6_lotOf_X4_find
theorem dX6_lotOf_0 : decode cX6_lotOf 0 = .ok (.iload_n 1, 1) := by decide +kernel
theorem dX6_lotOf_1 : decode cX6_lotOf 1 = .ok (.invokestatic 84, 3) := by decide +kernel
theorem dX6_lotOf_4 : decode cX6_lotOf 4 = .ok (.ifCond .eq 16, 3) := by decide +kernel
theorem dX6_lotOf_7 : decode cX6_lotOf 7 = .ok (.iload_n 3, 1) := by decide +kernel
theorem dX6_lotOf_8 : decode cX6_lotOf 8 = .ok (.ifCond .lt 12, 3) := by decide +kernel
theorem dX6_lotOf_11 : decode cX6_lotOf 11 = .ok (.iload_n 3, 1) := by decide +kernel
theorem dX6_lotOf_12 : decode cX6_lotOf 12 = .ok (.iconst 1, 1) := by decide +kernel
theorem dX6_lotOf_13 : decode cX6_lotOf 13 = .ok (.if_icmp .gt 7, 3) := by decide +kernel
theorem dX6_lotOf_16 : decode cX6_lotOf 16 = .ok (.iload_n 2, 1) := by decide +kernel
theorem dX6_lotOf_17 : decode cX6_lotOf 17 = .ok (.ifCond .ge 5, 3) := by decide +kernel
theorem dX6_lotOf_20 : decode cX6_lotOf 20 = .ok (.iconst (-1), 1) := by decide +kernel
theorem dX6_lotOf_21 : decode cX6_lotOf 21 = .ok (.ireturn, 1) := by decide +kernel
theorem dX6_lotOf_22 : decode cX6_lotOf 22 = .ok (.aload_n 0, 1) := by decide +kernel
theorem dX6_lotOf_23 : decode cX6_lotOf 23 = .ok (.getfield 10, 3) := by decide +kernel
theorem dX6_lotOf_26 : decode cX6_lotOf 26 = .ok (.getfield 90, 3) := by decide +kernel
theorem dX6_lotOf_29 : decode cX6_lotOf 29 = .ok (.iload_n 1, 1) := by decide +kernel
theorem dX6_lotOf_30 : decode cX6_lotOf 30 = .ok (.iload_n 2, 1) := by decide +kernel
theorem dX6_lotOf_31 : decode cX6_lotOf 31 = .ok (.invokevirtual 94, 3) := by decide +kernel
theorem dX6_lotOf_34 : decode cX6_lotOf 34 = .ok (.istore 4, 2) := by decide +kernel
theorem dX6_lotOf_36 : decode cX6_lotOf 36 = .ok (.iload 4, 2) := by decide +kernel
theorem dX6_lotOf_38 : decode cX6_lotOf 38 = .ok (.ifCond .ge 6, 3) := by decide +kernel
theorem dX6_lotOf_41 : decode cX6_lotOf 41 = .ok (.bipush (-4), 2) := by decide +kernel
theorem dX6_lotOf_43 : decode cX6_lotOf 43 = .ok (.ireturn, 1) := by decide +kernel
theorem dX6_lotOf_44 : decode cX6_lotOf 44 = .ok (.iload_n 3, 1) := by decide +kernel
theorem dX6_lotOf_45 : decode cX6_lotOf 45 = .ok (.ifCond .ne 19, 3) := by decide +kernel
theorem dX6_lotOf_48 : decode cX6_lotOf 48 = .ok (.aload_n 0, 1) := by decide +kernel
theorem dX6_lotOf_49 : decode cX6_lotOf 49 = .ok (.getfield 10, 3) := by decide +kernel
theorem dX6_lotOf_52 : decode cX6_lotOf 52 = .ok (.getfield 90, 3) := by decide +kernel
theorem dX6_lotOf_55 : decode cX6_lotOf 55 = .ok (.getfield 97, 3) := by decide +kernel
theorem dX6_lotOf_58 : decode cX6_lotOf 58 = .ok (.iload 4, 2) := by decide +kernel
theorem dX6_lotOf_60 : decode cX6_lotOf 60 = .ok (.iaload, 1) := by decide +kernel
theorem dX6_lotOf_61 : decode cX6_lotOf 61 = .ok (.goto 16, 3) := by decide +kernel
theorem dX6_lotOf_64 : decode cX6_lotOf 64 = .ok (.aload_n 0, 1) := by decide +kernel
theorem dX6_lotOf_65 : decode cX6_lotOf 65 = .ok (.getfield 10, 3) := by decide +kernel
theorem dX6_lotOf_68 : decode cX6_lotOf 68 = .ok (.getfield 90, 3) := by decide +kernel
theorem dX6_lotOf_71 : decode cX6_lotOf 71 = .ok (.getfield 101, 3) := by decide +kernel
theorem dX6_lotOf_74 : decode cX6_lotOf 74 = .ok (.iload 4, 2) := by decide +kernel
theorem dX6_lotOf_76 : decode cX6_lotOf 76 = .ok (.iaload, 1) := by decide +kernel
theorem dX6_lotOf_77 : decode cX6_lotOf 77 = .ok (.ireturn, 1) := by decide +kernel
set_option maxRecDepth 20000 in
theorem ggX6_storeOf_X4_isKind : GoodIn wsX6_storeOf wsX4_isKind := goodIn_r _ [9] (by decide +kernel) (by decide +kernel)
set_option maxRecDepth 20000 in
theorem gX6_storeOf_X4_isKind : GoodIn wsX6_storeOf (va_wsS RX6 84 yX4_isKind wsX4_isKind) := goodIn_app (goodIn_of _ (by decide +kernel)) ggX6_storeOf_X4_isKind
set_option maxRecDepth 20000 in
theorem ggX6_storeOf_X4_stock : GoodIn wsX6_storeOf wsX4_stock := goodIn_r _ [13, 14, 15, 16, 45, 46, 47, 48, 49, 50, 51, 52, 53, 54, 55] (by decide +kernel) (by decide +kernel)
set_option maxRecDepth 20000 in
theorem gX6_storeOf_X4_stock : GoodIn wsX6_storeOf (wsV RX6 104 RX4 yX4_stock wsX4_stock) := goodIn_app (goodIn_of _ (by decide +kernel)) ggX6_storeOf_X4_stock
set_option maxRecDepth 20000 in
theorem ggX6_storeOf_X4_lotsOfKind : GoodIn wsX6_storeOf wsX4_lotsOfKind := goodIn_r _ [20, 14, 15, 45, 46, 47, 48, 49, 50, 51, 52, 53, 54, 55] (by decide +kernel) (by decide +kernel)
set_option maxRecDepth 20000 in
theorem gX6_storeOf_X4_lotsOfKind : GoodIn wsX6_storeOf (wsV RX6 116 RX4 yX4_lotsOfKind wsX4_lotsOfKind) := goodIn_app (goodIn_of _ (by decide +kernel)) ggX6_storeOf_X4_lotsOfKind
set_option maxRecDepth 20000 in
theorem ggX6_storeOf_X4_amountOnPallet : GoodIn wsX6_storeOf wsX4_amountOnPallet := goodIn_r _ [24, 25, 26, 27, 45, 46, 47, 48, 49, 50, 51, 52, 53, 54, 55] (by decide +kernel) (by decide +kernel)
set_option maxRecDepth 20000 in
theorem gX6_storeOf_X4_amountOnPallet : GoodIn wsX6_storeOf (wsV RX6 119 RX4 yX4_amountOnPallet wsX4_amountOnPallet) := goodIn_app (goodIn_of _ (by decide +kernel)) ggX6_storeOf_X4_amountOnPallet
theorem dX6_storeOf_0 : decode cX6_storeOf 0 = .ok (.iload_n 1, 1) := by decide +kernel
theorem dX6_storeOf_1 : decode cX6_storeOf 1 = .ok (.invokestatic 84, 3) := by decide +kernel
theorem dX6_storeOf_4 : decode cX6_storeOf 4 = .ok (.ifCond .ne 5, 3) := by decide +kernel
theorem dX6_storeOf_7 : decode cX6_storeOf 7 = .ok (.iconst (-1), 1) := by decide +kernel
theorem dX6_storeOf_8 : decode cX6_storeOf 8 = .ok (.ireturn, 1) := by decide +kernel
theorem dX6_storeOf_9 : decode cX6_storeOf 9 = .ok (.aload_n 0, 1) := by decide +kernel
theorem dX6_storeOf_10 : decode cX6_storeOf 10 = .ok (.getfield 10, 3) := by decide +kernel
theorem dX6_storeOf_13 : decode cX6_storeOf 13 = .ok (.getfield 90, 3) := by decide +kernel
theorem dX6_storeOf_16 : decode cX6_storeOf 16 = .ok (.astore_n 3, 1) := by decide +kernel
theorem dX6_storeOf_17 : decode cX6_storeOf 17 = .ok (.iload_n 2, 1) := by decide +kernel
theorem dX6_storeOf_18 : decode cX6_storeOf 18 = .ok (.tableswitch 77 0 5 #[38, 44, 51, 58, 65, 71], 38) := by decide +kernel
theorem dX6_storeOf_56 : decode cX6_storeOf 56 = .ok (.aload_n 3, 1) := by decide +kernel
theorem dX6_storeOf_57 : decode cX6_storeOf 57 = .ok (.iload_n 1, 1) := by decide +kernel
theorem dX6_storeOf_58 : decode cX6_storeOf 58 = .ok (.invokevirtual 104, 3) := by decide +kernel
theorem dX6_storeOf_61 : decode cX6_storeOf 61 = .ok (.ireturn, 1) := by decide +kernel
theorem dX6_storeOf_62 : decode cX6_storeOf 62 = .ok (.aload_n 3, 1) := by decide +kernel
theorem dX6_storeOf_63 : decode cX6_storeOf 63 = .ok (.getfield 107, 3) := by decide +kernel
theorem dX6_storeOf_66 : decode cX6_storeOf 66 = .ok (.iload_n 1, 1) := by decide +kernel
theorem dX6_storeOf_67 : decode cX6_storeOf 67 = .ok (.iaload, 1) := by decide +kernel
theorem dX6_storeOf_68 : decode cX6_storeOf 68 = .ok (.ireturn, 1) := by decide +kernel
theorem dX6_storeOf_69 : decode cX6_storeOf 69 = .ok (.aload_n 3, 1) := by decide +kernel
theorem dX6_storeOf_70 : decode cX6_storeOf 70 = .ok (.getfield 110, 3) := by decide +kernel
theorem dX6_storeOf_73 : decode cX6_storeOf 73 = .ok (.iload_n 1, 1) := by decide +kernel
theorem dX6_storeOf_74 : decode cX6_storeOf 74 = .ok (.iaload, 1) := by decide +kernel
theorem dX6_storeOf_75 : decode cX6_storeOf 75 = .ok (.ireturn, 1) := by decide +kernel
theorem dX6_storeOf_76 : decode cX6_storeOf 76 = .ok (.aload_n 3, 1) := by decide +kernel
theorem dX6_storeOf_77 : decode cX6_storeOf 77 = .ok (.getfield 113, 3) := by decide +kernel
theorem dX6_storeOf_80 : decode cX6_storeOf 80 = .ok (.iload_n 1, 1) := by decide +kernel
theorem dX6_storeOf_81 : decode cX6_storeOf 81 = .ok (.iaload, 1) := by decide +kernel
theorem dX6_storeOf_82 : decode cX6_storeOf 82 = .ok (.ireturn, 1) := by decide +kernel
theorem dX6_storeOf_83 : decode cX6_storeOf 83 = .ok (.aload_n 3, 1) := by decide +kernel
theorem dX6_storeOf_84 : decode cX6_storeOf 84 = .ok (.iload_n 1, 1) := by decide +kernel
theorem dX6_storeOf_85 : decode cX6_storeOf 85 = .ok (.invokevirtual 116, 3) := by decide +kernel
theorem dX6_storeOf_88 : decode cX6_storeOf 88 = .ok (.ireturn, 1) := by decide +kernel
theorem dX6_storeOf_89 : decode cX6_storeOf 89 = .ok (.aload_n 3, 1) := by decide +kernel
theorem dX6_storeOf_90 : decode cX6_storeOf 90 = .ok (.iload_n 1, 1) := by decide +kernel
theorem dX6_storeOf_91 : decode cX6_storeOf 91 = .ok (.invokevirtual 119, 3) := by decide +kernel
theorem dX6_storeOf_94 : decode cX6_storeOf 94 = .ok (.ireturn, 1) := by decide +kernel
theorem dX6_storeOf_95 : decode cX6_storeOf 95 = .ok (.iconst (-1), 1) := by decide +kernel
theorem dX6_storeOf_96 : decode cX6_storeOf 96 = .ok (.ireturn, 1) := by decide +kernel
set_option maxRecDepth 20000 in
theorem ggX6_partyOf_X2_has : GoodIn wsX6_partyOf wsX2_has := goodIn_r _ [17, 18, 36, 37, 38, 39, 40, 41, 42] (by decide +kernel) (by decide +kernel)
set_option maxRecDepth 20000 in
theorem gX6_partyOf_X2_has : GoodIn wsX6_partyOf (wsV RX6 126 RX2 yX2_has wsX2_has) := goodIn_app (goodIn_of _ (by decide +kernel)) ggX6_partyOf_X2_has
theorem dX6_partyOf_0 : decode cX6_partyOf 0 = .ok (.aload_n 0, 1) := by decide +kernel
theorem dX6_partyOf_1 : decode cX6_partyOf 1 = .ok (.getfield 10, 3) := by decide +kernel
theorem dX6_partyOf_4 : decode cX6_partyOf 4 = .ok (.getfield 122, 3) := by decide +kernel
theorem dX6_partyOf_7 : decode cX6_partyOf 7 = .ok (.astore_n 3, 1) := by decide +kernel
theorem dX6_partyOf_8 : decode cX6_partyOf 8 = .ok (.aload_n 3, 1) := by decide +kernel
theorem dX6_partyOf_9 : decode cX6_partyOf 9 = .ok (.iload_n 1, 1) := by decide +kernel
theorem dX6_partyOf_10 : decode cX6_partyOf 10 = .ok (.invokevirtual 126, 3) := by decide +kernel
theorem dX6_partyOf_13 : decode cX6_partyOf 13 = .ok (.ifCond .ne 5, 3) := by decide +kernel
theorem dX6_partyOf_16 : decode cX6_partyOf 16 = .ok (.iconst (-1), 1) := by decide +kernel
theorem dX6_partyOf_17 : decode cX6_partyOf 17 = .ok (.ireturn, 1) := by decide +kernel
theorem dX6_partyOf_18 : decode cX6_partyOf 18 = .ok (.iload_n 2, 1) := by decide +kernel
theorem dX6_partyOf_19 : decode cX6_partyOf 19 = .ok (.tableswitch 115 0 6 #[41, 48, 55, 62, 69, 76, 97], 41) := by decide +kernel
theorem dX6_partyOf_60 : decode cX6_partyOf 60 = .ok (.aload_n 3, 1) := by decide +kernel
theorem dX6_partyOf_61 : decode cX6_partyOf 61 = .ok (.getfield 131, 3) := by decide +kernel
theorem dX6_partyOf_64 : decode cX6_partyOf 64 = .ok (.iload_n 1, 1) := by decide +kernel
theorem dX6_partyOf_65 : decode cX6_partyOf 65 = .ok (.iaload, 1) := by decide +kernel
theorem dX6_partyOf_66 : decode cX6_partyOf 66 = .ok (.ireturn, 1) := by decide +kernel
theorem dX6_partyOf_67 : decode cX6_partyOf 67 = .ok (.aload_n 3, 1) := by decide +kernel
theorem dX6_partyOf_68 : decode cX6_partyOf 68 = .ok (.getfield 134, 3) := by decide +kernel
theorem dX6_partyOf_71 : decode cX6_partyOf 71 = .ok (.iload_n 1, 1) := by decide +kernel
theorem dX6_partyOf_72 : decode cX6_partyOf 72 = .ok (.iaload, 1) := by decide +kernel
theorem dX6_partyOf_73 : decode cX6_partyOf 73 = .ok (.ireturn, 1) := by decide +kernel
theorem dX6_partyOf_74 : decode cX6_partyOf 74 = .ok (.aload_n 3, 1) := by decide +kernel
theorem dX6_partyOf_75 : decode cX6_partyOf 75 = .ok (.getfield 137, 3) := by decide +kernel
theorem dX6_partyOf_78 : decode cX6_partyOf 78 = .ok (.iload_n 1, 1) := by decide +kernel
theorem dX6_partyOf_79 : decode cX6_partyOf 79 = .ok (.iaload, 1) := by decide +kernel
theorem dX6_partyOf_80 : decode cX6_partyOf 80 = .ok (.ireturn, 1) := by decide +kernel
theorem dX6_partyOf_81 : decode cX6_partyOf 81 = .ok (.aload_n 3, 1) := by decide +kernel
theorem dX6_partyOf_82 : decode cX6_partyOf 82 = .ok (.getfield 140, 3) := by decide +kernel
theorem dX6_partyOf_85 : decode cX6_partyOf 85 = .ok (.iload_n 1, 1) := by decide +kernel
theorem dX6_partyOf_86 : decode cX6_partyOf 86 = .ok (.iaload, 1) := by decide +kernel
theorem dX6_partyOf_87 : decode cX6_partyOf 87 = .ok (.ireturn, 1) := by decide +kernel
theorem dX6_partyOf_88 : decode cX6_partyOf 88 = .ok (.aload_n 3, 1) := by decide +kernel
theorem dX6_partyOf_89 : decode cX6_partyOf 89 = .ok (.getfield 143, 3) := by decide +kernel
theorem dX6_partyOf_92 : decode cX6_partyOf 92 = .ok (.iload_n 1, 1) := by decide +kernel
theorem dX6_partyOf_93 : decode cX6_partyOf 93 = .ok (.iaload, 1) := by decide +kernel
theorem dX6_partyOf_94 : decode cX6_partyOf 94 = .ok (.ireturn, 1) := by decide +kernel
theorem dX6_partyOf_95 : decode cX6_partyOf 95 = .ok (.aload_n 3, 1) := by decide +kernel
theorem dX6_partyOf_96 : decode cX6_partyOf 96 = .ok (.getfield 146, 3) := by decide +kernel
theorem dX6_partyOf_99 : decode cX6_partyOf 99 = .ok (.iload_n 1, 1) := by decide +kernel
theorem dX6_partyOf_100 : decode cX6_partyOf 100 = .ok (.iaload, 1) := by decide +kernel
theorem dX6_partyOf_101 : decode cX6_partyOf 101 = .ok (.ifCond .ge 8, 3) := by decide +kernel
theorem dX6_partyOf_104 : decode cX6_partyOf 104 = .ok (.bipush (-4), 2) := by decide +kernel
theorem dX6_partyOf_106 : decode cX6_partyOf 106 = .ok (.goto 9, 3) := by decide +kernel
theorem dX6_partyOf_109 : decode cX6_partyOf 109 = .ok (.aload_n 3, 1) := by decide +kernel
theorem dX6_partyOf_110 : decode cX6_partyOf 110 = .ok (.getfield 146, 3) := by decide +kernel
theorem dX6_partyOf_113 : decode cX6_partyOf 113 = .ok (.iload_n 1, 1) := by decide +kernel
theorem dX6_partyOf_114 : decode cX6_partyOf 114 = .ok (.iaload, 1) := by decide +kernel
theorem dX6_partyOf_115 : decode cX6_partyOf 115 = .ok (.ireturn, 1) := by decide +kernel
theorem dX6_partyOf_116 : decode cX6_partyOf 116 = .ok (.iconst 0, 1) := by decide +kernel
theorem dX6_partyOf_117 : decode cX6_partyOf 117 = .ok (.aload_n 3, 1) := by decide +kernel
theorem dX6_partyOf_118 : decode cX6_partyOf 118 = .ok (.getfield 143, 3) := by decide +kernel
theorem dX6_partyOf_121 : decode cX6_partyOf 121 = .ok (.iload_n 1, 1) := by decide +kernel
theorem dX6_partyOf_122 : decode cX6_partyOf 122 = .ok (.iaload, 1) := by decide +kernel
theorem dX6_partyOf_123 : decode cX6_partyOf 123 = .ok (.aload_n 3, 1) := by decide +kernel
theorem dX6_partyOf_124 : decode cX6_partyOf 124 = .ok (.getfield 137, 3) := by decide +kernel
theorem dX6_partyOf_127 : decode cX6_partyOf 127 = .ok (.iload_n 1, 1) := by decide +kernel
theorem dX6_partyOf_128 : decode cX6_partyOf 128 = .ok (.iaload, 1) := by decide +kernel
theorem dX6_partyOf_129 : decode cX6_partyOf 129 = .ok (.isub, 1) := by decide +kernel
theorem dX6_partyOf_130 : decode cX6_partyOf 130 = .ok (.invokestatic 149, 3) := by decide +kernel
theorem dX6_partyOf_133 : decode cX6_partyOf 133 = .ok (.ireturn, 1) := by decide +kernel
theorem dX6_partyOf_134 : decode cX6_partyOf 134 = .ok (.iconst (-1), 1) := by decide +kernel
theorem dX6_partyOf_135 : decode cX6_partyOf 135 = .ok (.ireturn, 1) := by decide +kernel
set_option maxRecDepth 20000 in
theorem ggX6_count_X2_withStatus : GoodIn wsX6_count wsX2_withStatus := goodIn_r _ [21, 22, 23, 58, 59, 60, 61, 62, 63, 64] (by decide +kernel) (by decide +kernel)
set_option maxRecDepth 20000 in
theorem gX6_count_X2_withStatus : GoodIn wsX6_count (wsV RX6 158 RX2 yX2_withStatus wsX2_withStatus) := goodIn_app (goodIn_of _ (by decide +kernel)) ggX6_count_X2_withStatus
set_option maxRecDepth 20000 in
theorem ggX6_count_X2_guests : GoodIn wsX6_count wsX2_guests := goodIn_r _ [27, 22, 23, 28, 58, 59, 60, 61, 62, 63, 64] (by decide +kernel) (by decide +kernel)
set_option maxRecDepth 20000 in
theorem gX6_count_X2_guests : GoodIn wsX6_count (wsV RX6 161 RX2 yX2_guests wsX2_guests) := goodIn_app (goodIn_of _ (by decide +kernel)) ggX6_count_X2_guests
set_option maxRecDepth 20000 in
theorem ggX6_count_X1_isStorm : GoodIn wsX6_count wsX1_isStorm := goodIn_r _ [33, 34, 35, 48, 49, 50, 51, 52, 53, 54, 55, 56, 57] (by decide +kernel) (by decide +kernel)
set_option maxRecDepth 20000 in
theorem gX6_count_X1_isStorm : GoodIn wsX6_count (wsV RX6 166 RX1 yX1_isStorm wsX1_isStorm) := goodIn_app (goodIn_of _ (by decide +kernel)) ggX6_count_X1_isStorm
set_option maxRecDepth 20000 in
theorem ggX6_count_X1_settingAt : GoodIn wsX6_count wsX1_settingAt := goodIn_r _ [39, 40, 48, 49, 50, 51, 52, 53, 54, 55, 56, 57] (by decide +kernel) (by decide +kernel)
set_option maxRecDepth 20000 in
theorem gX6_count_X1_settingAt : GoodIn wsX6_count (wsV RX6 192 RX1 yX1_settingAt wsX1_settingAt) := goodIn_app (goodIn_of _ (by decide +kernel)) ggX6_count_X1_settingAt
theorem dX6_count_0 : decode cX6_count 0 = .ok (.iload_n 1, 1) := by decide +kernel
theorem dX6_count_1 : decode cX6_count 1 = .ok (.tableswitch 225 0 14 #[75, 86, 98, 110, 121, 129, 145, 153, 164, 172, 180, 188, 196, 204, 212], 75) := by decide +kernel
theorem dX6_count_76 : decode cX6_count 76 = .ok (.aload_n 0, 1) := by decide +kernel
theorem dX6_count_77 : decode cX6_count 77 = .ok (.getfield 10, 3) := by decide +kernel
theorem dX6_count_80 : decode cX6_count 80 = .ok (.getfield 122, 3) := by decide +kernel
theorem dX6_count_83 : decode cX6_count 83 = .ok (.getfield 154, 3) := by decide +kernel
theorem dX6_count_86 : decode cX6_count 86 = .ok (.ireturn, 1) := by decide +kernel
theorem dX6_count_87 : decode cX6_count 87 = .ok (.aload_n 0, 1) := by decide +kernel
theorem dX6_count_88 : decode cX6_count 88 = .ok (.getfield 10, 3) := by decide +kernel
theorem dX6_count_91 : decode cX6_count 91 = .ok (.getfield 122, 3) := by decide +kernel
theorem dX6_count_94 : decode cX6_count 94 = .ok (.iconst 0, 1) := by decide +kernel
theorem dX6_count_95 : decode cX6_count 95 = .ok (.invokevirtual 158, 3) := by decide +kernel
theorem dX6_count_98 : decode cX6_count 98 = .ok (.ireturn, 1) := by decide +kernel
theorem dX6_count_99 : decode cX6_count 99 = .ok (.aload_n 0, 1) := by decide +kernel
theorem dX6_count_100 : decode cX6_count 100 = .ok (.getfield 10, 3) := by decide +kernel
theorem dX6_count_103 : decode cX6_count 103 = .ok (.getfield 122, 3) := by decide +kernel
theorem dX6_count_106 : decode cX6_count 106 = .ok (.iconst 1, 1) := by decide +kernel
theorem dX6_count_107 : decode cX6_count 107 = .ok (.invokevirtual 158, 3) := by decide +kernel
theorem dX6_count_110 : decode cX6_count 110 = .ok (.ireturn, 1) := by decide +kernel
theorem dX6_count_111 : decode cX6_count 111 = .ok (.aload_n 0, 1) := by decide +kernel
theorem dX6_count_112 : decode cX6_count 112 = .ok (.getfield 10, 3) := by decide +kernel
theorem dX6_count_115 : decode cX6_count 115 = .ok (.getfield 122, 3) := by decide +kernel
theorem dX6_count_118 : decode cX6_count 118 = .ok (.invokevirtual 161, 3) := by decide +kernel
theorem dX6_count_121 : decode cX6_count 121 = .ok (.ireturn, 1) := by decide +kernel
theorem dX6_count_122 : decode cX6_count 122 = .ok (.aload_n 0, 1) := by decide +kernel
theorem dX6_count_123 : decode cX6_count 123 = .ok (.getfield 10, 3) := by decide +kernel
theorem dX6_count_126 : decode cX6_count 126 = .ok (.getfield 164, 3) := by decide +kernel
theorem dX6_count_129 : decode cX6_count 129 = .ok (.ireturn, 1) := by decide +kernel
theorem dX6_count_130 : decode cX6_count 130 = .ok (.aload_n 0, 1) := by decide +kernel
theorem dX6_count_131 : decode cX6_count 131 = .ok (.getfield 10, 3) := by decide +kernel
theorem dX6_count_134 : decode cX6_count 134 = .ok (.invokevirtual 166, 3) := by decide +kernel
theorem dX6_count_137 : decode cX6_count 137 = .ok (.ifCond .eq 7, 3) := by decide +kernel
theorem dX6_count_140 : decode cX6_count 140 = .ok (.iconst 1, 1) := by decide +kernel
theorem dX6_count_141 : decode cX6_count 141 = .ok (.goto 4, 3) := by decide +kernel
theorem dX6_count_144 : decode cX6_count 144 = .ok (.iconst 0, 1) := by decide +kernel
theorem dX6_count_145 : decode cX6_count 145 = .ok (.ireturn, 1) := by decide +kernel
theorem dX6_count_146 : decode cX6_count 146 = .ok (.aload_n 0, 1) := by decide +kernel
theorem dX6_count_147 : decode cX6_count 147 = .ok (.getfield 10, 3) := by decide +kernel
theorem dX6_count_150 : decode cX6_count 150 = .ok (.getfield 170, 3) := by decide +kernel
theorem dX6_count_153 : decode cX6_count 153 = .ok (.ireturn, 1) := by decide +kernel
theorem dX6_count_154 : decode cX6_count 154 = .ok (.aload_n 0, 1) := by decide +kernel
theorem dX6_count_155 : decode cX6_count 155 = .ok (.getfield 10, 3) := by decide +kernel
theorem dX6_count_158 : decode cX6_count 158 = .ok (.getfield 90, 3) := by decide +kernel
theorem dX6_count_161 : decode cX6_count 161 = .ok (.getfield 173, 3) := by decide +kernel
theorem dX6_count_164 : decode cX6_count 164 = .ok (.ireturn, 1) := by decide +kernel
theorem dX6_count_165 : decode cX6_count 165 = .ok (.aload_n 0, 1) := by decide +kernel
theorem dX6_count_166 : decode cX6_count 166 = .ok (.getfield 10, 3) := by decide +kernel
theorem dX6_count_169 : decode cX6_count 169 = .ok (.getfield 176, 3) := by decide +kernel
theorem dX6_count_172 : decode cX6_count 172 = .ok (.ireturn, 1) := by decide +kernel
theorem dX6_count_173 : decode cX6_count 173 = .ok (.aload_n 0, 1) := by decide +kernel
theorem dX6_count_174 : decode cX6_count 174 = .ok (.getfield 10, 3) := by decide +kernel
theorem dX6_count_177 : decode cX6_count 177 = .ok (.getfield 179, 3) := by decide +kernel
theorem dX6_count_180 : decode cX6_count 180 = .ok (.ireturn, 1) := by decide +kernel
theorem dX6_count_181 : decode cX6_count 181 = .ok (.aload_n 0, 1) := by decide +kernel
theorem dX6_count_182 : decode cX6_count 182 = .ok (.getfield 10, 3) := by decide +kernel
theorem dX6_count_185 : decode cX6_count 185 = .ok (.getfield 182, 3) := by decide +kernel
theorem dX6_count_188 : decode cX6_count 188 = .ok (.ireturn, 1) := by decide +kernel
theorem dX6_count_189 : decode cX6_count 189 = .ok (.aload_n 0, 1) := by decide +kernel
theorem dX6_count_190 : decode cX6_count 190 = .ok (.getfield 10, 3) := by decide +kernel
theorem dX6_count_193 : decode cX6_count 193 = .ok (.getfield 185, 3) := by decide +kernel
theorem dX6_count_196 : decode cX6_count 196 = .ok (.ireturn, 1) := by decide +kernel
theorem dX6_count_197 : decode cX6_count 197 = .ok (.aload_n 0, 1) := by decide +kernel
theorem dX6_count_198 : decode cX6_count 198 = .ok (.getfield 25, 3) := by decide +kernel
theorem dX6_count_201 : decode cX6_count 201 = .ok (.getfield 188, 3) := by decide +kernel
theorem dX6_count_204 : decode cX6_count 204 = .ok (.ireturn, 1) := by decide +kernel
theorem dX6_count_205 : decode cX6_count 205 = .ok (.aload_n 0, 1) := by decide +kernel
theorem dX6_count_206 : decode cX6_count 206 = .ok (.getfield 32, 3) := by decide +kernel
theorem dX6_count_209 : decode cX6_count 209 = .ok (.getfield 191, 3) := by decide +kernel
theorem dX6_count_212 : decode cX6_count 212 = .ok (.ireturn, 1) := by decide +kernel
theorem dX6_count_213 : decode cX6_count 213 = .ok (.aload_n 0, 1) := by decide +kernel
theorem dX6_count_214 : decode cX6_count 214 = .ok (.getfield 45, 3) := by decide +kernel
theorem dX6_count_217 : decode cX6_count 217 = .ok (.ifCond .eq 7, 3) := by decide +kernel
theorem dX6_count_220 : decode cX6_count 220 = .ok (.iconst 1, 1) := by decide +kernel
theorem dX6_count_221 : decode cX6_count 221 = .ok (.goto 4, 3) := by decide +kernel
theorem dX6_count_224 : decode cX6_count 224 = .ok (.iconst 0, 1) := by decide +kernel
theorem dX6_count_225 : decode cX6_count 225 = .ok (.ireturn, 1) := by decide +kernel
theorem dX6_count_226 : decode cX6_count 226 = .ok (.aload_n 0, 1) := by decide +kernel
theorem dX6_count_227 : decode cX6_count 227 = .ok (.getfield 10, 3) := by decide +kernel
theorem dX6_count_230 : decode cX6_count 230 = .ok (.iload_n 1, 1) := by decide +kernel
theorem dX6_count_231 : decode cX6_count 231 = .ok (.bipush 20, 2) := by decide +kernel
theorem dX6_count_233 : decode cX6_count 233 = .ok (.isub, 1) := by decide +kernel
theorem dX6_count_234 : decode cX6_count 234 = .ok (.invokevirtual 192, 3) := by decide +kernel
theorem dX6_count_237 : decode cX6_count 237 = .ok (.ireturn, 1) := by decide +kernel
set_option maxRecDepth 20000 in
theorem ggX6_goneOn_X2_has : GoodIn wsX6_goneOn wsX2_has := goodIn_r _ [8, 9, 140, 141, 142, 143, 144, 145, 146] (by decide +kernel) (by decide +kernel)
set_option maxRecDepth 20000 in
theorem gX6_goneOn_X2_has : GoodIn wsX6_goneOn (wsV RX6 126 RX2 yX2_has wsX2_has) := goodIn_app (goodIn_of _ (by decide +kernel)) ggX6_goneOn_X2_has
set_option maxRecDepth 20000 in
theorem ggX6_goneOn_X2_isAwaited : GoodIn wsX6_goneOn wsX2_isAwaited := goodIn_r _ [13, 14, 15, 5, 6, 7, 8, 9, 140, 141, 142, 143, 144, 145, 146] (by decide +kernel) (by decide +kernel)
set_option maxRecDepth 20000 in
theorem gX6_goneOn_X2_isAwaited : GoodIn wsX6_goneOn (wsV RX6 195 RX2 yX2_isAwaited wsX2_isAwaited) := goodIn_app (goodIn_of _ (by decide +kernel)) ggX6_goneOn_X2_isAwaited
set_option maxRecDepth 20000 in
theorem ggX6_goneOn_X1_copyFrom : GoodIn wsX6_goneOn wsX1_copyFrom := goodIn_r _ [20, 21, 22, 23, 24, 25, 26, 27, 28, 29, 30, 31, 32, 33, 34, 35, 36, 37, 38, 39, 40, 41, 42, 43, 44, 45, 46, 47, 48, 49, 50, 51, 52, 53, 54, 7, 55, 56, 57, 58, 59, 14, 60, 61, 9, 130, 131, 132, 133, 134, 135, 136, 137, 138, 139, 147, 148, 149, 150, 151, 152, 153, 154, 155, 156, 157, 140, 141, 142, 143, 144, 145, 146] (by decide +kernel) (by decide +kernel)
set_option maxRecDepth 20000 in
theorem gX6_goneOn_X1_copyFrom : GoodIn wsX6_goneOn (wsV RX6 198 RX1 yX1_copyFrom wsX1_copyFrom) := goodIn_app (goodIn_of _ (by decide +kernel)) ggX6_goneOn_X1_copyFrom
set_option maxRecDepth 20000 in
theorem ggX6_goneOn_X1_dayWhenGone : GoodIn wsX6_goneOn wsX1_dayWhenGone := goodIn_r _ [65, 22, 29, 66, 11, 12, 7, 13, 14, 15, 5, 6, 8, 9, 67, 68, 69, 19, 70, 28, 21, 34, 71, 72, 73, 74, 31, 32, 33, 75, 76, 77, 78, 23, 79, 80, 81, 82, 60, 59, 83, 84, 85, 86, 56, 87, 88, 89, 90, 58, 61, 91, 92, 93, 38, 94, 50, 40, 42, 95, 96, 97, 98, 99, 100, 101, 102, 48, 103, 104, 105, 106, 107, 108, 109, 110, 111, 112, 113, 114, 43, 49, 115, 116, 117, 118, 119, 120, 121, 122, 130, 131, 132, 133, 134, 135, 136, 137, 138, 139, 140, 141, 142, 143, 144, 145, 146, 147, 148, 149, 150, 151, 152, 153, 154, 155, 156, 157] (by decide +kernel) (by decide +kernel)
set_option maxRecDepth 20000 in
theorem gX6_goneOn_X1_dayWhenGone : GoodIn wsX6_goneOn (wsV RX6 201 RX1 yX1_dayWhenGone wsX1_dayWhenGone) := goodIn_app (goodIn_of _ (by decide +kernel)) ggX6_goneOn_X1_dayWhenGone
theorem dX6_goneOn_0 : decode cX6_goneOn 0 = .ok (.aload_n 0, 1) := by decide +kernel
theorem dX6_goneOn_1 : decode cX6_goneOn 1 = .ok (.getfield 10, 3) := by decide +kernel
theorem dX6_goneOn_4 : decode cX6_goneOn 4 = .ok (.getfield 122, 3) := by decide +kernel
theorem dX6_goneOn_7 : decode cX6_goneOn 7 = .ok (.iload_n 1, 1) := by decide +kernel
theorem dX6_goneOn_8 : decode cX6_goneOn 8 = .ok (.invokevirtual 126, 3) := by decide +kernel
theorem dX6_goneOn_11 : decode cX6_goneOn 11 = .ok (.ifCond .ne 5, 3) := by decide +kernel
theorem dX6_goneOn_14 : decode cX6_goneOn 14 = .ok (.iconst (-1), 1) := by decide +kernel
theorem dX6_goneOn_15 : decode cX6_goneOn 15 = .ok (.ireturn, 1) := by decide +kernel
theorem dX6_goneOn_16 : decode cX6_goneOn 16 = .ok (.aload_n 0, 1) := by decide +kernel
theorem dX6_goneOn_17 : decode cX6_goneOn 17 = .ok (.getfield 10, 3) := by decide +kernel
theorem dX6_goneOn_20 : decode cX6_goneOn 20 = .ok (.getfield 122, 3) := by decide +kernel
theorem dX6_goneOn_23 : decode cX6_goneOn 23 = .ok (.iload_n 1, 1) := by decide +kernel
theorem dX6_goneOn_24 : decode cX6_goneOn 24 = .ok (.invokevirtual 195, 3) := by decide +kernel
theorem dX6_goneOn_27 : decode cX6_goneOn 27 = .ok (.ifCond .ne 6, 3) := by decide +kernel
theorem dX6_goneOn_30 : decode cX6_goneOn 30 = .ok (.bipush (-2), 2) := by decide +kernel
theorem dX6_goneOn_32 : decode cX6_goneOn 32 = .ok (.ireturn, 1) := by decide +kernel
theorem dX6_goneOn_33 : decode cX6_goneOn 33 = .ok (.aload_n 0, 1) := by decide +kernel
theorem dX6_goneOn_34 : decode cX6_goneOn 34 = .ok (.getfield 16, 3) := by decide +kernel
theorem dX6_goneOn_37 : decode cX6_goneOn 37 = .ok (.aload_n 0, 1) := by decide +kernel
theorem dX6_goneOn_38 : decode cX6_goneOn 38 = .ok (.getfield 10, 3) := by decide +kernel
theorem dX6_goneOn_41 : decode cX6_goneOn 41 = .ok (.invokevirtual 198, 3) := by decide +kernel
theorem dX6_goneOn_44 : decode cX6_goneOn 44 = .ok (.aload_n 0, 1) := by decide +kernel
theorem dX6_goneOn_45 : decode cX6_goneOn 45 = .ok (.getfield 16, 3) := by decide +kernel
theorem dX6_goneOn_48 : decode cX6_goneOn 48 = .ok (.iload_n 1, 1) := by decide +kernel
theorem dX6_goneOn_49 : decode cX6_goneOn 49 = .ok (.invokevirtual 201, 3) := by decide +kernel
theorem dX6_goneOn_52 : decode cX6_goneOn 52 = .ok (.ireturn, 1) := by decide +kernel
set_option maxRecDepth 20000 in
theorem ggX6_outOn_X4_isKind : GoodIn wsX6_outOn wsX4_isKind := goodIn_r _ [6] (by decide +kernel) (by decide +kernel)
set_option maxRecDepth 20000 in
theorem gX6_outOn_X4_isKind : GoodIn wsX6_outOn (va_wsS RX6 84 yX4_isKind wsX4_isKind) := goodIn_app (goodIn_of _ (by decide +kernel)) ggX6_outOn_X4_isKind
set_option maxRecDepth 20000 in
theorem ggX6_outOn_X1_copyFrom : GoodIn wsX6_outOn wsX1_copyFrom := goodIn_r _ [11, 12, 13, 14, 15, 16, 17, 18, 19, 20, 21, 22, 23, 24, 25, 26, 27, 28, 5, 29, 30, 31, 32, 33, 34, 35, 36, 37, 38, 39, 40, 41, 42, 43, 44, 45, 46, 47, 48, 49, 50, 51, 52, 53, 54, 122, 123, 124, 125, 126, 127, 128, 129, 130, 131, 132, 133, 134, 135, 136, 137, 138, 139, 140, 141, 142, 143, 144, 145, 146, 147, 148, 149] (by decide +kernel) (by decide +kernel)
set_option maxRecDepth 20000 in
theorem gX6_outOn_X1_copyFrom : GoodIn wsX6_outOn (wsV RX6 198 RX1 yX1_copyFrom wsX1_copyFrom) := goodIn_app (goodIn_of _ (by decide +kernel)) ggX6_outOn_X1_copyFrom
set_option maxRecDepth 20000 in
theorem ggX6_outOn_X1_dayWhenOut : GoodIn wsX6_outOn wsX1_dayWhenOut := goodIn_r _ [58, 13, 12, 20, 59, 60, 61, 45, 62, 54, 51, 63, 64, 65, 10, 66, 19, 25, 67, 68, 69, 70, 22, 23, 24, 71, 72, 73, 74, 14, 75, 76, 77, 78, 52, 50, 79, 80, 81, 82, 47, 83, 84, 85, 86, 49, 53, 87, 88, 89, 5, 90, 40, 30, 32, 91, 92, 93, 94, 95, 96, 97, 98, 38, 99, 100, 101, 102, 103, 104, 105, 106, 107, 108, 109, 110, 33, 39, 111, 112, 113, 114, 122, 123, 124, 125, 126, 127, 128, 129, 130, 131, 143, 144, 145, 146, 147, 148, 149, 132, 133, 134, 135, 136, 137, 138, 139, 140, 141, 142] (by decide +kernel) (by decide +kernel)
set_option maxRecDepth 20000 in
theorem gX6_outOn_X1_dayWhenOut : GoodIn wsX6_outOn (wsV RX6 204 RX1 yX1_dayWhenOut wsX1_dayWhenOut) := goodIn_app (goodIn_of _ (by decide +kernel)) ggX6_outOn_X1_dayWhenOut
theorem dX6_outOn_0 : decode cX6_outOn 0 = .ok (.iload_n 1, 1) := by decide +kernel
theorem dX6_outOn_1 : decode cX6_outOn 1 = .ok (.invokestatic 84, 3) := by decide +kernel
theorem dX6_outOn_4 : decode cX6_outOn 4 = .ok (.ifCond .ne 5, 3) := by decide +kernel
theorem dX6_outOn_7 : decode cX6_outOn 7 = .ok (.iconst (-1), 1) := by decide +kernel
theorem dX6_outOn_8 : decode cX6_outOn 8 = .ok (.ireturn, 1) := by decide +kernel
theorem dX6_outOn_9 : decode cX6_outOn 9 = .ok (.aload_n 0, 1) := by decide +kernel
theorem dX6_outOn_10 : decode cX6_outOn 10 = .ok (.getfield 16, 3) := by decide +kernel
theorem dX6_outOn_13 : decode cX6_outOn 13 = .ok (.aload_n 0, 1) := by decide +kernel
theorem dX6_outOn_14 : decode cX6_outOn 14 = .ok (.getfield 10, 3) := by decide +kernel
theorem dX6_outOn_17 : decode cX6_outOn 17 = .ok (.invokevirtual 198, 3) := by decide +kernel
theorem dX6_outOn_20 : decode cX6_outOn 20 = .ok (.aload_n 0, 1) := by decide +kernel
theorem dX6_outOn_21 : decode cX6_outOn 21 = .ok (.getfield 16, 3) := by decide +kernel
theorem dX6_outOn_24 : decode cX6_outOn 24 = .ok (.iload_n 1, 1) := by decide +kernel
theorem dX6_outOn_25 : decode cX6_outOn 25 = .ok (.invokevirtual 204, 3) := by decide +kernel
theorem dX6_outOn_28 : decode cX6_outOn 28 = .ok (.ireturn, 1) := by decide +kernel
set_option maxRecDepth 20000 in
theorem ggX6_most_X1_mayBeBooked : GoodIn wsX6_most wsX1_mayBeBooked := goodIn_r _ [9, 10, 129, 130, 131, 132, 133, 134, 135, 136, 137, 138] (by decide +kernel) (by decide +kernel)
set_option maxRecDepth 20000 in
theorem gX6_most_X1_mayBeBooked : GoodIn wsX6_most (wsV RX6 207 RX1 yX1_mayBeBooked wsX1_mayBeBooked) := goodIn_app (goodIn_of _ (by decide +kernel)) ggX6_most_X1_mayBeBooked
set_option maxRecDepth 20000 in
theorem ggX6_most_X1_wouldSuffice : GoodIn wsX6_most wsX1_wouldSuffice := goodIn_r _ [14, 15, 16, 17, 18, 8, 19, 20, 21, 22, 23, 24, 25, 26, 10, 27, 28, 29, 30, 31, 32, 33, 34, 35, 36, 37, 38, 39, 40, 41, 42, 43, 44, 45, 46, 47, 48, 49, 50, 51, 52, 53, 54, 55, 56, 57, 58, 59, 60, 61, 62, 63, 64, 65, 66, 67, 68, 69, 70, 71, 72, 73, 74, 75, 76, 77, 78, 79, 80, 81, 82, 83, 84, 85, 86, 87, 88, 89, 90, 91, 92, 93, 94, 95, 96, 97, 98, 99, 100, 101, 102, 103, 104, 105, 106, 107, 108, 109, 110, 111, 112, 113, 114, 115, 116, 117, 118, 119, 120, 121, 129, 130, 131, 132, 133, 134, 135, 136, 137, 138, 146, 147, 148, 149, 150, 151, 152, 153, 154, 155, 156, 139, 140, 141, 142, 143, 144, 145] (by decide +kernel) (by decide +kernel)
set_option maxRecDepth 20000 in
theorem gX6_most_X1_wouldSuffice : GoodIn wsX6_most (wsV RX6 211 RX1 yX1_wouldSuffice wsX1_wouldSuffice) := goodIn_app (goodIn_of _ (by decide +kernel)) ggX6_most_X1_wouldSuffice
theorem dX6_most_0 : decode cX6_most 0 = .ok (.aload_n 0, 1) := by decide +kernel
theorem dX6_most_1 : decode cX6_most 1 = .ok (.getfield 10, 3) := by decide +kernel
theorem dX6_most_4 : decode cX6_most 4 = .ok (.iconst 1, 1) := by decide +kernel
theorem dX6_most_5 : decode cX6_most 5 = .ok (.iload_n 1, 1) := by decide +kernel
theorem dX6_most_6 : decode cX6_most 6 = .ok (.iload_n 2, 1) := by decide +kernel
theorem dX6_most_7 : decode cX6_most 7 = .ok (.invokevirtual 207, 3) := by decide +kernel
theorem dX6_most_10 : decode cX6_most 10 = .ok (.ifCond .ne 5, 3) := by decide +kernel
theorem dX6_most_13 : decode cX6_most 13 = .ok (.iconst (-1), 1) := by decide +kernel
theorem dX6_most_14 : decode cX6_most 14 = .ok (.ireturn, 1) := by decide +kernel
theorem dX6_most_15 : decode cX6_most 15 = .ok (.aload_n 0, 1) := by decide +kernel
theorem dX6_most_16 : decode cX6_most 16 = .ok (.getfield 10, 3) := by decide +kernel
theorem dX6_most_19 : decode cX6_most 19 = .ok (.getfield 122, 3) := by decide +kernel
theorem dX6_most_22 : decode cX6_most 22 = .ok (.getfield 154, 3) := by decide +kernel
theorem dX6_most_25 : decode cX6_most 25 = .ok (.bipush 16, 2) := by decide +kernel
theorem dX6_most_27 : decode cX6_most 27 = .ok (.if_icmp .lt 6, 3) := by decide +kernel
theorem dX6_most_30 : decode cX6_most 30 = .ok (.bipush (-3), 2) := by decide +kernel
theorem dX6_most_32 : decode cX6_most 32 = .ok (.ireturn, 1) := by decide +kernel
theorem dX6_most_33 : decode cX6_most 33 = .ok (.bipush 6, 2) := by decide +kernel
theorem dX6_most_35 : decode cX6_most 35 = .ok (.istore_n 3, 1) := by decide +kernel
theorem dX6_most_36 : decode cX6_most 36 = .ok (.iload_n 3, 1) := by decide +kernel
theorem dX6_most_37 : decode cX6_most 37 = .ok (.iconst 1, 1) := by decide +kernel
theorem dX6_most_38 : decode cX6_most 38 = .ok (.if_icmp .lt 28, 3) := by decide +kernel
theorem dX6_most_41 : decode cX6_most 41 = .ok (.aload_n 0, 1) := by decide +kernel
theorem dX6_most_42 : decode cX6_most 42 = .ok (.getfield 16, 3) := by decide +kernel
theorem dX6_most_45 : decode cX6_most 45 = .ok (.aload_n 0, 1) := by decide +kernel
theorem dX6_most_46 : decode cX6_most 46 = .ok (.getfield 10, 3) := by decide +kernel
theorem dX6_most_49 : decode cX6_most 49 = .ok (.iload_n 3, 1) := by decide +kernel
theorem dX6_most_50 : decode cX6_most 50 = .ok (.iload_n 1, 1) := by decide +kernel
theorem dX6_most_51 : decode cX6_most 51 = .ok (.iload_n 2, 1) := by decide +kernel
theorem dX6_most_52 : decode cX6_most 52 = .ok (.invokevirtual 211, 3) := by decide +kernel
theorem dX6_most_55 : decode cX6_most 55 = .ok (.ifCond .eq 5, 3) := by decide +kernel
theorem dX6_most_58 : decode cX6_most 58 = .ok (.iload_n 3, 1) := by decide +kernel
theorem dX6_most_59 : decode cX6_most 59 = .ok (.ireturn, 1) := by decide +kernel
theorem dX6_most_60 : decode cX6_most 60 = .ok (.iinc 3 (-1), 3) := by decide +kernel
theorem dX6_most_63 : decode cX6_most 63 = .ok (.goto (-27), 3) := by decide +kernel
theorem dX6_most_66 : decode cX6_most 66 = .ok (.iconst 0, 1) := by decide +kernel
theorem dX6_most_67 : decode cX6_most 67 = .ok (.ireturn, 1) := by decide +kernel
set_option maxRecDepth 20000 in
theorem ggX6_keep_X1_copyFrom : GoodIn wsX6_keep wsX1_copyFrom := goodIn_r _ [9, 10, 11, 12, 13, 14, 15, 16, 17, 18, 19, 20, 21, 22, 23, 24, 25, 26, 27, 28, 29, 30, 31, 32, 33, 34, 35, 36, 37, 38, 39, 40, 41, 42, 43, 44, 45, 46, 47, 48, 49, 50, 51, 52, 53, 61, 62, 63, 64, 65, 66, 67, 68, 69, 70, 71, 72, 73, 74, 75, 76, 77, 78, 79, 80, 81, 82, 83, 84, 85, 86, 87, 88] (by decide +kernel) (by decide +kernel)
set_option maxRecDepth 20000 in
theorem gX6_keep_X1_copyFrom : GoodIn wsX6_keep (wsV RX6 198 RX1 yX1_copyFrom wsX1_copyFrom) := goodIn_app (goodIn_of _ (by decide +kernel)) ggX6_keep_X1_copyFrom
theorem dX6_keep_0 : decode cX6_keep 0 = .ok (.aload_n 0, 1) := by decide +kernel
theorem dX6_keep_1 : decode cX6_keep 1 = .ok (.getfield 19, 3) := by decide +kernel
theorem dX6_keep_4 : decode cX6_keep 4 = .ok (.aload_n 0, 1) := by decide +kernel
theorem dX6_keep_5 : decode cX6_keep 5 = .ok (.getfield 10, 3) := by decide +kernel
theorem dX6_keep_8 : decode cX6_keep 8 = .ok (.invokevirtual 198, 3) := by decide +kernel
theorem dX6_keep_11 : decode cX6_keep 11 = .ok (.aload_n 0, 1) := by decide +kernel
theorem dX6_keep_12 : decode cX6_keep 12 = .ok (.iconst 1, 1) := by decide +kernel
theorem dX6_keep_13 : decode cX6_keep 13 = .ok (.putfield 45, 3) := by decide +kernel
theorem dX6_keep_16 : decode cX6_keep 16 = .ok (.aload_n 0, 1) := by decide +kernel
theorem dX6_keep_17 : decode cX6_keep 17 = .ok (.getfield 10, 3) := by decide +kernel
theorem dX6_keep_20 : decode cX6_keep 20 = .ok (.getfield 164, 3) := by decide +kernel
theorem dX6_keep_23 : decode cX6_keep 23 = .ok (.ireturn, 1) := by decide +kernel
set_option maxRecDepth 20000 in
theorem ggX6_restore_X0_prepare : GoodIn wsX6_restore wsX0_prepare := goodIn_r _ [10, 11, 12, 13, 14, 15, 16, 17, 18, 19, 20, 21, 22, 23, 24, 25, 26, 27, 28, 29, 30, 31, 32, 33, 34, 35, 36, 37, 38, 39, 40, 41, 42, 43, 44, 45, 46, 47, 48, 49, 50, 51, 52, 53, 54, 55, 56, 57, 58, 59, 60, 61, 89, 90, 79, 80, 81, 82, 83, 84, 85, 86, 87, 88, 91, 92, 93, 94, 95, 96, 97, 98, 99, 100, 101, 102, 103, 104, 105, 106, 107, 108] (by decide +kernel) (by decide +kernel)
set_option maxRecDepth 20000 in
theorem gX6_restore_X0_prepare : GoodIn wsX6_restore (wsV RX6 49 RX0 yX0_prepare wsX0_prepare) := goodIn_app (goodIn_of _ (by decide +kernel)) ggX6_restore_X0_prepare
set_option maxRecDepth 20000 in
theorem ggX6_restore_X1_copyFrom : GoodIn wsX6_restore wsX1_copyFrom := goodIn_r _ [17, 18, 19, 20, 21, 22, 23, 24, 25, 26, 27, 28, 29, 30, 31, 32, 33, 34, 35, 36, 37, 38, 39, 40, 41, 42, 43, 44, 45, 46, 47, 48, 49, 50, 51, 52, 53, 54, 55, 56, 57, 58, 59, 60, 61, 79, 80, 81, 82, 83, 84, 85, 86, 87, 88, 91, 92, 93, 94, 95, 96, 97, 98, 99, 100, 101, 102, 103, 104, 105, 106, 107, 108] (by decide +kernel) (by decide +kernel)
set_option maxRecDepth 20000 in
theorem gX6_restore_X1_copyFrom : GoodIn wsX6_restore (wsV RX6 198 RX1 yX1_copyFrom wsX1_copyFrom) := goodIn_app (goodIn_of _ (by decide +kernel)) ggX6_restore_X1_copyFrom
set_option maxRecDepth 20000 in
theorem ggX6_restore_X6_recorded : GoodIn wsX6_restore wsX6_recorded := goodIn_r _ [67, 2, 68, 69, 70, 9, 71, 11, 12, 72, 73, 74, 75, 76, 77, 78, 89, 90] (by decide +kernel) (by decide +kernel)
set_option maxRecDepth 20000 in
theorem gX6_restore_X6_recorded : GoodIn wsX6_restore (wsV RX6 56 RX6 yX6_recorded wsX6_recorded) := goodIn_app (goodIn_of _ (by decide +kernel)) ggX6_restore_X6_recorded
theorem dX6_restore_0 : decode cX6_restore 0 = .ok (.aload_n 0, 1) := by decide +kernel
theorem dX6_restore_1 : decode cX6_restore 1 = .ok (.getfield 45, 3) := by decide +kernel
theorem dX6_restore_4 : decode cX6_restore 4 = .ok (.ifCond .ne 6, 3) := by decide +kernel
theorem dX6_restore_7 : decode cX6_restore 7 = .ok (.bipush (-2), 2) := by decide +kernel
theorem dX6_restore_9 : decode cX6_restore 9 = .ok (.ireturn, 1) := by decide +kernel
theorem dX6_restore_10 : decode cX6_restore 10 = .ok (.aload_n 0, 1) := by decide +kernel
theorem dX6_restore_11 : decode cX6_restore 11 = .ok (.getfield 25, 3) := by decide +kernel
theorem dX6_restore_14 : decode cX6_restore 14 = .ok (.aload_n 0, 1) := by decide +kernel
theorem dX6_restore_15 : decode cX6_restore 15 = .ok (.getfield 10, 3) := by decide +kernel
theorem dX6_restore_18 : decode cX6_restore 18 = .ok (.invokevirtual 49, 3) := by decide +kernel
theorem dX6_restore_21 : decode cX6_restore 21 = .ok (.aload_n 0, 1) := by decide +kernel
theorem dX6_restore_22 : decode cX6_restore 22 = .ok (.getfield 10, 3) := by decide +kernel
theorem dX6_restore_25 : decode cX6_restore 25 = .ok (.aload_n 0, 1) := by decide +kernel
theorem dX6_restore_26 : decode cX6_restore 26 = .ok (.getfield 19, 3) := by decide +kernel
theorem dX6_restore_29 : decode cX6_restore 29 = .ok (.invokevirtual 198, 3) := by decide +kernel
theorem dX6_restore_32 : decode cX6_restore 32 = .ok (.aload_n 0, 1) := by decide +kernel
theorem dX6_restore_33 : decode cX6_restore 33 = .ok (.aload_n 0, 1) := by decide +kernel
theorem dX6_restore_34 : decode cX6_restore 34 = .ok (.getfield 10, 3) := by decide +kernel
theorem dX6_restore_37 : decode cX6_restore 37 = .ok (.getfield 164, 3) := by decide +kernel
theorem dX6_restore_40 : decode cX6_restore 40 = .ok (.invokevirtual 56, 3) := by decide +kernel
theorem dX6_restore_43 : decode cX6_restore 43 = .ok (.ireturn, 1) := by decide +kernel
set_option maxRecDepth 20000 in
theorem ggX6_undo_X0_takeBack : GoodIn wsX6_undo wsX0_takeBack := goodIn_r _ [8, 9, 10, 11, 12, 13, 14, 15, 16, 17, 18, 19, 20, 21, 22, 23, 24, 25, 26, 27, 28, 29, 30, 31, 32, 33, 34, 35, 36, 37, 38, 39, 40, 41, 42, 43, 44, 45, 46, 47, 48, 49, 50, 51, 52, 53, 54, 55, 56, 57, 58, 59, 67, 68, 69, 70, 71, 72, 73, 74, 75, 76, 77, 78, 79, 80, 81, 82, 83, 84, 85, 86, 87, 88, 89, 90, 91, 92, 93, 94, 95, 96] (by decide +kernel) (by decide +kernel)
set_option maxRecDepth 20000 in
theorem gX6_undo_X0_takeBack : GoodIn wsX6_undo (wsV RX6 215 RX0 yX0_takeBack wsX0_takeBack) := goodIn_app (goodIn_of _ (by decide +kernel)) ggX6_undo_X0_takeBack
theorem dX6_undo_0 : decode cX6_undo 0 = .ok (.aload_n 0, 1) := by decide +kernel
theorem dX6_undo_1 : decode cX6_undo 1 = .ok (.getfield 25, 3) := by decide +kernel
theorem dX6_undo_4 : decode cX6_undo 4 = .ok (.getfield 188, 3) := by decide +kernel
theorem dX6_undo_7 : decode cX6_undo 7 = .ok (.ifCond .ne 6, 3) := by decide +kernel
theorem dX6_undo_10 : decode cX6_undo 10 = .ok (.bipush (-2), 2) := by decide +kernel
theorem dX6_undo_12 : decode cX6_undo 12 = .ok (.ireturn, 1) := by decide +kernel
theorem dX6_undo_13 : decode cX6_undo 13 = .ok (.aload_n 0, 1) := by decide +kernel
theorem dX6_undo_14 : decode cX6_undo 14 = .ok (.getfield 25, 3) := by decide +kernel
theorem dX6_undo_17 : decode cX6_undo 17 = .ok (.aload_n 0, 1) := by decide +kernel
theorem dX6_undo_18 : decode cX6_undo 18 = .ok (.getfield 10, 3) := by decide +kernel
theorem dX6_undo_21 : decode cX6_undo 21 = .ok (.invokevirtual 215, 3) := by decide +kernel
theorem dX6_undo_24 : decode cX6_undo 24 = .ok (.aload_n 0, 1) := by decide +kernel
theorem dX6_undo_25 : decode cX6_undo 25 = .ok (.getfield 25, 3) := by decide +kernel
theorem dX6_undo_28 : decode cX6_undo 28 = .ok (.getfield 188, 3) := by decide +kernel
theorem dX6_undo_31 : decode cX6_undo 31 = .ok (.ireturn, 1) := by decide +kernel
set_option maxRecDepth 20000 in
theorem ggX6_type_X5_append : GoodIn wsX6_type wsX5_append := goodIn_r _ [7, 8, 9, 17, 18, 19, 20, 21] (by decide +kernel) (by decide +kernel)
set_option maxRecDepth 20000 in
theorem gX6_type_X5_append : GoodIn wsX6_type (wsV RX6 218 RX5 yX5_append wsX5_append) := goodIn_app (goodIn_of _ (by decide +kernel)) ggX6_type_X5_append
theorem dX6_type_0 : decode cX6_type 0 = .ok (.iload_n 1, 1) := by decide +kernel
theorem dX6_type_1 : decode cX6_type 1 = .ok (.bipush 32, 2) := by decide +kernel
theorem dX6_type_3 : decode cX6_type 3 = .ok (.if_icmp .lt 9, 3) := by decide +kernel
theorem dX6_type_6 : decode cX6_type 6 = .ok (.iload_n 1, 1) := by decide +kernel
theorem dX6_type_7 : decode cX6_type 7 = .ok (.bipush 126, 2) := by decide +kernel
theorem dX6_type_9 : decode cX6_type 9 = .ok (.if_icmp .le 5, 3) := by decide +kernel
theorem dX6_type_12 : decode cX6_type 12 = .ok (.iconst (-1), 1) := by decide +kernel
theorem dX6_type_13 : decode cX6_type 13 = .ok (.ireturn, 1) := by decide +kernel
theorem dX6_type_14 : decode cX6_type 14 = .ok (.aload_n 0, 1) := by decide +kernel
theorem dX6_type_15 : decode cX6_type 15 = .ok (.getfield 32, 3) := by decide +kernel
theorem dX6_type_18 : decode cX6_type 18 = .ok (.getfield 191, 3) := by decide +kernel
theorem dX6_type_21 : decode cX6_type 21 = .ok (.bipush 60, 2) := by decide +kernel
theorem dX6_type_23 : decode cX6_type 23 = .ok (.if_icmp .lt 6, 3) := by decide +kernel
theorem dX6_type_26 : decode cX6_type 26 = .ok (.bipush (-3), 2) := by decide +kernel
theorem dX6_type_28 : decode cX6_type 28 = .ok (.ireturn, 1) := by decide +kernel
theorem dX6_type_29 : decode cX6_type 29 = .ok (.aload_n 0, 1) := by decide +kernel
theorem dX6_type_30 : decode cX6_type 30 = .ok (.getfield 32, 3) := by decide +kernel
theorem dX6_type_33 : decode cX6_type 33 = .ok (.iload_n 1, 1) := by decide +kernel
theorem dX6_type_34 : decode cX6_type 34 = .ok (.invokevirtual 218, 3) := by decide +kernel
theorem dX6_type_37 : decode cX6_type 37 = .ok (.aload_n 0, 1) := by decide +kernel
theorem dX6_type_38 : decode cX6_type 38 = .ok (.getfield 32, 3) := by decide +kernel
theorem dX6_type_41 : decode cX6_type 41 = .ok (.getfield 191, 3) := by decide +kernel
theorem dX6_type_44 : decode cX6_type 44 = .ok (.ireturn, 1) := by decide +kernel
theorem dX6_clearText_0 : decode cX6_clearText 0 = .ok (.aload_n 0, 1) := by decide +kernel
theorem dX6_clearText_1 : decode cX6_clearText 1 = .ok (.getfield 32, 3) := by decide +kernel
theorem dX6_clearText_4 : decode cX6_clearText 4 = .ok (.getfield 191, 3) := by decide +kernel
theorem dX6_clearText_7 : decode cX6_clearText 7 = .ok (.istore_n 1, 1) := by decide +kernel
theorem dX6_clearText_8 : decode cX6_clearText 8 = .ok (.aload_n 0, 1) := by decide +kernel
theorem dX6_clearText_9 : decode cX6_clearText 9 = .ok (.getfield 32, 3) := by decide +kernel
theorem dX6_clearText_12 : decode cX6_clearText 12 = .ok (.iconst 0, 1) := by decide +kernel
theorem dX6_clearText_13 : decode cX6_clearText 13 = .ok (.putfield 191, 3) := by decide +kernel
theorem dX6_clearText_16 : decode cX6_clearText 16 = .ok (.iload_n 1, 1) := by decide +kernel
theorem dX6_clearText_17 : decode cX6_clearText 17 = .ok (.ireturn, 1) := by decide +kernel
set_option maxRecDepth 20000 in
theorem ggX6_fault_X3_run : GoodIn wsX6_fault wsX3_run := goodIn_r _ [11, 12, 13, 14, 15, 16, 17, 18, 19, 20, 21, 22, 23, 24, 25, 26, 27, 28, 29, 30, 31, 32, 33, 34, 35, 36, 37, 38, 39, 40, 41, 42, 43, 44, 45, 46, 47, 48, 49, 50, 51, 52, 53, 54, 55, 56, 57, 58, 59, 60, 61, 62, 63, 64, 65, 66, 67, 68, 69, 70, 71, 72, 73, 74, 75, 76, 77, 78, 79, 80, 81, 82, 83, 84, 85, 86, 87, 88, 89, 90, 91, 92, 93, 94, 95, 96, 97, 98, 99, 100, 101, 102, 10, 103, 104, 105, 106, 107, 108, 109, 110, 111, 112, 113, 114, 115, 116, 117, 118, 119, 120, 121, 122, 123, 124, 125, 126, 127, 128, 129, 130, 131, 132, 133, 134, 135, 136, 137, 138, 139, 140, 141, 142, 143, 144, 145, 146, 147, 148, 149, 150, 151, 152, 153, 154, 155, 156, 157, 158, 159, 160, 161, 162, 163, 164, 165, 166, 167, 168, 169, 170, 171, 172, 173, 174, 175, 176, 177, 178, 179, 180, 181, 182, 183, 184, 185, 186, 187, 188, 189, 190, 191, 192, 193, 194, 195, 196, 197, 198, 199, 200, 201, 202, 203, 204, 205, 206, 207, 208, 209, 210, 211, 212, 213, 214, 215, 216, 217, 218, 219, 220, 221, 222, 223, 224, 232, 233, 234, 235, 236, 237, 238, 239, 240, 241, 242, 243, 244, 245, 246, 247, 248, 249, 250, 251, 252, 253, 254, 255, 256, 257, 258, 259, 260, 261, 262, 263, 264, 265, 266, 267, 268, 269, 270] (by decide +kernel) (by decide +kernel)
set_option maxRecDepth 20000 in
theorem gX6_fault_X3_run : GoodIn wsX6_fault (wsV RX6 222 RX3 yX3_run wsX3_run) := goodIn_app (goodIn_of _ (by decide +kernel)) ggX6_fault_X3_run
theorem dX6_fault_0 : decode cX6_fault 0 = .ok (.iload_n 1, 1) := by decide +kernel
theorem dX6_fault_1 : decode cX6_fault 1 = .ok (.ifCond .lt 8, 3) := by decide +kernel
theorem dX6_fault_4 : decode cX6_fault 4 = .ok (.iload_n 1, 1) := by decide +kernel
theorem dX6_fault_5 : decode cX6_fault 5 = .ok (.iconst 2, 1) := by decide +kernel
theorem dX6_fault_6 : decode cX6_fault 6 = .ok (.if_icmp .le 5, 3) := by decide +kernel
theorem dX6_fault_9 : decode cX6_fault 9 = .ok (.iconst (-1), 1) := by decide +kernel
theorem dX6_fault_10 : decode cX6_fault 10 = .ok (.ireturn, 1) := by decide +kernel
theorem dX6_fault_11 : decode cX6_fault 11 = .ok (.aload_n 0, 1) := by decide +kernel
theorem dX6_fault_12 : decode cX6_fault 12 = .ok (.getfield 41, 3) := by decide +kernel
theorem dX6_fault_15 : decode cX6_fault 15 = .ok (.aload_n 0, 1) := by decide +kernel
theorem dX6_fault_16 : decode cX6_fault 16 = .ok (.getfield 32, 3) := by decide +kernel
theorem dX6_fault_19 : decode cX6_fault 19 = .ok (.aload_n 0, 1) := by decide +kernel
theorem dX6_fault_20 : decode cX6_fault 20 = .ok (.getfield 10, 3) := by decide +kernel
theorem dX6_fault_23 : decode cX6_fault 23 = .ok (.invokevirtual 222, 3) := by decide +kernel
theorem dX6_fault_26 : decode cX6_fault 26 = .ok (.aload_n 0, 1) := by decide +kernel
theorem dX6_fault_27 : decode cX6_fault 27 = .ok (.getfield 41, 3) := by decide +kernel
theorem dX6_fault_30 : decode cX6_fault 30 = .ok (.getfield 226, 3) := by decide +kernel
theorem dX6_fault_33 : decode cX6_fault 33 = .ok (.ifCond .ne 6, 3) := by decide +kernel
theorem dX6_fault_36 : decode cX6_fault 36 = .ok (.bipush (-4), 2) := by decide +kernel
theorem dX6_fault_38 : decode cX6_fault 38 = .ok (.ireturn, 1) := by decide +kernel
theorem dX6_fault_39 : decode cX6_fault 39 = .ok (.iload_n 1, 1) := by decide +kernel
theorem dX6_fault_40 : decode cX6_fault 40 = .ok (.ifCond .ne 11, 3) := by decide +kernel
theorem dX6_fault_43 : decode cX6_fault 43 = .ok (.aload_n 0, 1) := by decide +kernel
theorem dX6_fault_44 : decode cX6_fault 44 = .ok (.getfield 41, 3) := by decide +kernel
theorem dX6_fault_47 : decode cX6_fault 47 = .ok (.getfield 229, 3) := by decide +kernel
theorem dX6_fault_50 : decode cX6_fault 50 = .ok (.ireturn, 1) := by decide +kernel
theorem dX6_fault_51 : decode cX6_fault 51 = .ok (.iload_n 1, 1) := by decide +kernel
theorem dX6_fault_52 : decode cX6_fault 52 = .ok (.iconst 1, 1) := by decide +kernel
theorem dX6_fault_53 : decode cX6_fault 53 = .ok (.if_icmp .ne 11, 3) := by decide +kernel
theorem dX6_fault_56 : decode cX6_fault 56 = .ok (.aload_n 0, 1) := by decide +kernel
theorem dX6_fault_57 : decode cX6_fault 57 = .ok (.getfield 41, 3) := by decide +kernel
theorem dX6_fault_60 : decode cX6_fault 60 = .ok (.getfield 226, 3) := by decide +kernel
theorem dX6_fault_63 : decode cX6_fault 63 = .ok (.ireturn, 1) := by decide +kernel
theorem dX6_fault_64 : decode cX6_fault 64 = .ok (.aload_n 0, 1) := by decide +kernel
theorem dX6_fault_65 : decode cX6_fault 65 = .ok (.getfield 41, 3) := by decide +kernel
theorem dX6_fault_68 : decode cX6_fault 68 = .ok (.getfield 226, 3) := by decide +kernel
theorem dX6_fault_71 : decode cX6_fault 71 = .ok (.iconst 1, 1) := by decide +kernel
theorem dX6_fault_72 : decode cX6_fault 72 = .ok (.if_icmp .ne 8, 3) := by decide +kernel
theorem dX6_fault_75 : decode cX6_fault 75 = .ok (.bipush (-4), 2) := by decide +kernel
theorem dX6_fault_77 : decode cX6_fault 77 = .ok (.goto 10, 3) := by decide +kernel
theorem dX6_fault_80 : decode cX6_fault 80 = .ok (.aload_n 0, 1) := by decide +kernel
theorem dX6_fault_81 : decode cX6_fault 81 = .ok (.getfield 41, 3) := by decide +kernel
theorem dX6_fault_84 : decode cX6_fault 84 = .ok (.getfield 232, 3) := by decide +kernel
theorem dX6_fault_87 : decode cX6_fault 87 = .ok (.ireturn, 1) := by decide +kernel
set_option maxRecDepth 20000 in
theorem ggX6_play_X3_run : GoodIn wsX6_play wsX3_run := goodIn_r _ [12, 13, 14, 15, 16, 17, 18, 19, 20, 21, 22, 23, 24, 25, 26, 27, 28, 29, 30, 31, 32, 33, 34, 35, 36, 37, 38, 39, 40, 41, 42, 43, 44, 45, 46, 47, 48, 49, 50, 51, 52, 53, 54, 55, 56, 57, 58, 59, 60, 61, 62, 63, 64, 65, 66, 67, 68, 69, 70, 71, 72, 73, 74, 75, 76, 77, 78, 79, 80, 81, 82, 83, 84, 85, 86, 87, 88, 89, 90, 91, 92, 93, 94, 95, 96, 97, 98, 99, 100, 101, 102, 103, 11, 104, 105, 106, 107, 108, 109, 110, 111, 112, 113, 114, 115, 116, 117, 118, 119, 120, 121, 122, 123, 124, 125, 126, 127, 128, 129, 130, 131, 132, 133, 134, 135, 136, 137, 138, 139, 140, 141, 142, 143, 144, 145, 146, 147, 148, 149, 150, 151, 152, 153, 154, 155, 156, 157, 158, 159, 160, 161, 162, 163, 164, 165, 166, 167, 168, 169, 170, 171, 172, 173, 174, 175, 176, 177, 178, 179, 180, 181, 182, 183, 184, 185, 186, 187, 188, 189, 190, 191, 192, 193, 194, 195, 196, 197, 198, 199, 200, 201, 202, 203, 204, 205, 206, 207, 208, 209, 210, 211, 212, 213, 214, 215, 216, 217, 218, 219, 220, 221, 222, 223, 224, 225, 251, 252, 253, 254, 255, 256, 257, 258, 259, 260, 261, 262, 263, 264, 265, 266, 267, 268, 269, 270, 271, 272, 273, 274, 275, 276, 277, 278, 279, 280, 281, 282, 283, 284, 285, 286, 287, 288, 289] (by decide +kernel) (by decide +kernel)
set_option maxRecDepth 20000 in
theorem gX6_play_X3_run : GoodIn wsX6_play (wsV RX6 222 RX3 yX3_run wsX3_run) := goodIn_app (goodIn_of _ (by decide +kernel)) ggX6_play_X3_run
set_option maxRecDepth 20000 in
theorem ggX6_play_X0_prepare : GoodIn wsX6_play wsX0_prepare := goodIn_r _ [230, 231, 232, 233, 23, 24, 25, 26, 27, 28, 29, 30, 31, 32, 33, 34, 35, 36, 37, 38, 39, 40, 41, 42, 43, 44, 45, 46, 47, 48, 49, 50, 51, 52, 53, 54, 55, 56, 57, 58, 59, 60, 61, 62, 63, 64, 65, 66, 67, 68, 69, 70, 290, 291, 262, 263, 264, 265, 266, 267, 268, 269, 270, 271, 272, 273, 274, 275, 276, 277, 278, 279, 280, 281, 282, 283, 284, 285, 286, 287, 288, 289] (by decide +kernel) (by decide +kernel)
set_option maxRecDepth 20000 in
theorem gX6_play_X0_prepare : GoodIn wsX6_play (wsV RX6 49 RX0 yX0_prepare wsX0_prepare) := goodIn_app (goodIn_of _ (by decide +kernel)) ggX6_play_X0_prepare
set_option maxRecDepth 20000 in
theorem ggX6_play_X1_copyFrom : GoodIn wsX6_play wsX1_copyFrom := goodIn_r _ [26, 27, 28, 29, 30, 31, 32, 33, 34, 35, 36, 37, 38, 39, 40, 41, 42, 43, 44, 45, 46, 47, 48, 49, 50, 51, 52, 53, 54, 55, 56, 57, 58, 59, 60, 61, 62, 63, 64, 65, 66, 67, 68, 69, 70, 262, 263, 264, 265, 266, 267, 268, 269, 270, 271, 272, 273, 274, 275, 276, 277, 278, 279, 280, 281, 282, 283, 284, 285, 286, 287, 288, 289] (by decide +kernel) (by decide +kernel)
set_option maxRecDepth 20000 in
theorem gX6_play_X1_copyFrom : GoodIn wsX6_play (wsV RX6 198 RX1 yX1_copyFrom wsX1_copyFrom) := goodIn_app (goodIn_of _ (by decide +kernel)) ggX6_play_X1_copyFrom
set_option maxRecDepth 20000 in
theorem ggX6_play_X6_recorded : GoodIn wsX6_play wsX6_recorded := goodIn_r _ [239, 5, 240, 241, 242, 229, 243, 231, 232, 244, 245, 246, 247, 248, 249, 250, 290, 291] (by decide +kernel) (by decide +kernel)
set_option maxRecDepth 20000 in
theorem gX6_play_X6_recorded : GoodIn wsX6_play (wsV RX6 56 RX6 yX6_recorded wsX6_recorded) := goodIn_app (goodIn_of _ (by decide +kernel)) ggX6_play_X6_recorded
theorem dX6_play_0 : decode cX6_play 0 = .ok (.aload_n 0, 1) := by decide +kernel
theorem dX6_play_1 : decode cX6_play 1 = .ok (.getfield 41, 3) := by decide +kernel
theorem dX6_play_4 : decode cX6_play 4 = .ok (.aload_n 0, 1) := by decide +kernel
theorem dX6_play_5 : decode cX6_play 5 = .ok (.getfield 32, 3) := by decide +kernel
theorem dX6_play_8 : decode cX6_play 8 = .ok (.aload_n 0, 1) := by decide +kernel
theorem dX6_play_9 : decode cX6_play 9 = .ok (.getfield 10, 3) := by decide +kernel
theorem dX6_play_12 : decode cX6_play 12 = .ok (.invokevirtual 222, 3) := by decide +kernel
theorem dX6_play_15 : decode cX6_play 15 = .ok (.aload_n 0, 1) := by decide +kernel
theorem dX6_play_16 : decode cX6_play 16 = .ok (.getfield 41, 3) := by decide +kernel
theorem dX6_play_19 : decode cX6_play 19 = .ok (.getfield 226, 3) := by decide +kernel
theorem dX6_play_22 : decode cX6_play 22 = .ok (.ifCond .eq 6, 3) := by decide +kernel
theorem dX6_play_25 : decode cX6_play 25 = .ok (.bipush (-2), 2) := by decide +kernel
theorem dX6_play_27 : decode cX6_play 27 = .ok (.ireturn, 1) := by decide +kernel
theorem dX6_play_28 : decode cX6_play 28 = .ok (.aload_n 0, 1) := by decide +kernel
theorem dX6_play_29 : decode cX6_play 29 = .ok (.getfield 25, 3) := by decide +kernel
theorem dX6_play_32 : decode cX6_play 32 = .ok (.aload_n 0, 1) := by decide +kernel
theorem dX6_play_33 : decode cX6_play 33 = .ok (.getfield 10, 3) := by decide +kernel
theorem dX6_play_36 : decode cX6_play 36 = .ok (.invokevirtual 49, 3) := by decide +kernel
theorem dX6_play_39 : decode cX6_play 39 = .ok (.aload_n 0, 1) := by decide +kernel
theorem dX6_play_40 : decode cX6_play 40 = .ok (.getfield 10, 3) := by decide +kernel
theorem dX6_play_43 : decode cX6_play 43 = .ok (.aload_n 0, 1) := by decide +kernel
theorem dX6_play_44 : decode cX6_play 44 = .ok (.getfield 41, 3) := by decide +kernel
theorem dX6_play_47 : decode cX6_play 47 = .ok (.getfield 235, 3) := by decide +kernel
theorem dX6_play_50 : decode cX6_play 50 = .ok (.invokevirtual 198, 3) := by decide +kernel
theorem dX6_play_53 : decode cX6_play 53 = .ok (.aload_n 0, 1) := by decide +kernel
theorem dX6_play_54 : decode cX6_play 54 = .ok (.aload_n 0, 1) := by decide +kernel
theorem dX6_play_55 : decode cX6_play 55 = .ok (.getfield 41, 3) := by decide +kernel
theorem dX6_play_58 : decode cX6_play 58 = .ok (.getfield 238, 3) := by decide +kernel
theorem dX6_play_61 : decode cX6_play 61 = .ok (.invokevirtual 56, 3) := by decide +kernel
theorem dX6_play_64 : decode cX6_play 64 = .ok (.ireturn, 1) := by decide +kernel
set_option maxRecDepth 20000 in
theorem ggX6_recorded_X0_commit : GoodIn wsX6_recorded wsX0_commit := goodIn_r _ [6, 7, 8, 16, 17] (by decide +kernel) (by decide +kernel)
set_option maxRecDepth 20000 in
theorem gX6_recorded_X0_commit : GoodIn wsX6_recorded (wsV RX6 241 RX0 yX0_commit wsX0_commit) := goodIn_app (goodIn_of _ (by decide +kernel)) ggX6_recorded_X0_commit
theorem dX6_recorded_0 : decode cX6_recorded 0 = .ok (.iload_n 1, 1) := by decide +kernel
theorem dX6_recorded_1 : decode cX6_recorded 1 = .ok (.ifCond .lt 10, 3) := by decide +kernel
theorem dX6_recorded_4 : decode cX6_recorded 4 = .ok (.aload_n 0, 1) := by decide +kernel
theorem dX6_recorded_5 : decode cX6_recorded 5 = .ok (.getfield 25, 3) := by decide +kernel
theorem dX6_recorded_8 : decode cX6_recorded 8 = .ok (.invokevirtual 241, 3) := by decide +kernel
theorem dX6_recorded_11 : decode cX6_recorded 11 = .ok (.iload_n 1, 1) := by decide +kernel
theorem dX6_recorded_12 : decode cX6_recorded 12 = .ok (.ireturn, 1) := by decide +kernel
theorem dX7_init_0 : decode cX7_init 0 = .ok (.aload_n 0, 1) := by decide +kernel
theorem dX7_init_1 : decode cX7_init 1 = .ok (.invokespecial 1, 3) := by decide +kernel
theorem dX7_init_4 : decode cX7_init 4 = .ok (.aload_n 0, 1) := by decide +kernel
theorem dX7_init_5 : decode cX7_init 5 = .ok (.sipush 599, 3) := by decide +kernel
theorem dX7_init_8 : decode cX7_init 8 = .ok (.newarray .int, 2) := by decide +kernel
theorem dX7_init_10 : decode cX7_init 10 = .ok (.putfield 7, 3) := by decide +kernel
theorem dX7_init_13 : decode cX7_init 13 = .ok (.aload_n 0, 1) := by decide +kernel
theorem dX7_init_14 : decode cX7_init 14 = .ok (.sipush 599, 3) := by decide +kernel
theorem dX7_init_17 : decode cX7_init 17 = .ok (.newarray .int, 2) := by decide +kernel
theorem dX7_init_19 : decode cX7_init 19 = .ok (.putfield 13, 3) := by decide +kernel
theorem dX7_init_22 : decode cX7_init 22 = .ok (.aload_n 0, 1) := by decide +kernel
theorem dX7_init_23 : decode cX7_init 23 = .ok (.sipush 599, 3) := by decide +kernel
theorem dX7_init_26 : decode cX7_init 26 = .ok (.newarray .int, 2) := by decide +kernel
theorem dX7_init_28 : decode cX7_init 28 = .ok (.putfield 16, 3) := by decide +kernel
theorem dX7_init_31 : decode cX7_init 31 = .ok (.aload_n 0, 1) := by decide +kernel
theorem dX7_init_32 : decode cX7_init 32 = .ok (.sipush 2396, 3) := by decide +kernel
theorem dX7_init_35 : decode cX7_init 35 = .ok (.newarray .int, 2) := by decide +kernel
theorem dX7_init_37 : decode cX7_init 37 = .ok (.putfield 19, 3) := by decide +kernel
theorem dX7_init_40 : decode cX7_init 40 = .ok (.aload_n 0, 1) := by decide +kernel
theorem dX7_init_41 : decode cX7_init 41 = .ok (.bipush 60, 2) := by decide +kernel
theorem dX7_init_43 : decode cX7_init 43 = .ok (.newarray .int, 2) := by decide +kernel
theorem dX7_init_45 : decode cX7_init 45 = .ok (.putfield 22, 3) := by decide +kernel
theorem dX7_init_48 : decode cX7_init 48 = .ok (.aload_n 0, 1) := by decide +kernel
theorem dX7_init_49 : decode cX7_init 49 = .ok (.sipush 599, 3) := by decide +kernel
theorem dX7_init_52 : decode cX7_init 52 = .ok (.newarray .int, 2) := by decide +kernel
theorem dX7_init_54 : decode cX7_init 54 = .ok (.putfield 25, 3) := by decide +kernel
theorem dX7_init_57 : decode cX7_init 57 = .ok (.aload_n 0, 1) := by decide +kernel
theorem dX7_init_58 : decode cX7_init 58 = .ok (.iconst 3, 1) := by decide +kernel
theorem dX7_init_59 : decode cX7_init 59 = .ok (.newarray .int, 2) := by decide +kernel
theorem dX7_init_61 : decode cX7_init 61 = .ok (.putfield 28, 3) := by decide +kernel
theorem dX7_init_64 : decode cX7_init 64 = .ok (.aload_n 0, 1) := by decide +kernel
theorem dX7_init_65 : decode cX7_init 65 = .ok (.getfield 7, 3) := by decide +kernel
theorem dX7_init_68 : decode cX7_init 68 = .ok (.bipush 10, 2) := by decide +kernel
theorem dX7_init_70 : decode cX7_init 70 = .ok (.bipush 12, 2) := by decide +kernel
theorem dX7_init_72 : decode cX7_init 72 = .ok (.iastore, 1) := by decide +kernel
theorem dX7_init_73 : decode cX7_init 73 = .ok (.aload_n 0, 1) := by decide +kernel
theorem dX7_init_74 : decode cX7_init 74 = .ok (.getfield 7, 3) := by decide +kernel
theorem dX7_init_77 : decode cX7_init 77 = .ok (.bipush 11, 2) := by decide +kernel
theorem dX7_init_79 : decode cX7_init 79 = .ok (.iconst 2, 1) := by decide +kernel
theorem dX7_init_80 : decode cX7_init 80 = .ok (.iastore, 1) := by decide +kernel
theorem dX7_init_81 : decode cX7_init 81 = .ok (.aload_n 0, 1) := by decide +kernel
theorem dX7_init_82 : decode cX7_init 82 = .ok (.getfield 7, 3) := by decide +kernel
theorem dX7_init_85 : decode cX7_init 85 = .ok (.bipush 12, 2) := by decide +kernel
theorem dX7_init_87 : decode cX7_init 87 = .ok (.iconst 3, 1) := by decide +kernel
theorem dX7_init_88 : decode cX7_init 88 = .ok (.iastore, 1) := by decide +kernel
theorem dX7_init_89 : decode cX7_init 89 = .ok (.aload_n 0, 1) := by decide +kernel
theorem dX7_init_90 : decode cX7_init 90 = .ok (.getfield 7, 3) := by decide +kernel
theorem dX7_init_93 : decode cX7_init 93 = .ok (.bipush 13, 2) := by decide +kernel
theorem dX7_init_95 : decode cX7_init 95 = .ok (.iconst 1, 1) := by decide +kernel
theorem dX7_init_96 : decode cX7_init 96 = .ok (.iastore, 1) := by decide +kernel
theorem dX7_init_97 : decode cX7_init 97 = .ok (.return_, 1) := by decide +kernel
theorem dX7_in_0 : decode cX7_in 0 = .ok (.iload_n 0, 1) := by decide +kernel
theorem dX7_in_1 : decode cX7_in 1 = .ok (.iload_n 1, 1) := by decide +kernel
theorem dX7_in_2 : decode cX7_in 2 = .ok (.if_icmp .lt 12, 3) := by decide +kernel
theorem dX7_in_5 : decode cX7_in 5 = .ok (.iload_n 0, 1) := by decide +kernel
theorem dX7_in_6 : decode cX7_in 6 = .ok (.iload_n 2, 1) := by decide +kernel
theorem dX7_in_7 : decode cX7_in 7 = .ok (.if_icmp .gt 7, 3) := by decide +kernel
theorem dX7_in_10 : decode cX7_in 10 = .ok (.iconst 1, 1) := by decide +kernel
theorem dX7_in_11 : decode cX7_in 11 = .ok (.goto 4, 3) := by decide +kernel
theorem dX7_in_14 : decode cX7_in 14 = .ok (.iconst 0, 1) := by decide +kernel
theorem dX7_in_15 : decode cX7_in 15 = .ok (.ireturn, 1) := by decide +kernel
theorem dX7_begins_0 : decode cX7_begins 0 = .ok (.iconst 0, 1) := by decide +kernel
theorem dX7_begins_1 : decode cX7_begins 1 = .ok (.istore_n 1, 1) := by decide +kernel
theorem dX7_begins_2 : decode cX7_begins 2 = .ok (.iload_n 1, 1) := by decide +kernel
theorem dX7_begins_3 : decode cX7_begins 3 = .ok (.sipush 599, 3) := by decide +kernel
theorem dX7_begins_6 : decode cX7_begins 6 = .ok (.if_icmp .ge 21, 3) := by decide +kernel
theorem dX7_begins_9 : decode cX7_begins 9 = .ok (.aload_n 0, 1) := by decide +kernel
theorem dX7_begins_10 : decode cX7_begins 10 = .ok (.getfield 13, 3) := by decide +kernel
theorem dX7_begins_13 : decode cX7_begins 13 = .ok (.iload_n 1, 1) := by decide +kernel
theorem dX7_begins_14 : decode cX7_begins 14 = .ok (.aload_n 0, 1) := by decide +kernel
theorem dX7_begins_15 : decode cX7_begins 15 = .ok (.getfield 7, 3) := by decide +kernel
theorem dX7_begins_18 : decode cX7_begins 18 = .ok (.iload_n 1, 1) := by decide +kernel
theorem dX7_begins_19 : decode cX7_begins 19 = .ok (.iaload, 1) := by decide +kernel
theorem dX7_begins_20 : decode cX7_begins 20 = .ok (.iastore, 1) := by decide +kernel
theorem dX7_begins_21 : decode cX7_begins 21 = .ok (.iinc 1 1, 3) := by decide +kernel
theorem dX7_begins_24 : decode cX7_begins 24 = .ok (.goto (-22), 3) := by decide +kernel
theorem dX7_begins_27 : decode cX7_begins 27 = .ok (.return_, 1) := by decide +kernel
theorem dX7_returns_0 : decode cX7_returns 0 = .ok (.iconst 0, 1) := by decide +kernel
theorem dX7_returns_1 : decode cX7_returns 1 = .ok (.istore_n 1, 1) := by decide +kernel
theorem dX7_returns_2 : decode cX7_returns 2 = .ok (.iload_n 1, 1) := by decide +kernel
theorem dX7_returns_3 : decode cX7_returns 3 = .ok (.sipush 599, 3) := by decide +kernel
theorem dX7_returns_6 : decode cX7_returns 6 = .ok (.if_icmp .ge 21, 3) := by decide +kernel
theorem dX7_returns_9 : decode cX7_returns 9 = .ok (.aload_n 0, 1) := by decide +kernel
theorem dX7_returns_10 : decode cX7_returns 10 = .ok (.getfield 7, 3) := by decide +kernel
theorem dX7_returns_13 : decode cX7_returns 13 = .ok (.iload_n 1, 1) := by decide +kernel
theorem dX7_returns_14 : decode cX7_returns 14 = .ok (.aload_n 0, 1) := by decide +kernel
theorem dX7_returns_15 : decode cX7_returns 15 = .ok (.getfield 13, 3) := by decide +kernel
theorem dX7_returns_18 : decode cX7_returns 18 = .ok (.iload_n 1, 1) := by decide +kernel
theorem dX7_returns_19 : decode cX7_returns 19 = .ok (.iaload, 1) := by decide +kernel
theorem dX7_returns_20 : decode cX7_returns 20 = .ok (.iastore, 1) := by decide +kernel
theorem dX7_returns_21 : decode cX7_returns 21 = .ok (.iinc 1 1, 3) := by decide +kernel
theorem dX7_returns_24 : decode cX7_returns 24 = .ok (.goto (-22), 3) := by decide +kernel
theorem dX7_returns_27 : decode cX7_returns 27 = .ok (.return_, 1) := by decide +kernel
set_option maxRecDepth 20000 in
theorem ggX7_acted_X7_returns : GoodIn wsX7_acted wsX7_returns := goodIn_r _ [8, 9, 3, 10, 11, 12, 13, 14, 15, 16, 17, 18, 19, 20, 21, 22, 23] (by decide +kernel) (by decide +kernel)
set_option maxRecDepth 20000 in
theorem gX7_acted_X7_returns : GoodIn wsX7_acted (wsV RX7 31 RX7 yX7_returns wsX7_returns) := goodIn_app (goodIn_of _ (by decide +kernel)) ggX7_acted_X7_returns
theorem dX7_acted_0 : decode cX7_acted 0 = .ok (.iload_n 1, 1) := by decide +kernel
theorem dX7_acted_1 : decode cX7_acted 1 = .ok (.ifCond .ge 9, 3) := by decide +kernel
theorem dX7_acted_4 : decode cX7_acted 4 = .ok (.aload_n 0, 1) := by decide +kernel
theorem dX7_acted_5 : decode cX7_acted 5 = .ok (.invokevirtual 31, 3) := by decide +kernel
theorem dX7_acted_8 : decode cX7_acted 8 = .ok (.iload_n 1, 1) := by decide +kernel
theorem dX7_acted_9 : decode cX7_acted 9 = .ok (.ireturn, 1) := by decide +kernel
theorem dX7_acted_10 : decode cX7_acted 10 = .ok (.aload_n 0, 1) := by decide +kernel
theorem dX7_acted_11 : decode cX7_acted 11 = .ok (.getfield 34, 3) := by decide +kernel
theorem dX7_acted_14 : decode cX7_acted 14 = .ok (.iconst 4, 1) := by decide +kernel
theorem dX7_acted_15 : decode cX7_acted 15 = .ok (.if_icmp .ne 44, 3) := by decide +kernel
theorem dX7_acted_18 : decode cX7_acted 18 = .ok (.iconst 0, 1) := by decide +kernel
theorem dX7_acted_19 : decode cX7_acted 19 = .ok (.istore_n 2, 1) := by decide +kernel
theorem dX7_acted_20 : decode cX7_acted 20 = .ok (.iload_n 2, 1) := by decide +kernel
theorem dX7_acted_21 : decode cX7_acted 21 = .ok (.sipush 1797, 3) := by decide +kernel
theorem dX7_acted_24 : decode cX7_acted 24 = .ok (.if_icmp .ge 25, 3) := by decide +kernel
theorem dX7_acted_27 : decode cX7_acted 27 = .ok (.aload_n 0, 1) := by decide +kernel
theorem dX7_acted_28 : decode cX7_acted 28 = .ok (.getfield 19, 3) := by decide +kernel
theorem dX7_acted_31 : decode cX7_acted 31 = .ok (.iload_n 2, 1) := by decide +kernel
theorem dX7_acted_32 : decode cX7_acted 32 = .ok (.aload_n 0, 1) := by decide +kernel
theorem dX7_acted_33 : decode cX7_acted 33 = .ok (.getfield 19, 3) := by decide +kernel
theorem dX7_acted_36 : decode cX7_acted 36 = .ok (.iload_n 2, 1) := by decide +kernel
theorem dX7_acted_37 : decode cX7_acted 37 = .ok (.sipush 599, 3) := by decide +kernel
theorem dX7_acted_40 : decode cX7_acted 40 = .ok (.iadd, 1) := by decide +kernel
theorem dX7_acted_41 : decode cX7_acted 41 = .ok (.iaload, 1) := by decide +kernel
theorem dX7_acted_42 : decode cX7_acted 42 = .ok (.iastore, 1) := by decide +kernel
theorem dX7_acted_43 : decode cX7_acted 43 = .ok (.iinc 2 1, 3) := by decide +kernel
theorem dX7_acted_46 : decode cX7_acted 46 = .ok (.goto (-26), 3) := by decide +kernel
theorem dX7_acted_49 : decode cX7_acted 49 = .ok (.aload_n 0, 1) := by decide +kernel
theorem dX7_acted_50 : decode cX7_acted 50 = .ok (.dup, 1) := by decide +kernel
theorem dX7_acted_51 : decode cX7_acted 51 = .ok (.getfield 34, 3) := by decide +kernel
theorem dX7_acted_54 : decode cX7_acted 54 = .ok (.iconst 1, 1) := by decide +kernel
theorem dX7_acted_55 : decode cX7_acted 55 = .ok (.isub, 1) := by decide +kernel
theorem dX7_acted_56 : decode cX7_acted 56 = .ok (.putfield 34, 3) := by decide +kernel
theorem dX7_acted_59 : decode cX7_acted 59 = .ok (.iconst 0, 1) := by decide +kernel
theorem dX7_acted_60 : decode cX7_acted 60 = .ok (.istore_n 2, 1) := by decide +kernel
theorem dX7_acted_61 : decode cX7_acted 61 = .ok (.iload_n 2, 1) := by decide +kernel
theorem dX7_acted_62 : decode cX7_acted 62 = .ok (.sipush 599, 3) := by decide +kernel
theorem dX7_acted_65 : decode cX7_acted 65 = .ok (.if_icmp .ge 30, 3) := by decide +kernel
theorem dX7_acted_68 : decode cX7_acted 68 = .ok (.aload_n 0, 1) := by decide +kernel
theorem dX7_acted_69 : decode cX7_acted 69 = .ok (.getfield 19, 3) := by decide +kernel
theorem dX7_acted_72 : decode cX7_acted 72 = .ok (.sipush 599, 3) := by decide +kernel
theorem dX7_acted_75 : decode cX7_acted 75 = .ok (.aload_n 0, 1) := by decide +kernel
theorem dX7_acted_76 : decode cX7_acted 76 = .ok (.getfield 34, 3) := by decide +kernel
theorem dX7_acted_79 : decode cX7_acted 79 = .ok (.imul, 1) := by decide +kernel
theorem dX7_acted_80 : decode cX7_acted 80 = .ok (.iload_n 2, 1) := by decide +kernel
theorem dX7_acted_81 : decode cX7_acted 81 = .ok (.iadd, 1) := by decide +kernel
theorem dX7_acted_82 : decode cX7_acted 82 = .ok (.aload_n 0, 1) := by decide +kernel
theorem dX7_acted_83 : decode cX7_acted 83 = .ok (.getfield 13, 3) := by decide +kernel
theorem dX7_acted_86 : decode cX7_acted 86 = .ok (.iload_n 2, 1) := by decide +kernel
theorem dX7_acted_87 : decode cX7_acted 87 = .ok (.iaload, 1) := by decide +kernel
theorem dX7_acted_88 : decode cX7_acted 88 = .ok (.iastore, 1) := by decide +kernel
theorem dX7_acted_89 : decode cX7_acted 89 = .ok (.iinc 2 1, 3) := by decide +kernel
theorem dX7_acted_92 : decode cX7_acted 92 = .ok (.goto (-31), 3) := by decide +kernel
theorem dX7_acted_95 : decode cX7_acted 95 = .ok (.aload_n 0, 1) := by decide +kernel
theorem dX7_acted_96 : decode cX7_acted 96 = .ok (.dup, 1) := by decide +kernel
theorem dX7_acted_97 : decode cX7_acted 97 = .ok (.getfield 34, 3) := by decide +kernel
theorem dX7_acted_100 : decode cX7_acted 100 = .ok (.iconst 1, 1) := by decide +kernel
theorem dX7_acted_101 : decode cX7_acted 101 = .ok (.iadd, 1) := by decide +kernel
theorem dX7_acted_102 : decode cX7_acted 102 = .ok (.putfield 34, 3) := by decide +kernel
theorem dX7_acted_105 : decode cX7_acted 105 = .ok (.iload_n 1, 1) := by decide +kernel
theorem dX7_acted_106 : decode cX7_acted 106 = .ok (.ireturn, 1) := by decide +kernel
theorem dX7_ofLot_0 : decode cX7_ofLot 0 = .ok (.aload_n 0, 1) := by decide +kernel
theorem dX7_ofLot_1 : decode cX7_ofLot 1 = .ok (.getfield 7, 3) := by decide +kernel
theorem dX7_ofLot_4 : decode cX7_ofLot 4 = .ok (.bipush 41, 2) := by decide +kernel
theorem dX7_ofLot_6 : decode cX7_ofLot 6 = .ok (.iconst 3, 1) := by decide +kernel
theorem dX7_ofLot_7 : decode cX7_ofLot 7 = .ok (.iload_n 1, 1) := by decide +kernel
theorem dX7_ofLot_8 : decode cX7_ofLot 8 = .ok (.imul, 1) := by decide +kernel
theorem dX7_ofLot_9 : decode cX7_ofLot 9 = .ok (.iadd, 1) := by decide +kernel
theorem dX7_ofLot_10 : decode cX7_ofLot 10 = .ok (.iload_n 2, 1) := by decide +kernel
theorem dX7_ofLot_11 : decode cX7_ofLot 11 = .ok (.iadd, 1) := by decide +kernel
theorem dX7_ofLot_12 : decode cX7_ofLot 12 = .ok (.iaload, 1) := by decide +kernel
theorem dX7_ofLot_13 : decode cX7_ofLot 13 = .ok (.ireturn, 1) := by decide +kernel
set_option maxRecDepth 20000 in
theorem ggX7_stock_X7_ofLot : GoodIn wsX7_stock wsX7_ofLot := goodIn_r _ [6, 1, 7, 8, 9, 10, 11, 12, 13, 14, 15, 16, 17, 18, 19, 20] (by decide +kernel) (by decide +kernel)
set_option maxRecDepth 20000 in
theorem gX7_stock_X7_ofLot : GoodIn wsX7_stock (wsV RX7 38 RX7 yX7_ofLot wsX7_ofLot) := goodIn_app (goodIn_of _ (by decide +kernel)) ggX7_stock_X7_ofLot
theorem dX7_stock_0 : decode cX7_stock 0 = .ok (.iconst 0, 1) := by decide +kernel
theorem dX7_stock_1 : decode cX7_stock 1 = .ok (.istore_n 2, 1) := by decide +kernel
theorem dX7_stock_2 : decode cX7_stock 2 = .ok (.iconst 0, 1) := by decide +kernel
theorem dX7_stock_3 : decode cX7_stock 3 = .ok (.istore_n 3, 1) := by decide +kernel
theorem dX7_stock_4 : decode cX7_stock 4 = .ok (.iload_n 3, 1) := by decide +kernel
theorem dX7_stock_5 : decode cX7_stock 5 = .ok (.aload_n 0, 1) := by decide +kernel
theorem dX7_stock_6 : decode cX7_stock 6 = .ok (.getfield 7, 3) := by decide +kernel
theorem dX7_stock_9 : decode cX7_stock 9 = .ok (.iconst 2, 1) := by decide +kernel
theorem dX7_stock_10 : decode cX7_stock 10 = .ok (.iaload, 1) := by decide +kernel
theorem dX7_stock_11 : decode cX7_stock 11 = .ok (.if_icmp .ge 32, 3) := by decide +kernel
theorem dX7_stock_14 : decode cX7_stock 14 = .ok (.iload_n 2, 1) := by decide +kernel
theorem dX7_stock_15 : decode cX7_stock 15 = .ok (.aload_n 0, 1) := by decide +kernel
theorem dX7_stock_16 : decode cX7_stock 16 = .ok (.iload_n 3, 1) := by decide +kernel
theorem dX7_stock_17 : decode cX7_stock 17 = .ok (.iconst 0, 1) := by decide +kernel
theorem dX7_stock_18 : decode cX7_stock 18 = .ok (.invokevirtual 38, 3) := by decide +kernel
theorem dX7_stock_21 : decode cX7_stock 21 = .ok (.iload_n 1, 1) := by decide +kernel
theorem dX7_stock_22 : decode cX7_stock 22 = .ok (.if_icmp .ne 12, 3) := by decide +kernel
theorem dX7_stock_25 : decode cX7_stock 25 = .ok (.aload_n 0, 1) := by decide +kernel
theorem dX7_stock_26 : decode cX7_stock 26 = .ok (.iload_n 3, 1) := by decide +kernel
theorem dX7_stock_27 : decode cX7_stock 27 = .ok (.iconst 1, 1) := by decide +kernel
theorem dX7_stock_28 : decode cX7_stock 28 = .ok (.invokevirtual 38, 3) := by decide +kernel
theorem dX7_stock_31 : decode cX7_stock 31 = .ok (.goto 4, 3) := by decide +kernel
theorem dX7_stock_34 : decode cX7_stock 34 = .ok (.iconst 0, 1) := by decide +kernel
theorem dX7_stock_35 : decode cX7_stock 35 = .ok (.iadd, 1) := by decide +kernel
theorem dX7_stock_36 : decode cX7_stock 36 = .ok (.istore_n 2, 1) := by decide +kernel
theorem dX7_stock_37 : decode cX7_stock 37 = .ok (.iinc 3 1, 3) := by decide +kernel
theorem dX7_stock_40 : decode cX7_stock 40 = .ok (.goto (-36), 3) := by decide +kernel
theorem dX7_stock_43 : decode cX7_stock 43 = .ok (.iload_n 2, 1) := by decide +kernel
theorem dX7_stock_44 : decode cX7_stock 44 = .ok (.ireturn, 1) := by decide +kernel
theorem dX7_removes_0 : decode cX7_removes 0 = .ok (.aload_n 0, 1) := by decide +kernel
theorem dX7_removes_1 : decode cX7_removes 1 = .ok (.getfield 7, 3) := by decide +kernel
theorem dX7_removes_4 : decode cX7_removes 4 = .ok (.iconst 2, 1) := by decide +kernel
theorem dX7_removes_5 : decode cX7_removes 5 = .ok (.dup2, 1) := by decide +kernel
theorem dX7_removes_6 : decode cX7_removes 6 = .ok (.iaload, 1) := by decide +kernel
theorem dX7_removes_7 : decode cX7_removes 7 = .ok (.iconst 1, 1) := by decide +kernel
theorem dX7_removes_8 : decode cX7_removes 8 = .ok (.isub, 1) := by decide +kernel
theorem dX7_removes_9 : decode cX7_removes 9 = .ok (.iastore, 1) := by decide +kernel
theorem dX7_removes_10 : decode cX7_removes 10 = .ok (.bipush 41, 2) := by decide +kernel
theorem dX7_removes_12 : decode cX7_removes 12 = .ok (.iconst 3, 1) := by decide +kernel
theorem dX7_removes_13 : decode cX7_removes 13 = .ok (.iload_n 1, 1) := by decide +kernel
theorem dX7_removes_14 : decode cX7_removes 14 = .ok (.imul, 1) := by decide +kernel
theorem dX7_removes_15 : decode cX7_removes 15 = .ok (.iadd, 1) := by decide +kernel
theorem dX7_removes_16 : decode cX7_removes 16 = .ok (.istore_n 2, 1) := by decide +kernel
theorem dX7_removes_17 : decode cX7_removes 17 = .ok (.iload_n 2, 1) := by decide +kernel
theorem dX7_removes_18 : decode cX7_removes 18 = .ok (.bipush 41, 2) := by decide +kernel
theorem dX7_removes_20 : decode cX7_removes 20 = .ok (.iconst 3, 1) := by decide +kernel
theorem dX7_removes_21 : decode cX7_removes 21 = .ok (.aload_n 0, 1) := by decide +kernel
theorem dX7_removes_22 : decode cX7_removes 22 = .ok (.getfield 7, 3) := by decide +kernel
theorem dX7_removes_25 : decode cX7_removes 25 = .ok (.iconst 2, 1) := by decide +kernel
theorem dX7_removes_26 : decode cX7_removes 26 = .ok (.iaload, 1) := by decide +kernel
theorem dX7_removes_27 : decode cX7_removes 27 = .ok (.imul, 1) := by decide +kernel
theorem dX7_removes_28 : decode cX7_removes 28 = .ok (.iadd, 1) := by decide +kernel
theorem dX7_removes_29 : decode cX7_removes 29 = .ok (.if_icmp .ge 23, 3) := by decide +kernel
theorem dX7_removes_32 : decode cX7_removes 32 = .ok (.aload_n 0, 1) := by decide +kernel
theorem dX7_removes_33 : decode cX7_removes 33 = .ok (.getfield 7, 3) := by decide +kernel
theorem dX7_removes_36 : decode cX7_removes 36 = .ok (.iload_n 2, 1) := by decide +kernel
theorem dX7_removes_37 : decode cX7_removes 37 = .ok (.aload_n 0, 1) := by decide +kernel
theorem dX7_removes_38 : decode cX7_removes 38 = .ok (.getfield 7, 3) := by decide +kernel
theorem dX7_removes_41 : decode cX7_removes 41 = .ok (.iload_n 2, 1) := by decide +kernel
theorem dX7_removes_42 : decode cX7_removes 42 = .ok (.iconst 3, 1) := by decide +kernel
theorem dX7_removes_43 : decode cX7_removes 43 = .ok (.iadd, 1) := by decide +kernel
theorem dX7_removes_44 : decode cX7_removes 44 = .ok (.iaload, 1) := by decide +kernel
theorem dX7_removes_45 : decode cX7_removes 45 = .ok (.iastore, 1) := by decide +kernel
theorem dX7_removes_46 : decode cX7_removes 46 = .ok (.iinc 2 1, 3) := by decide +kernel
theorem dX7_removes_49 : decode cX7_removes 49 = .ok (.goto (-32), 3) := by decide +kernel
theorem dX7_removes_52 : decode cX7_removes 52 = .ok (.iconst 0, 1) := by decide +kernel
theorem dX7_removes_53 : decode cX7_removes 53 = .ok (.istore_n 2, 1) := by decide +kernel
theorem dX7_removes_54 : decode cX7_removes 54 = .ok (.iload_n 2, 1) := by decide +kernel
theorem dX7_removes_55 : decode cX7_removes 55 = .ok (.iconst 3, 1) := by decide +kernel
theorem dX7_removes_56 : decode cX7_removes 56 = .ok (.if_icmp .ge 28, 3) := by decide +kernel
theorem dX7_removes_59 : decode cX7_removes 59 = .ok (.aload_n 0, 1) := by decide +kernel
theorem dX7_removes_60 : decode cX7_removes 60 = .ok (.getfield 7, 3) := by decide +kernel
theorem dX7_removes_63 : decode cX7_removes 63 = .ok (.bipush 41, 2) := by decide +kernel
theorem dX7_removes_65 : decode cX7_removes 65 = .ok (.iconst 3, 1) := by decide +kernel
theorem dX7_removes_66 : decode cX7_removes 66 = .ok (.aload_n 0, 1) := by decide +kernel
theorem dX7_removes_67 : decode cX7_removes 67 = .ok (.getfield 7, 3) := by decide +kernel
theorem dX7_removes_70 : decode cX7_removes 70 = .ok (.iconst 2, 1) := by decide +kernel
theorem dX7_removes_71 : decode cX7_removes 71 = .ok (.iaload, 1) := by decide +kernel
theorem dX7_removes_72 : decode cX7_removes 72 = .ok (.imul, 1) := by decide +kernel
theorem dX7_removes_73 : decode cX7_removes 73 = .ok (.iadd, 1) := by decide +kernel
theorem dX7_removes_74 : decode cX7_removes 74 = .ok (.iload_n 2, 1) := by decide +kernel
theorem dX7_removes_75 : decode cX7_removes 75 = .ok (.iadd, 1) := by decide +kernel
theorem dX7_removes_76 : decode cX7_removes 76 = .ok (.iconst 0, 1) := by decide +kernel
theorem dX7_removes_77 : decode cX7_removes 77 = .ok (.iastore, 1) := by decide +kernel
theorem dX7_removes_78 : decode cX7_removes 78 = .ok (.iinc 2 1, 3) := by decide +kernel
theorem dX7_removes_81 : decode cX7_removes 81 = .ok (.goto (-27), 3) := by decide +kernel
theorem dX7_removes_84 : decode cX7_removes 84 = .ok (.return_, 1) := by decide +kernel
set_option maxRecDepth 20000 in
theorem ggX7_comes_X7_ofLot : GoodIn wsX7_comes wsX7_ofLot := goodIn_r _ [6, 1, 7, 8, 9, 10, 11, 12, 13, 14, 15, 16, 17, 18, 19, 20] (by decide +kernel) (by decide +kernel)
set_option maxRecDepth 20000 in
theorem gX7_comes_X7_ofLot : GoodIn wsX7_comes (wsV RX7 38 RX7 yX7_ofLot wsX7_ofLot) := goodIn_app (goodIn_of _ (by decide +kernel)) ggX7_comes_X7_ofLot
theorem dX7_comes_0 : decode cX7_comes 0 = .ok (.aload_n 0, 1) := by decide +kernel
theorem dX7_comes_1 : decode cX7_comes 1 = .ok (.getfield 7, 3) := by decide +kernel
theorem dX7_comes_4 : decode cX7_comes 4 = .ok (.iconst 2, 1) := by decide +kernel
theorem dX7_comes_5 : decode cX7_comes 5 = .ok (.iaload, 1) := by decide +kernel
theorem dX7_comes_6 : decode cX7_comes 6 = .ok (.istore 4, 2) := by decide +kernel
theorem dX7_comes_8 : decode cX7_comes 8 = .ok (.iload 4, 2) := by decide +kernel
theorem dX7_comes_10 : decode cX7_comes 10 = .ok (.ifCond .le 62, 3) := by decide +kernel
theorem dX7_comes_13 : decode cX7_comes 13 = .ok (.aload_n 0, 1) := by decide +kernel
theorem dX7_comes_14 : decode cX7_comes 14 = .ok (.iload 4, 2) := by decide +kernel
theorem dX7_comes_16 : decode cX7_comes 16 = .ok (.iconst 1, 1) := by decide +kernel
theorem dX7_comes_17 : decode cX7_comes 17 = .ok (.isub, 1) := by decide +kernel
theorem dX7_comes_18 : decode cX7_comes 18 = .ok (.iconst 2, 1) := by decide +kernel
theorem dX7_comes_19 : decode cX7_comes 19 = .ok (.invokevirtual 38, 3) := by decide +kernel
theorem dX7_comes_22 : decode cX7_comes 22 = .ok (.iload_n 3, 1) := by decide +kernel
theorem dX7_comes_23 : decode cX7_comes 23 = .ok (.if_icmp .le 49, 3) := by decide +kernel
theorem dX7_comes_26 : decode cX7_comes 26 = .ok (.iconst 0, 1) := by decide +kernel
theorem dX7_comes_27 : decode cX7_comes 27 = .ok (.istore 5, 2) := by decide +kernel
theorem dX7_comes_29 : decode cX7_comes 29 = .ok (.iload 5, 2) := by decide +kernel
theorem dX7_comes_31 : decode cX7_comes 31 = .ok (.iconst 3, 1) := by decide +kernel
theorem dX7_comes_32 : decode cX7_comes 32 = .ok (.if_icmp .ge 34, 3) := by decide +kernel
theorem dX7_comes_35 : decode cX7_comes 35 = .ok (.aload_n 0, 1) := by decide +kernel
theorem dX7_comes_36 : decode cX7_comes 36 = .ok (.getfield 7, 3) := by decide +kernel
theorem dX7_comes_39 : decode cX7_comes 39 = .ok (.bipush 41, 2) := by decide +kernel
theorem dX7_comes_41 : decode cX7_comes 41 = .ok (.iconst 3, 1) := by decide +kernel
theorem dX7_comes_42 : decode cX7_comes 42 = .ok (.iload 4, 2) := by decide +kernel
theorem dX7_comes_44 : decode cX7_comes 44 = .ok (.imul, 1) := by decide +kernel
theorem dX7_comes_45 : decode cX7_comes 45 = .ok (.iadd, 1) := by decide +kernel
theorem dX7_comes_46 : decode cX7_comes 46 = .ok (.iload 5, 2) := by decide +kernel
theorem dX7_comes_48 : decode cX7_comes 48 = .ok (.iadd, 1) := by decide +kernel
theorem dX7_comes_49 : decode cX7_comes 49 = .ok (.aload_n 0, 1) := by decide +kernel
theorem dX7_comes_50 : decode cX7_comes 50 = .ok (.iload 4, 2) := by decide +kernel
theorem dX7_comes_52 : decode cX7_comes 52 = .ok (.iconst 1, 1) := by decide +kernel
theorem dX7_comes_53 : decode cX7_comes 53 = .ok (.isub, 1) := by decide +kernel
theorem dX7_comes_54 : decode cX7_comes 54 = .ok (.iload 5, 2) := by decide +kernel
theorem dX7_comes_56 : decode cX7_comes 56 = .ok (.invokevirtual 38, 3) := by decide +kernel
theorem dX7_comes_59 : decode cX7_comes 59 = .ok (.iastore, 1) := by decide +kernel
theorem dX7_comes_60 : decode cX7_comes 60 = .ok (.iinc 5 1, 3) := by decide +kernel
theorem dX7_comes_63 : decode cX7_comes 63 = .ok (.goto (-34), 3) := by decide +kernel
theorem dX7_comes_66 : decode cX7_comes 66 = .ok (.iinc 4 (-1), 3) := by decide +kernel
theorem dX7_comes_69 : decode cX7_comes 69 = .ok (.goto (-61), 3) := by decide +kernel
theorem dX7_comes_72 : decode cX7_comes 72 = .ok (.aload_n 0, 1) := by decide +kernel
theorem dX7_comes_73 : decode cX7_comes 73 = .ok (.getfield 7, 3) := by decide +kernel
theorem dX7_comes_76 : decode cX7_comes 76 = .ok (.bipush 41, 2) := by decide +kernel
theorem dX7_comes_78 : decode cX7_comes 78 = .ok (.iconst 3, 1) := by decide +kernel
theorem dX7_comes_79 : decode cX7_comes 79 = .ok (.iload 4, 2) := by decide +kernel
theorem dX7_comes_81 : decode cX7_comes 81 = .ok (.imul, 1) := by decide +kernel
theorem dX7_comes_82 : decode cX7_comes 82 = .ok (.iadd, 1) := by decide +kernel
theorem dX7_comes_83 : decode cX7_comes 83 = .ok (.iload_n 1, 1) := by decide +kernel
theorem dX7_comes_84 : decode cX7_comes 84 = .ok (.iastore, 1) := by decide +kernel
theorem dX7_comes_85 : decode cX7_comes 85 = .ok (.aload_n 0, 1) := by decide +kernel
theorem dX7_comes_86 : decode cX7_comes 86 = .ok (.getfield 7, 3) := by decide +kernel
theorem dX7_comes_89 : decode cX7_comes 89 = .ok (.bipush 41, 2) := by decide +kernel
theorem dX7_comes_91 : decode cX7_comes 91 = .ok (.iconst 3, 1) := by decide +kernel
theorem dX7_comes_92 : decode cX7_comes 92 = .ok (.iload 4, 2) := by decide +kernel
theorem dX7_comes_94 : decode cX7_comes 94 = .ok (.imul, 1) := by decide +kernel
theorem dX7_comes_95 : decode cX7_comes 95 = .ok (.iadd, 1) := by decide +kernel
theorem dX7_comes_96 : decode cX7_comes 96 = .ok (.iconst 1, 1) := by decide +kernel
theorem dX7_comes_97 : decode cX7_comes 97 = .ok (.iadd, 1) := by decide +kernel
theorem dX7_comes_98 : decode cX7_comes 98 = .ok (.iload_n 2, 1) := by decide +kernel
theorem dX7_comes_99 : decode cX7_comes 99 = .ok (.iastore, 1) := by decide +kernel
theorem dX7_comes_100 : decode cX7_comes 100 = .ok (.aload_n 0, 1) := by decide +kernel
theorem dX7_comes_101 : decode cX7_comes 101 = .ok (.getfield 7, 3) := by decide +kernel
theorem dX7_comes_104 : decode cX7_comes 104 = .ok (.bipush 41, 2) := by decide +kernel
theorem dX7_comes_106 : decode cX7_comes 106 = .ok (.iconst 3, 1) := by decide +kernel
theorem dX7_comes_107 : decode cX7_comes 107 = .ok (.iload 4, 2) := by decide +kernel
theorem dX7_comes_109 : decode cX7_comes 109 = .ok (.imul, 1) := by decide +kernel
theorem dX7_comes_110 : decode cX7_comes 110 = .ok (.iadd, 1) := by decide +kernel
theorem dX7_comes_111 : decode cX7_comes 111 = .ok (.iconst 2, 1) := by decide +kernel
theorem dX7_comes_112 : decode cX7_comes 112 = .ok (.iadd, 1) := by decide +kernel
theorem dX7_comes_113 : decode cX7_comes 113 = .ok (.iload_n 3, 1) := by decide +kernel
theorem dX7_comes_114 : decode cX7_comes 114 = .ok (.iastore, 1) := by decide +kernel
theorem dX7_comes_115 : decode cX7_comes 115 = .ok (.aload_n 0, 1) := by decide +kernel
theorem dX7_comes_116 : decode cX7_comes 116 = .ok (.getfield 7, 3) := by decide +kernel
theorem dX7_comes_119 : decode cX7_comes 119 = .ok (.iconst 2, 1) := by decide +kernel
theorem dX7_comes_120 : decode cX7_comes 120 = .ok (.dup2, 1) := by decide +kernel
theorem dX7_comes_121 : decode cX7_comes 121 = .ok (.iaload, 1) := by decide +kernel
theorem dX7_comes_122 : decode cX7_comes 122 = .ok (.iconst 1, 1) := by decide +kernel
theorem dX7_comes_123 : decode cX7_comes 123 = .ok (.iadd, 1) := by decide +kernel
theorem dX7_comes_124 : decode cX7_comes 124 = .ok (.iastore, 1) := by decide +kernel
theorem dX7_comes_125 : decode cX7_comes 125 = .ok (.aload_n 0, 1) := by decide +kernel
theorem dX7_comes_126 : decode cX7_comes 126 = .ok (.getfield 7, 3) := by decide +kernel
theorem dX7_comes_129 : decode cX7_comes 129 = .ok (.bipush 14, 2) := by decide +kernel
theorem dX7_comes_131 : decode cX7_comes 131 = .ok (.iload_n 1, 1) := by decide +kernel
theorem dX7_comes_132 : decode cX7_comes 132 = .ok (.iadd, 1) := by decide +kernel
theorem dX7_comes_133 : decode cX7_comes 133 = .ok (.dup2, 1) := by decide +kernel
theorem dX7_comes_134 : decode cX7_comes 134 = .ok (.iaload, 1) := by decide +kernel
theorem dX7_comes_135 : decode cX7_comes 135 = .ok (.iload_n 2, 1) := by decide +kernel
theorem dX7_comes_136 : decode cX7_comes 136 = .ok (.iadd, 1) := by decide +kernel
theorem dX7_comes_137 : decode cX7_comes 137 = .ok (.iastore, 1) := by decide +kernel
theorem dX7_comes_138 : decode cX7_comes 138 = .ok (.return_, 1) := by decide +kernel
set_option maxRecDepth 20000 in
theorem ggX7_firstOf_X7_ofLot : GoodIn wsX7_firstOf wsX7_ofLot := goodIn_r _ [6, 1, 7, 8, 9, 10, 11, 12, 13, 14, 15, 16, 17, 18, 19, 20] (by decide +kernel) (by decide +kernel)
set_option maxRecDepth 20000 in
theorem gX7_firstOf_X7_ofLot : GoodIn wsX7_firstOf (wsV RX7 38 RX7 yX7_ofLot wsX7_ofLot) := goodIn_app (goodIn_of _ (by decide +kernel)) ggX7_firstOf_X7_ofLot
theorem dX7_firstOf_0 : decode cX7_firstOf 0 = .ok (.iconst 0, 1) := by decide +kernel
theorem dX7_firstOf_1 : decode cX7_firstOf 1 = .ok (.istore_n 2, 1) := by decide +kernel
theorem dX7_firstOf_2 : decode cX7_firstOf 2 = .ok (.iload_n 2, 1) := by decide +kernel
theorem dX7_firstOf_3 : decode cX7_firstOf 3 = .ok (.aload_n 0, 1) := by decide +kernel
theorem dX7_firstOf_4 : decode cX7_firstOf 4 = .ok (.getfield 7, 3) := by decide +kernel
theorem dX7_firstOf_7 : decode cX7_firstOf 7 = .ok (.iconst 2, 1) := by decide +kernel
theorem dX7_firstOf_8 : decode cX7_firstOf 8 = .ok (.iaload, 1) := by decide +kernel
theorem dX7_firstOf_9 : decode cX7_firstOf 9 = .ok (.if_icmp .ge 19, 3) := by decide +kernel
theorem dX7_firstOf_12 : decode cX7_firstOf 12 = .ok (.aload_n 0, 1) := by decide +kernel
theorem dX7_firstOf_13 : decode cX7_firstOf 13 = .ok (.iload_n 2, 1) := by decide +kernel
theorem dX7_firstOf_14 : decode cX7_firstOf 14 = .ok (.iconst 0, 1) := by decide +kernel
theorem dX7_firstOf_15 : decode cX7_firstOf 15 = .ok (.invokevirtual 38, 3) := by decide +kernel
theorem dX7_firstOf_18 : decode cX7_firstOf 18 = .ok (.iload_n 1, 1) := by decide +kernel
theorem dX7_firstOf_19 : decode cX7_firstOf 19 = .ok (.if_icmp .eq 9, 3) := by decide +kernel
theorem dX7_firstOf_22 : decode cX7_firstOf 22 = .ok (.iinc 2 1, 3) := by decide +kernel
theorem dX7_firstOf_25 : decode cX7_firstOf 25 = .ok (.goto (-23), 3) := by decide +kernel
theorem dX7_firstOf_28 : decode cX7_firstOf 28 = .ok (.iload_n 2, 1) := by decide +kernel
theorem dX7_firstOf_29 : decode cX7_firstOf 29 = .ok (.ireturn, 1) := by decide +kernel
set_option maxRecDepth 20000 in
theorem ggX7_uses_X7_firstOf : GoodIn wsX7_uses wsX7_firstOf := goodIn_r _ [6, 1, 7, 8, 9, 5, 10, 15, 16, 17, 18, 19, 20, 21, 22, 23, 24, 25, 26, 27, 28] (by decide +kernel) (by decide +kernel)
set_option maxRecDepth 20000 in
theorem gX7_uses_X7_firstOf : GoodIn wsX7_uses (wsV RX7 42 RX7 yX7_firstOf wsX7_firstOf) := goodIn_app (goodIn_of _ (by decide +kernel)) ggX7_uses_X7_firstOf
set_option maxRecDepth 20000 in
theorem ggX7_uses_X7_ofLot : GoodIn wsX7_uses wsX7_ofLot := goodIn_r _ [10, 1, 15, 16, 17, 18, 19, 20, 21, 22, 23, 24, 25, 26, 27, 28] (by decide +kernel) (by decide +kernel)
set_option maxRecDepth 20000 in
theorem gX7_uses_X7_ofLot : GoodIn wsX7_uses (wsV RX7 38 RX7 yX7_ofLot wsX7_ofLot) := goodIn_app (goodIn_of _ (by decide +kernel)) ggX7_uses_X7_ofLot
set_option maxRecDepth 20000 in
theorem ggX7_uses_X7_removes : GoodIn wsX7_uses wsX7_removes := goodIn_r _ [14, 1, 15, 16, 17, 18, 19, 20, 21, 22, 23, 24, 25, 26, 27, 28] (by decide +kernel) (by decide +kernel)
set_option maxRecDepth 20000 in
theorem gX7_uses_X7_removes : GoodIn wsX7_uses (wsV RX7 46 RX7 yX7_removes wsX7_removes) := goodIn_app (goodIn_of _ (by decide +kernel)) ggX7_uses_X7_removes
theorem dX7_uses_0 : decode cX7_uses 0 = .ok (.iload_n 2, 1) := by decide +kernel
theorem dX7_uses_1 : decode cX7_uses 1 = .ok (.istore_n 3, 1) := by decide +kernel
theorem dX7_uses_2 : decode cX7_uses 2 = .ok (.aload_n 0, 1) := by decide +kernel
theorem dX7_uses_3 : decode cX7_uses 3 = .ok (.iload_n 1, 1) := by decide +kernel
theorem dX7_uses_4 : decode cX7_uses 4 = .ok (.invokevirtual 42, 3) := by decide +kernel
theorem dX7_uses_7 : decode cX7_uses 7 = .ok (.istore 4, 2) := by decide +kernel
theorem dX7_uses_9 : decode cX7_uses 9 = .ok (.iload_n 3, 1) := by decide +kernel
theorem dX7_uses_10 : decode cX7_uses 10 = .ok (.ifCond .le 88, 3) := by decide +kernel
theorem dX7_uses_13 : decode cX7_uses 13 = .ok (.iload 4, 2) := by decide +kernel
theorem dX7_uses_15 : decode cX7_uses 15 = .ok (.aload_n 0, 1) := by decide +kernel
theorem dX7_uses_16 : decode cX7_uses 16 = .ok (.getfield 7, 3) := by decide +kernel
theorem dX7_uses_19 : decode cX7_uses 19 = .ok (.iconst 2, 1) := by decide +kernel
theorem dX7_uses_20 : decode cX7_uses 20 = .ok (.iaload, 1) := by decide +kernel
theorem dX7_uses_21 : decode cX7_uses 21 = .ok (.if_icmp .ge 77, 3) := by decide +kernel
theorem dX7_uses_24 : decode cX7_uses 24 = .ok (.aload_n 0, 1) := by decide +kernel
theorem dX7_uses_25 : decode cX7_uses 25 = .ok (.iload 4, 2) := by decide +kernel
theorem dX7_uses_27 : decode cX7_uses 27 = .ok (.iconst 1, 1) := by decide +kernel
theorem dX7_uses_28 : decode cX7_uses 28 = .ok (.invokevirtual 38, 3) := by decide +kernel
theorem dX7_uses_31 : decode cX7_uses 31 = .ok (.iload_n 3, 1) := by decide +kernel
theorem dX7_uses_32 : decode cX7_uses 32 = .ok (.if_icmp .ge 13, 3) := by decide +kernel
theorem dX7_uses_35 : decode cX7_uses 35 = .ok (.aload_n 0, 1) := by decide +kernel
theorem dX7_uses_36 : decode cX7_uses 36 = .ok (.iload 4, 2) := by decide +kernel
theorem dX7_uses_38 : decode cX7_uses 38 = .ok (.iconst 1, 1) := by decide +kernel
theorem dX7_uses_39 : decode cX7_uses 39 = .ok (.invokevirtual 38, 3) := by decide +kernel
theorem dX7_uses_42 : decode cX7_uses 42 = .ok (.goto 4, 3) := by decide +kernel
theorem dX7_uses_45 : decode cX7_uses 45 = .ok (.iload_n 3, 1) := by decide +kernel
theorem dX7_uses_46 : decode cX7_uses 46 = .ok (.istore 5, 2) := by decide +kernel
theorem dX7_uses_48 : decode cX7_uses 48 = .ok (.aload_n 0, 1) := by decide +kernel
theorem dX7_uses_49 : decode cX7_uses 49 = .ok (.getfield 7, 3) := by decide +kernel
theorem dX7_uses_52 : decode cX7_uses 52 = .ok (.bipush 41, 2) := by decide +kernel
theorem dX7_uses_54 : decode cX7_uses 54 = .ok (.iconst 3, 1) := by decide +kernel
theorem dX7_uses_55 : decode cX7_uses 55 = .ok (.iload 4, 2) := by decide +kernel
theorem dX7_uses_57 : decode cX7_uses 57 = .ok (.imul, 1) := by decide +kernel
theorem dX7_uses_58 : decode cX7_uses 58 = .ok (.iadd, 1) := by decide +kernel
theorem dX7_uses_59 : decode cX7_uses 59 = .ok (.iconst 1, 1) := by decide +kernel
theorem dX7_uses_60 : decode cX7_uses 60 = .ok (.iadd, 1) := by decide +kernel
theorem dX7_uses_61 : decode cX7_uses 61 = .ok (.dup2, 1) := by decide +kernel
theorem dX7_uses_62 : decode cX7_uses 62 = .ok (.iaload, 1) := by decide +kernel
theorem dX7_uses_63 : decode cX7_uses 63 = .ok (.iload 5, 2) := by decide +kernel
theorem dX7_uses_65 : decode cX7_uses 65 = .ok (.isub, 1) := by decide +kernel
theorem dX7_uses_66 : decode cX7_uses 66 = .ok (.iastore, 1) := by decide +kernel
theorem dX7_uses_67 : decode cX7_uses 67 = .ok (.iload_n 3, 1) := by decide +kernel
theorem dX7_uses_68 : decode cX7_uses 68 = .ok (.iload 5, 2) := by decide +kernel
theorem dX7_uses_70 : decode cX7_uses 70 = .ok (.isub, 1) := by decide +kernel
theorem dX7_uses_71 : decode cX7_uses 71 = .ok (.istore_n 3, 1) := by decide +kernel
theorem dX7_uses_72 : decode cX7_uses 72 = .ok (.aload_n 0, 1) := by decide +kernel
theorem dX7_uses_73 : decode cX7_uses 73 = .ok (.iload 4, 2) := by decide +kernel
theorem dX7_uses_75 : decode cX7_uses 75 = .ok (.iconst 1, 1) := by decide +kernel
theorem dX7_uses_76 : decode cX7_uses 76 = .ok (.invokevirtual 38, 3) := by decide +kernel
theorem dX7_uses_79 : decode cX7_uses 79 = .ok (.ifCond .ne 9, 3) := by decide +kernel
theorem dX7_uses_82 : decode cX7_uses 82 = .ok (.aload_n 0, 1) := by decide +kernel
theorem dX7_uses_83 : decode cX7_uses 83 = .ok (.iload 4, 2) := by decide +kernel
theorem dX7_uses_85 : decode cX7_uses 85 = .ok (.invokevirtual 46, 3) := by decide +kernel
theorem dX7_uses_88 : decode cX7_uses 88 = .ok (.aload_n 0, 1) := by decide +kernel
theorem dX7_uses_89 : decode cX7_uses 89 = .ok (.iload_n 1, 1) := by decide +kernel
theorem dX7_uses_90 : decode cX7_uses 90 = .ok (.invokevirtual 42, 3) := by decide +kernel
theorem dX7_uses_93 : decode cX7_uses 93 = .ok (.istore 4, 2) := by decide +kernel
theorem dX7_uses_95 : decode cX7_uses 95 = .ok (.goto (-86), 3) := by decide +kernel
theorem dX7_uses_98 : decode cX7_uses 98 = .ok (.aload_n 0, 1) := by decide +kernel
theorem dX7_uses_99 : decode cX7_uses 99 = .ok (.getfield 7, 3) := by decide +kernel
theorem dX7_uses_102 : decode cX7_uses 102 = .ok (.bipush 17, 2) := by decide +kernel
theorem dX7_uses_104 : decode cX7_uses 104 = .ok (.iload_n 1, 1) := by decide +kernel
theorem dX7_uses_105 : decode cX7_uses 105 = .ok (.iadd, 1) := by decide +kernel
theorem dX7_uses_106 : decode cX7_uses 106 = .ok (.dup2, 1) := by decide +kernel
theorem dX7_uses_107 : decode cX7_uses 107 = .ok (.iaload, 1) := by decide +kernel
theorem dX7_uses_108 : decode cX7_uses 108 = .ok (.iload_n 2, 1) := by decide +kernel
theorem dX7_uses_109 : decode cX7_uses 109 = .ok (.iload_n 3, 1) := by decide +kernel
theorem dX7_uses_110 : decode cX7_uses 110 = .ok (.isub, 1) := by decide +kernel
theorem dX7_uses_111 : decode cX7_uses 111 = .ok (.iadd, 1) := by decide +kernel
theorem dX7_uses_112 : decode cX7_uses 112 = .ok (.iastore, 1) := by decide +kernel
theorem dX7_uses_113 : decode cX7_uses 113 = .ok (.iload_n 3, 1) := by decide +kernel
theorem dX7_uses_114 : decode cX7_uses 114 = .ok (.ireturn, 1) := by decide +kernel
set_option maxRecDepth 20000 in
theorem ggX7_spoils_X7_ofLot : GoodIn wsX7_spoils wsX7_ofLot := goodIn_r _ [6, 1, 11, 12, 13, 14, 15, 16, 17, 18, 19, 20, 21, 22, 23, 24] (by decide +kernel) (by decide +kernel)
set_option maxRecDepth 20000 in
theorem gX7_spoils_X7_ofLot : GoodIn wsX7_spoils (wsV RX7 38 RX7 yX7_ofLot wsX7_ofLot) := goodIn_app (goodIn_of _ (by decide +kernel)) ggX7_spoils_X7_ofLot
set_option maxRecDepth 20000 in
theorem ggX7_spoils_X7_removes : GoodIn wsX7_spoils wsX7_removes := goodIn_r _ [10, 1, 11, 12, 13, 14, 15, 16, 17, 18, 19, 20, 21, 22, 23, 24] (by decide +kernel) (by decide +kernel)
set_option maxRecDepth 20000 in
theorem gX7_spoils_X7_removes : GoodIn wsX7_spoils (wsV RX7 46 RX7 yX7_removes wsX7_removes) := goodIn_app (goodIn_of _ (by decide +kernel)) ggX7_spoils_X7_removes
theorem dX7_spoils_0 : decode cX7_spoils 0 = .ok (.aload_n 0, 1) := by decide +kernel
theorem dX7_spoils_1 : decode cX7_spoils 1 = .ok (.getfield 7, 3) := by decide +kernel
theorem dX7_spoils_4 : decode cX7_spoils 4 = .ok (.iconst 2, 1) := by decide +kernel
theorem dX7_spoils_5 : decode cX7_spoils 5 = .ok (.iaload, 1) := by decide +kernel
theorem dX7_spoils_6 : decode cX7_spoils 6 = .ok (.iconst 1, 1) := by decide +kernel
theorem dX7_spoils_7 : decode cX7_spoils 7 = .ok (.isub, 1) := by decide +kernel
theorem dX7_spoils_8 : decode cX7_spoils 8 = .ok (.istore_n 1, 1) := by decide +kernel
theorem dX7_spoils_9 : decode cX7_spoils 9 = .ok (.iload_n 1, 1) := by decide +kernel
theorem dX7_spoils_10 : decode cX7_spoils 10 = .ok (.ifCond .lt 52, 3) := by decide +kernel
theorem dX7_spoils_13 : decode cX7_spoils 13 = .ok (.aload_n 0, 1) := by decide +kernel
theorem dX7_spoils_14 : decode cX7_spoils 14 = .ok (.iload_n 1, 1) := by decide +kernel
theorem dX7_spoils_15 : decode cX7_spoils 15 = .ok (.iconst 2, 1) := by decide +kernel
theorem dX7_spoils_16 : decode cX7_spoils 16 = .ok (.invokevirtual 38, 3) := by decide +kernel
theorem dX7_spoils_19 : decode cX7_spoils 19 = .ok (.aload_n 0, 1) := by decide +kernel
theorem dX7_spoils_20 : decode cX7_spoils 20 = .ok (.getfield 7, 3) := by decide +kernel
theorem dX7_spoils_23 : decode cX7_spoils 23 = .ok (.iconst 0, 1) := by decide +kernel
theorem dX7_spoils_24 : decode cX7_spoils 24 = .ok (.iaload, 1) := by decide +kernel
theorem dX7_spoils_25 : decode cX7_spoils 25 = .ok (.if_icmp .ne 31, 3) := by decide +kernel
theorem dX7_spoils_28 : decode cX7_spoils 28 = .ok (.aload_n 0, 1) := by decide +kernel
theorem dX7_spoils_29 : decode cX7_spoils 29 = .ok (.getfield 7, 3) := by decide +kernel
theorem dX7_spoils_32 : decode cX7_spoils 32 = .ok (.bipush 20, 2) := by decide +kernel
theorem dX7_spoils_34 : decode cX7_spoils 34 = .ok (.aload_n 0, 1) := by decide +kernel
theorem dX7_spoils_35 : decode cX7_spoils 35 = .ok (.iload_n 1, 1) := by decide +kernel
theorem dX7_spoils_36 : decode cX7_spoils 36 = .ok (.iconst 0, 1) := by decide +kernel
theorem dX7_spoils_37 : decode cX7_spoils 37 = .ok (.invokevirtual 38, 3) := by decide +kernel
theorem dX7_spoils_40 : decode cX7_spoils 40 = .ok (.iadd, 1) := by decide +kernel
theorem dX7_spoils_41 : decode cX7_spoils 41 = .ok (.dup2, 1) := by decide +kernel
theorem dX7_spoils_42 : decode cX7_spoils 42 = .ok (.iaload, 1) := by decide +kernel
theorem dX7_spoils_43 : decode cX7_spoils 43 = .ok (.aload_n 0, 1) := by decide +kernel
theorem dX7_spoils_44 : decode cX7_spoils 44 = .ok (.iload_n 1, 1) := by decide +kernel
theorem dX7_spoils_45 : decode cX7_spoils 45 = .ok (.iconst 1, 1) := by decide +kernel
theorem dX7_spoils_46 : decode cX7_spoils 46 = .ok (.invokevirtual 38, 3) := by decide +kernel
theorem dX7_spoils_49 : decode cX7_spoils 49 = .ok (.iadd, 1) := by decide +kernel
theorem dX7_spoils_50 : decode cX7_spoils 50 = .ok (.iastore, 1) := by decide +kernel
theorem dX7_spoils_51 : decode cX7_spoils 51 = .ok (.aload_n 0, 1) := by decide +kernel
theorem dX7_spoils_52 : decode cX7_spoils 52 = .ok (.iload_n 1, 1) := by decide +kernel
theorem dX7_spoils_53 : decode cX7_spoils 53 = .ok (.invokevirtual 46, 3) := by decide +kernel
theorem dX7_spoils_56 : decode cX7_spoils 56 = .ok (.iinc 1 (-1), 3) := by decide +kernel
theorem dX7_spoils_59 : decode cX7_spoils 59 = .ok (.goto (-50), 3) := by decide +kernel
theorem dX7_spoils_62 : decode cX7_spoils 62 = .ok (.return_, 1) := by decide +kernel
theorem dX7_ofParty_0 : decode cX7_ofParty 0 = .ok (.aload_n 0, 1) := by decide +kernel
theorem dX7_ofParty_1 : decode cX7_ofParty 1 = .ok (.getfield 7, 3) := by decide +kernel
theorem dX7_ofParty_4 : decode cX7_ofParty 4 = .ok (.bipush 101, 2) := by decide +kernel
theorem dX7_ofParty_6 : decode cX7_ofParty 6 = .ok (.bipush 6, 2) := by decide +kernel
theorem dX7_ofParty_8 : decode cX7_ofParty 8 = .ok (.iload_n 1, 1) := by decide +kernel
theorem dX7_ofParty_9 : decode cX7_ofParty 9 = .ok (.imul, 1) := by decide +kernel
theorem dX7_ofParty_10 : decode cX7_ofParty 10 = .ok (.iadd, 1) := by decide +kernel
theorem dX7_ofParty_11 : decode cX7_ofParty 11 = .ok (.iload_n 2, 1) := by decide +kernel
theorem dX7_ofParty_12 : decode cX7_ofParty 12 = .ok (.iadd, 1) := by decide +kernel
theorem dX7_ofParty_13 : decode cX7_ofParty 13 = .ok (.iaload, 1) := by decide +kernel
theorem dX7_ofParty_14 : decode cX7_ofParty 14 = .ok (.ireturn, 1) := by decide +kernel
theorem dX7_setParty_0 : decode cX7_setParty 0 = .ok (.aload_n 0, 1) := by decide +kernel
theorem dX7_setParty_1 : decode cX7_setParty 1 = .ok (.getfield 7, 3) := by decide +kernel
theorem dX7_setParty_4 : decode cX7_setParty 4 = .ok (.bipush 101, 2) := by decide +kernel
theorem dX7_setParty_6 : decode cX7_setParty 6 = .ok (.bipush 6, 2) := by decide +kernel
theorem dX7_setParty_8 : decode cX7_setParty 8 = .ok (.iload_n 1, 1) := by decide +kernel
theorem dX7_setParty_9 : decode cX7_setParty 9 = .ok (.imul, 1) := by decide +kernel
theorem dX7_setParty_10 : decode cX7_setParty 10 = .ok (.iadd, 1) := by decide +kernel
theorem dX7_setParty_11 : decode cX7_setParty 11 = .ok (.iload_n 2, 1) := by decide +kernel
theorem dX7_setParty_12 : decode cX7_setParty 12 = .ok (.iadd, 1) := by decide +kernel
theorem dX7_setParty_13 : decode cX7_setParty 13 = .ok (.iload_n 3, 1) := by decide +kernel
theorem dX7_setParty_14 : decode cX7_setParty 14 = .ok (.iastore, 1) := by decide +kernel
theorem dX7_setParty_15 : decode cX7_setParty 15 = .ok (.return_, 1) := by decide +kernel
set_option maxRecDepth 20000 in
theorem ggX7_isParty_X7_in : GoodIn wsX7_isParty wsX7_in := goodIn_r _ [5] (by decide +kernel) (by decide +kernel)
set_option maxRecDepth 20000 in
theorem gX7_isParty_X7_in : GoodIn wsX7_isParty (va_wsS RX7 50 yX7_in wsX7_in) := goodIn_app (goodIn_of _ (by decide +kernel)) ggX7_isParty_X7_in
theorem dX7_isParty_0 : decode cX7_isParty 0 = .ok (.iload_n 1, 1) := by decide +kernel
theorem dX7_isParty_1 : decode cX7_isParty 1 = .ok (.iconst 0, 1) := by decide +kernel
theorem dX7_isParty_2 : decode cX7_isParty 2 = .ok (.aload_n 0, 1) := by decide +kernel
theorem dX7_isParty_3 : decode cX7_isParty 3 = .ok (.getfield 7, 3) := by decide +kernel
theorem dX7_isParty_6 : decode cX7_isParty 6 = .ok (.iconst 4, 1) := by decide +kernel
theorem dX7_isParty_7 : decode cX7_isParty 7 = .ok (.iaload, 1) := by decide +kernel
theorem dX7_isParty_8 : decode cX7_isParty 8 = .ok (.iconst 1, 1) := by decide +kernel
theorem dX7_isParty_9 : decode cX7_isParty 9 = .ok (.isub, 1) := by decide +kernel
theorem dX7_isParty_10 : decode cX7_isParty 10 = .ok (.invokestatic 50, 3) := by decide +kernel
theorem dX7_isParty_13 : decode cX7_isParty 13 = .ok (.ireturn, 1) := by decide +kernel
theorem dX7_isStorm_0 : decode cX7_isStorm 0 = .ok (.iload_n 1, 1) := by decide +kernel
theorem dX7_isStorm_1 : decode cX7_isStorm 1 = .ok (.sipush 396, 3) := by decide +kernel
theorem dX7_isStorm_4 : decode cX7_isStorm 4 = .ok (.if_icmp .ge 21, 3) := by decide +kernel
theorem dX7_isStorm_7 : decode cX7_isStorm 7 = .ok (.aload_n 0, 1) := by decide +kernel
theorem dX7_isStorm_8 : decode cX7_isStorm 8 = .ok (.getfield 7, 3) := by decide +kernel
theorem dX7_isStorm_11 : decode cX7_isStorm 11 = .ok (.sipush 203, 3) := by decide +kernel
theorem dX7_isStorm_14 : decode cX7_isStorm 14 = .ok (.iload_n 1, 1) := by decide +kernel
theorem dX7_isStorm_15 : decode cX7_isStorm 15 = .ok (.iadd, 1) := by decide +kernel
theorem dX7_isStorm_16 : decode cX7_isStorm 16 = .ok (.iaload, 1) := by decide +kernel
theorem dX7_isStorm_17 : decode cX7_isStorm 17 = .ok (.iconst 1, 1) := by decide +kernel
theorem dX7_isStorm_18 : decode cX7_isStorm 18 = .ok (.if_icmp .ne 7, 3) := by decide +kernel
theorem dX7_isStorm_21 : decode cX7_isStorm 21 = .ok (.iconst 1, 1) := by decide +kernel
theorem dX7_isStorm_22 : decode cX7_isStorm 22 = .ok (.goto 4, 3) := by decide +kernel
theorem dX7_isStorm_25 : decode cX7_isStorm 25 = .ok (.iconst 0, 1) := by decide +kernel
theorem dX7_isStorm_26 : decode cX7_isStorm 26 = .ok (.ireturn, 1) := by decide +kernel
set_option maxRecDepth 20000 in
theorem ggX7_guests_X7_ofParty : GoodIn wsX7_guests wsX7_ofParty := goodIn_r _ [6, 1, 7, 8, 9, 10, 11, 12, 13, 14, 15, 16, 17, 18, 19, 20] (by decide +kernel) (by decide +kernel)
set_option maxRecDepth 20000 in
theorem gX7_guests_X7_ofParty : GoodIn wsX7_guests (wsV RX7 54 RX7 yX7_ofParty wsX7_ofParty) := goodIn_app (goodIn_of _ (by decide +kernel)) ggX7_guests_X7_ofParty
theorem dX7_guests_0 : decode cX7_guests 0 = .ok (.iconst 0, 1) := by decide +kernel
theorem dX7_guests_1 : decode cX7_guests 1 = .ok (.istore_n 1, 1) := by decide +kernel
theorem dX7_guests_2 : decode cX7_guests 2 = .ok (.iconst 0, 1) := by decide +kernel
theorem dX7_guests_3 : decode cX7_guests 3 = .ok (.istore_n 2, 1) := by decide +kernel
theorem dX7_guests_4 : decode cX7_guests 4 = .ok (.iload_n 2, 1) := by decide +kernel
theorem dX7_guests_5 : decode cX7_guests 5 = .ok (.aload_n 0, 1) := by decide +kernel
theorem dX7_guests_6 : decode cX7_guests 6 = .ok (.getfield 7, 3) := by decide +kernel
theorem dX7_guests_9 : decode cX7_guests 9 = .ok (.iconst 4, 1) := by decide +kernel
theorem dX7_guests_10 : decode cX7_guests 10 = .ok (.iaload, 1) := by decide +kernel
theorem dX7_guests_11 : decode cX7_guests 11 = .ok (.if_icmp .ge 32, 3) := by decide +kernel
theorem dX7_guests_14 : decode cX7_guests 14 = .ok (.iload_n 1, 1) := by decide +kernel
theorem dX7_guests_15 : decode cX7_guests 15 = .ok (.aload_n 0, 1) := by decide +kernel
theorem dX7_guests_16 : decode cX7_guests 16 = .ok (.iload_n 2, 1) := by decide +kernel
theorem dX7_guests_17 : decode cX7_guests 17 = .ok (.iconst 3, 1) := by decide +kernel
theorem dX7_guests_18 : decode cX7_guests 18 = .ok (.invokevirtual 54, 3) := by decide +kernel
theorem dX7_guests_21 : decode cX7_guests 21 = .ok (.iconst 1, 1) := by decide +kernel
theorem dX7_guests_22 : decode cX7_guests 22 = .ok (.if_icmp .ne 12, 3) := by decide +kernel
theorem dX7_guests_25 : decode cX7_guests 25 = .ok (.aload_n 0, 1) := by decide +kernel
theorem dX7_guests_26 : decode cX7_guests 26 = .ok (.iload_n 2, 1) := by decide +kernel
theorem dX7_guests_27 : decode cX7_guests 27 = .ok (.iconst 0, 1) := by decide +kernel
theorem dX7_guests_28 : decode cX7_guests 28 = .ok (.invokevirtual 54, 3) := by decide +kernel
theorem dX7_guests_31 : decode cX7_guests 31 = .ok (.goto 4, 3) := by decide +kernel
theorem dX7_guests_34 : decode cX7_guests 34 = .ok (.iconst 0, 1) := by decide +kernel
theorem dX7_guests_35 : decode cX7_guests 35 = .ok (.iadd, 1) := by decide +kernel
theorem dX7_guests_36 : decode cX7_guests 36 = .ok (.istore_n 1, 1) := by decide +kernel
theorem dX7_guests_37 : decode cX7_guests 37 = .ok (.iinc 2 1, 3) := by decide +kernel
theorem dX7_guests_40 : decode cX7_guests 40 = .ok (.goto (-36), 3) := by decide +kernel
theorem dX7_guests_43 : decode cX7_guests 43 = .ok (.iload_n 1, 1) := by decide +kernel
theorem dX7_guests_44 : decode cX7_guests 44 = .ok (.ireturn, 1) := by decide +kernel
set_option maxRecDepth 20000 in
theorem ggX7_partiesOf_X7_ofParty : GoodIn wsX7_partiesOf wsX7_ofParty := goodIn_r _ [6, 1, 7, 8, 9, 10, 11, 12, 13, 14, 15, 16, 17, 18, 19, 20] (by decide +kernel) (by decide +kernel)
set_option maxRecDepth 20000 in
theorem gX7_partiesOf_X7_ofParty : GoodIn wsX7_partiesOf (wsV RX7 54 RX7 yX7_ofParty wsX7_ofParty) := goodIn_app (goodIn_of _ (by decide +kernel)) ggX7_partiesOf_X7_ofParty
theorem dX7_partiesOf_0 : decode cX7_partiesOf 0 = .ok (.iconst 0, 1) := by decide +kernel
theorem dX7_partiesOf_1 : decode cX7_partiesOf 1 = .ok (.istore_n 2, 1) := by decide +kernel
theorem dX7_partiesOf_2 : decode cX7_partiesOf 2 = .ok (.iconst 0, 1) := by decide +kernel
theorem dX7_partiesOf_3 : decode cX7_partiesOf 3 = .ok (.istore_n 3, 1) := by decide +kernel
theorem dX7_partiesOf_4 : decode cX7_partiesOf 4 = .ok (.iload_n 3, 1) := by decide +kernel
theorem dX7_partiesOf_5 : decode cX7_partiesOf 5 = .ok (.aload_n 0, 1) := by decide +kernel
theorem dX7_partiesOf_6 : decode cX7_partiesOf 6 = .ok (.getfield 7, 3) := by decide +kernel
theorem dX7_partiesOf_9 : decode cX7_partiesOf 9 = .ok (.iconst 4, 1) := by decide +kernel
theorem dX7_partiesOf_10 : decode cX7_partiesOf 10 = .ok (.iaload, 1) := by decide +kernel
theorem dX7_partiesOf_11 : decode cX7_partiesOf 11 = .ok (.if_icmp .ge 27, 3) := by decide +kernel
theorem dX7_partiesOf_14 : decode cX7_partiesOf 14 = .ok (.iload_n 2, 1) := by decide +kernel
theorem dX7_partiesOf_15 : decode cX7_partiesOf 15 = .ok (.aload_n 0, 1) := by decide +kernel
theorem dX7_partiesOf_16 : decode cX7_partiesOf 16 = .ok (.iload_n 3, 1) := by decide +kernel
theorem dX7_partiesOf_17 : decode cX7_partiesOf 17 = .ok (.iconst 3, 1) := by decide +kernel
theorem dX7_partiesOf_18 : decode cX7_partiesOf 18 = .ok (.invokevirtual 54, 3) := by decide +kernel
theorem dX7_partiesOf_21 : decode cX7_partiesOf 21 = .ok (.iload_n 1, 1) := by decide +kernel
theorem dX7_partiesOf_22 : decode cX7_partiesOf 22 = .ok (.if_icmp .ne 7, 3) := by decide +kernel
theorem dX7_partiesOf_25 : decode cX7_partiesOf 25 = .ok (.iconst 1, 1) := by decide +kernel
theorem dX7_partiesOf_26 : decode cX7_partiesOf 26 = .ok (.goto 4, 3) := by decide +kernel
theorem dX7_partiesOf_29 : decode cX7_partiesOf 29 = .ok (.iconst 0, 1) := by decide +kernel
theorem dX7_partiesOf_30 : decode cX7_partiesOf 30 = .ok (.iadd, 1) := by decide +kernel
theorem dX7_partiesOf_31 : decode cX7_partiesOf 31 = .ok (.istore_n 2, 1) := by decide +kernel
theorem dX7_partiesOf_32 : decode cX7_partiesOf 32 = .ok (.iinc 3 1, 3) := by decide +kernel
theorem dX7_partiesOf_35 : decode cX7_partiesOf 35 = .ok (.goto (-31), 3) := by decide +kernel
theorem dX7_partiesOf_38 : decode cX7_partiesOf 38 = .ok (.iload_n 2, 1) := by decide +kernel
theorem dX7_partiesOf_39 : decode cX7_partiesOf 39 = .ok (.ireturn, 1) := by decide +kernel
set_option maxRecDepth 20000 in
theorem ggX7_isAny_X7_partiesOf : GoodIn wsX7_isAny wsX7_partiesOf := goodIn_r _ [5, 6, 7, 8, 9, 4, 10, 11, 12, 13, 14, 15, 16, 17, 18, 19, 20, 21, 22, 23, 24] (by decide +kernel) (by decide +kernel)
set_option maxRecDepth 20000 in
theorem gX7_isAny_X7_partiesOf : GoodIn wsX7_isAny (wsV RX7 57 RX7 yX7_partiesOf wsX7_partiesOf) := goodIn_app (goodIn_of _ (by decide +kernel)) ggX7_isAny_X7_partiesOf
theorem dX7_isAny_0 : decode cX7_isAny 0 = .ok (.aload_n 0, 1) := by decide +kernel
theorem dX7_isAny_1 : decode cX7_isAny 1 = .ok (.iconst 0, 1) := by decide +kernel
theorem dX7_isAny_2 : decode cX7_isAny 2 = .ok (.invokevirtual 57, 3) := by decide +kernel
theorem dX7_isAny_5 : decode cX7_isAny 5 = .ok (.aload_n 0, 1) := by decide +kernel
theorem dX7_isAny_6 : decode cX7_isAny 6 = .ok (.iconst 1, 1) := by decide +kernel
theorem dX7_isAny_7 : decode cX7_isAny 7 = .ok (.invokevirtual 57, 3) := by decide +kernel
theorem dX7_isAny_10 : decode cX7_isAny 10 = .ok (.iadd, 1) := by decide +kernel
theorem dX7_isAny_11 : decode cX7_isAny 11 = .ok (.ifCond .le 7, 3) := by decide +kernel
theorem dX7_isAny_14 : decode cX7_isAny 14 = .ok (.iconst 1, 1) := by decide +kernel
theorem dX7_isAny_15 : decode cX7_isAny 15 = .ok (.goto 4, 3) := by decide +kernel
theorem dX7_isAny_18 : decode cX7_isAny 18 = .ok (.iconst 0, 1) := by decide +kernel
theorem dX7_isAny_19 : decode cX7_isAny 19 = .ok (.ireturn, 1) := by decide +kernel
set_option maxRecDepth 20000 in
theorem ggX7_leave_X7_ofParty : GoodIn wsX7_leave wsX7_ofParty := goodIn_r _ [6, 1, 11, 12, 13, 14, 15, 16, 17, 18, 19, 20, 21, 22, 23, 24] (by decide +kernel) (by decide +kernel)
set_option maxRecDepth 20000 in
theorem gX7_leave_X7_ofParty : GoodIn wsX7_leave (wsV RX7 54 RX7 yX7_ofParty wsX7_ofParty) := goodIn_app (goodIn_of _ (by decide +kernel)) ggX7_leave_X7_ofParty
set_option maxRecDepth 20000 in
theorem ggX7_leave_X7_setParty : GoodIn wsX7_leave wsX7_setParty := goodIn_r _ [10, 1, 11, 12, 13, 14, 15, 16, 17, 18, 19, 20, 21, 22, 23, 24] (by decide +kernel) (by decide +kernel)
set_option maxRecDepth 20000 in
theorem gX7_leave_X7_setParty : GoodIn wsX7_leave (wsV RX7 60 RX7 yX7_setParty wsX7_setParty) := goodIn_app (goodIn_of _ (by decide +kernel)) ggX7_leave_X7_setParty
theorem dX7_leave_0 : decode cX7_leave 0 = .ok (.iconst 0, 1) := by decide +kernel
theorem dX7_leave_1 : decode cX7_leave 1 = .ok (.istore_n 1, 1) := by decide +kernel
theorem dX7_leave_2 : decode cX7_leave 2 = .ok (.iload_n 1, 1) := by decide +kernel
theorem dX7_leave_3 : decode cX7_leave 3 = .ok (.aload_n 0, 1) := by decide +kernel
theorem dX7_leave_4 : decode cX7_leave 4 = .ok (.getfield 7, 3) := by decide +kernel
theorem dX7_leave_7 : decode cX7_leave 7 = .ok (.iconst 4, 1) := by decide +kernel
theorem dX7_leave_8 : decode cX7_leave 8 = .ok (.iaload, 1) := by decide +kernel
theorem dX7_leave_9 : decode cX7_leave 9 = .ok (.if_icmp .ge 41, 3) := by decide +kernel
theorem dX7_leave_12 : decode cX7_leave 12 = .ok (.aload_n 0, 1) := by decide +kernel
theorem dX7_leave_13 : decode cX7_leave 13 = .ok (.iload_n 1, 1) := by decide +kernel
theorem dX7_leave_14 : decode cX7_leave 14 = .ok (.iconst 3, 1) := by decide +kernel
theorem dX7_leave_15 : decode cX7_leave 15 = .ok (.invokevirtual 54, 3) := by decide +kernel
theorem dX7_leave_18 : decode cX7_leave 18 = .ok (.iconst 1, 1) := by decide +kernel
theorem dX7_leave_19 : decode cX7_leave 19 = .ok (.if_icmp .ne 25, 3) := by decide +kernel
theorem dX7_leave_22 : decode cX7_leave 22 = .ok (.aload_n 0, 1) := by decide +kernel
theorem dX7_leave_23 : decode cX7_leave 23 = .ok (.iload_n 1, 1) := by decide +kernel
theorem dX7_leave_24 : decode cX7_leave 24 = .ok (.iconst 4, 1) := by decide +kernel
theorem dX7_leave_25 : decode cX7_leave 25 = .ok (.invokevirtual 54, 3) := by decide +kernel
theorem dX7_leave_28 : decode cX7_leave 28 = .ok (.aload_n 0, 1) := by decide +kernel
theorem dX7_leave_29 : decode cX7_leave 29 = .ok (.iload_n 1, 1) := by decide +kernel
theorem dX7_leave_30 : decode cX7_leave 30 = .ok (.iconst 2, 1) := by decide +kernel
theorem dX7_leave_31 : decode cX7_leave 31 = .ok (.invokevirtual 54, 3) := by decide +kernel
theorem dX7_leave_34 : decode cX7_leave 34 = .ok (.if_icmp .lt 10, 3) := by decide +kernel
theorem dX7_leave_37 : decode cX7_leave 37 = .ok (.aload_n 0, 1) := by decide +kernel
theorem dX7_leave_38 : decode cX7_leave 38 = .ok (.iload_n 1, 1) := by decide +kernel
theorem dX7_leave_39 : decode cX7_leave 39 = .ok (.iconst 3, 1) := by decide +kernel
theorem dX7_leave_40 : decode cX7_leave 40 = .ok (.iconst 2, 1) := by decide +kernel
theorem dX7_leave_41 : decode cX7_leave 41 = .ok (.invokevirtual 60, 3) := by decide +kernel
theorem dX7_leave_44 : decode cX7_leave 44 = .ok (.iinc 1 1, 3) := by decide +kernel
theorem dX7_leave_47 : decode cX7_leave 47 = .ok (.goto (-45), 3) := by decide +kernel
theorem dX7_leave_50 : decode cX7_leave 50 = .ok (.return_, 1) := by decide +kernel
set_option maxRecDepth 20000 in
theorem ggX7_arrives_X7_ofParty : GoodIn wsX7_arrives wsX7_ofParty := goodIn_r _ [6, 1, 19, 20, 21, 22, 23, 24, 25, 26, 27, 28, 29, 30, 31, 32] (by decide +kernel) (by decide +kernel)
set_option maxRecDepth 20000 in
theorem gX7_arrives_X7_ofParty : GoodIn wsX7_arrives (wsV RX7 54 RX7 yX7_ofParty wsX7_ofParty) := goodIn_app (goodIn_of _ (by decide +kernel)) ggX7_arrives_X7_ofParty
set_option maxRecDepth 20000 in
theorem ggX7_arrives_X7_setParty : GoodIn wsX7_arrives wsX7_setParty := goodIn_r _ [10, 1, 19, 20, 21, 22, 23, 24, 25, 26, 27, 28, 29, 30, 31, 32] (by decide +kernel) (by decide +kernel)
set_option maxRecDepth 20000 in
theorem gX7_arrives_X7_setParty : GoodIn wsX7_arrives (wsV RX7 60 RX7 yX7_setParty wsX7_setParty) := goodIn_app (goodIn_of _ (by decide +kernel)) ggX7_arrives_X7_setParty
set_option maxRecDepth 20000 in
theorem ggX7_arrives_X7_isStorm : GoodIn wsX7_arrives wsX7_isStorm := goodIn_r _ [14, 1, 19, 20, 21, 22, 23, 24, 25, 26, 27, 28, 29, 30, 31, 32] (by decide +kernel) (by decide +kernel)
set_option maxRecDepth 20000 in
theorem gX7_arrives_X7_isStorm : GoodIn wsX7_arrives (wsV RX7 64 RX7 yX7_isStorm wsX7_isStorm) := goodIn_app (goodIn_of _ (by decide +kernel)) ggX7_arrives_X7_isStorm
set_option maxRecDepth 20000 in
theorem ggX7_arrives_X7_guests : GoodIn wsX7_arrives wsX7_guests := goodIn_r _ [18, 1, 2, 3, 4, 5, 6, 19, 20, 21, 22, 23, 24, 25, 26, 27, 28, 29, 30, 31, 32] (by decide +kernel) (by decide +kernel)
set_option maxRecDepth 20000 in
theorem gX7_arrives_X7_guests : GoodIn wsX7_arrives (wsV RX7 68 RX7 yX7_guests wsX7_guests) := goodIn_app (goodIn_of _ (by decide +kernel)) ggX7_arrives_X7_guests
theorem dX7_arrives_0 : decode cX7_arrives 0 = .ok (.aload_n 0, 1) := by decide +kernel
theorem dX7_arrives_1 : decode cX7_arrives 1 = .ok (.iload_n 1, 1) := by decide +kernel
theorem dX7_arrives_2 : decode cX7_arrives 2 = .ok (.iconst 1, 1) := by decide +kernel
theorem dX7_arrives_3 : decode cX7_arrives 3 = .ok (.invokevirtual 54, 3) := by decide +kernel
theorem dX7_arrives_6 : decode cX7_arrives 6 = .ok (.aload_n 0, 1) := by decide +kernel
theorem dX7_arrives_7 : decode cX7_arrives 7 = .ok (.iload_n 1, 1) := by decide +kernel
theorem dX7_arrives_8 : decode cX7_arrives 8 = .ok (.iconst 2, 1) := by decide +kernel
theorem dX7_arrives_9 : decode cX7_arrives 9 = .ok (.invokevirtual 54, 3) := by decide +kernel
theorem dX7_arrives_12 : decode cX7_arrives 12 = .ok (.iadd, 1) := by decide +kernel
theorem dX7_arrives_13 : decode cX7_arrives 13 = .ok (.aload_n 0, 1) := by decide +kernel
theorem dX7_arrives_14 : decode cX7_arrives 14 = .ok (.getfield 7, 3) := by decide +kernel
theorem dX7_arrives_17 : decode cX7_arrives 17 = .ok (.iconst 0, 1) := by decide +kernel
theorem dX7_arrives_18 : decode cX7_arrives 18 = .ok (.iaload, 1) := by decide +kernel
theorem dX7_arrives_19 : decode cX7_arrives 19 = .ok (.if_icmp .gt 13, 3) := by decide +kernel
theorem dX7_arrives_22 : decode cX7_arrives 22 = .ok (.aload_n 0, 1) := by decide +kernel
theorem dX7_arrives_23 : decode cX7_arrives 23 = .ok (.iload_n 1, 1) := by decide +kernel
theorem dX7_arrives_24 : decode cX7_arrives 24 = .ok (.iconst 3, 1) := by decide +kernel
theorem dX7_arrives_25 : decode cX7_arrives 25 = .ok (.iconst 3, 1) := by decide +kernel
theorem dX7_arrives_26 : decode cX7_arrives 26 = .ok (.invokevirtual 60, 3) := by decide +kernel
theorem dX7_arrives_29 : decode cX7_arrives 29 = .ok (.goto 99, 3) := by decide +kernel
theorem dX7_arrives_32 : decode cX7_arrives 32 = .ok (.aload_n 0, 1) := by decide +kernel
theorem dX7_arrives_33 : decode cX7_arrives 33 = .ok (.aload_n 0, 1) := by decide +kernel
theorem dX7_arrives_34 : decode cX7_arrives 34 = .ok (.getfield 7, 3) := by decide +kernel
theorem dX7_arrives_37 : decode cX7_arrives 37 = .ok (.iconst 0, 1) := by decide +kernel
theorem dX7_arrives_38 : decode cX7_arrives 38 = .ok (.iaload, 1) := by decide +kernel
theorem dX7_arrives_39 : decode cX7_arrives 39 = .ok (.invokevirtual 64, 3) := by decide +kernel
theorem dX7_arrives_42 : decode cX7_arrives 42 = .ok (.ifCond .ne 86, 3) := by decide +kernel
theorem dX7_arrives_45 : decode cX7_arrives 45 = .ok (.aload_n 0, 1) := by decide +kernel
theorem dX7_arrives_46 : decode cX7_arrives 46 = .ok (.invokevirtual 68, 3) := by decide +kernel
theorem dX7_arrives_49 : decode cX7_arrives 49 = .ok (.aload_n 0, 1) := by decide +kernel
theorem dX7_arrives_50 : decode cX7_arrives 50 = .ok (.iload_n 1, 1) := by decide +kernel
theorem dX7_arrives_51 : decode cX7_arrives 51 = .ok (.iconst 0, 1) := by decide +kernel
theorem dX7_arrives_52 : decode cX7_arrives 52 = .ok (.invokevirtual 54, 3) := by decide +kernel
theorem dX7_arrives_55 : decode cX7_arrives 55 = .ok (.iadd, 1) := by decide +kernel
theorem dX7_arrives_56 : decode cX7_arrives 56 = .ok (.aload_n 0, 1) := by decide +kernel
end
section
theorem dX7_arrives_57 : decode cX7_arrives 57 = .ok (.getfield 7, 3) := by decide +kernel
theorem dX7_arrives_60 : decode cX7_arrives 60 = .ok (.bipush 10, 2) := by decide +kernel
theorem dX7_arrives_62 : decode cX7_arrives 62 = .ok (.iaload, 1) := by decide +kernel
theorem dX7_arrives_63 : decode cX7_arrives 63 = .ok (.if_icmp .gt 7, 3) := by decide +kernel
theorem dX7_arrives_66 : decode cX7_arrives 66 = .ok (.iconst 1, 1) := by decide +kernel
theorem dX7_arrives_67 : decode cX7_arrives 67 = .ok (.goto 4, 3) := by decide +kernel
theorem dX7_arrives_70 : decode cX7_arrives 70 = .ok (.iconst 0, 1) := by decide +kernel
theorem dX7_arrives_71 : decode cX7_arrives 71 = .ok (.istore_n 2, 1) := by decide +kernel
theorem dX7_arrives_72 : decode cX7_arrives 72 = .ok (.aload_n 0, 1) := by decide +kernel
theorem dX7_arrives_73 : decode cX7_arrives 73 = .ok (.iload_n 1, 1) := by decide +kernel
theorem dX7_arrives_74 : decode cX7_arrives 74 = .ok (.iconst 3, 1) := by decide +kernel
theorem dX7_arrives_75 : decode cX7_arrives 75 = .ok (.iload_n 2, 1) := by decide +kernel
theorem dX7_arrives_76 : decode cX7_arrives 76 = .ok (.ifCond .eq 7, 3) := by decide +kernel
theorem dX7_arrives_79 : decode cX7_arrives 79 = .ok (.iconst 1, 1) := by decide +kernel
theorem dX7_arrives_80 : decode cX7_arrives 80 = .ok (.goto 4, 3) := by decide +kernel
theorem dX7_arrives_83 : decode cX7_arrives 83 = .ok (.iconst 3, 1) := by decide +kernel
theorem dX7_arrives_84 : decode cX7_arrives 84 = .ok (.invokevirtual 60, 3) := by decide +kernel
theorem dX7_arrives_87 : decode cX7_arrives 87 = .ok (.aload_n 0, 1) := by decide +kernel
theorem dX7_arrives_88 : decode cX7_arrives 88 = .ok (.iload_n 1, 1) := by decide +kernel
theorem dX7_arrives_89 : decode cX7_arrives 89 = .ok (.iconst 5, 1) := by decide +kernel
theorem dX7_arrives_90 : decode cX7_arrives 90 = .ok (.iload_n 2, 1) := by decide +kernel
theorem dX7_arrives_91 : decode cX7_arrives 91 = .ok (.ifCond .eq 14, 3) := by decide +kernel
theorem dX7_arrives_94 : decode cX7_arrives 94 = .ok (.aload_n 0, 1) := by decide +kernel
theorem dX7_arrives_95 : decode cX7_arrives 95 = .ok (.getfield 7, 3) := by decide +kernel
theorem dX7_arrives_98 : decode cX7_arrives 98 = .ok (.iconst 0, 1) := by decide +kernel
theorem dX7_arrives_99 : decode cX7_arrives 99 = .ok (.iaload, 1) := by decide +kernel
theorem dX7_arrives_100 : decode cX7_arrives 100 = .ok (.iconst 1, 1) := by decide +kernel
theorem dX7_arrives_101 : decode cX7_arrives 101 = .ok (.iadd, 1) := by decide +kernel
theorem dX7_arrives_102 : decode cX7_arrives 102 = .ok (.goto 4, 3) := by decide +kernel
theorem dX7_arrives_105 : decode cX7_arrives 105 = .ok (.iconst 0, 1) := by decide +kernel
theorem dX7_arrives_106 : decode cX7_arrives 106 = .ok (.invokevirtual 60, 3) := by decide +kernel
theorem dX7_arrives_109 : decode cX7_arrives 109 = .ok (.aload_n 0, 1) := by decide +kernel
theorem dX7_arrives_110 : decode cX7_arrives 110 = .ok (.getfield 7, 3) := by decide +kernel
theorem dX7_arrives_113 : decode cX7_arrives 113 = .ok (.bipush 9, 2) := by decide +kernel
theorem dX7_arrives_115 : decode cX7_arrives 115 = .ok (.dup2, 1) := by decide +kernel
theorem dX7_arrives_116 : decode cX7_arrives 116 = .ok (.iaload, 1) := by decide +kernel
theorem dX7_arrives_117 : decode cX7_arrives 117 = .ok (.iload_n 2, 1) := by decide +kernel
theorem dX7_arrives_118 : decode cX7_arrives 118 = .ok (.ifCond .eq 7, 3) := by decide +kernel
theorem dX7_arrives_121 : decode cX7_arrives 121 = .ok (.iconst 0, 1) := by decide +kernel
theorem dX7_arrives_122 : decode cX7_arrives 122 = .ok (.goto 4, 3) := by decide +kernel
theorem dX7_arrives_125 : decode cX7_arrives 125 = .ok (.iconst 1, 1) := by decide +kernel
theorem dX7_arrives_126 : decode cX7_arrives 126 = .ok (.iadd, 1) := by decide +kernel
theorem dX7_arrives_127 : decode cX7_arrives 127 = .ok (.iastore, 1) := by decide +kernel
theorem dX7_arrives_128 : decode cX7_arrives 128 = .ok (.return_, 1) := by decide +kernel
set_option maxRecDepth 20000 in
theorem ggX7_sups_X7_stock : GoodIn wsX7_sups wsX7_stock := goodIn_r _ [6, 1, 7, 8, 9, 5, 10, 23, 24, 25, 26, 27, 28, 29, 30, 31, 32, 33, 34, 35, 36] (by decide +kernel) (by decide +kernel)
set_option maxRecDepth 20000 in
theorem gX7_sups_X7_stock : GoodIn wsX7_sups (wsV RX7 72 RX7 yX7_stock wsX7_stock) := goodIn_app (goodIn_of _ (by decide +kernel)) ggX7_sups_X7_stock
set_option maxRecDepth 20000 in
theorem ggX7_sups_X7_uses : GoodIn wsX7_sups wsX7_uses := goodIn_r _ [14, 1, 15, 16, 17, 5, 18, 7, 8, 9, 10, 19, 20, 21, 22, 23, 24, 25, 26, 27, 28, 29, 30, 31, 32, 33, 34, 35, 36] (by decide +kernel) (by decide +kernel)
set_option maxRecDepth 20000 in
theorem gX7_sups_X7_uses : GoodIn wsX7_sups (wsV RX7 75 RX7 yX7_uses wsX7_uses) := goodIn_app (goodIn_of _ (by decide +kernel)) ggX7_sups_X7_uses
theorem dX7_sups_0 : decode cX7_sups 0 = .ok (.aload_n 0, 1) := by decide +kernel
theorem dX7_sups_1 : decode cX7_sups 1 = .ok (.getfield 7, 3) := by decide +kernel
theorem dX7_sups_4 : decode cX7_sups 4 = .ok (.bipush 11, 2) := by decide +kernel
theorem dX7_sups_6 : decode cX7_sups 6 = .ok (.iaload, 1) := by decide +kernel
theorem dX7_sups_7 : decode cX7_sups 7 = .ok (.istore_n 2, 1) := by decide +kernel
theorem dX7_sups_8 : decode cX7_sups 8 = .ok (.aload_n 0, 1) := by decide +kernel
theorem dX7_sups_9 : decode cX7_sups 9 = .ok (.iconst 0, 1) := by decide +kernel
theorem dX7_sups_10 : decode cX7_sups 10 = .ok (.invokevirtual 72, 3) := by decide +kernel
theorem dX7_sups_13 : decode cX7_sups 13 = .ok (.aload_n 0, 1) := by decide +kernel
theorem dX7_sups_14 : decode cX7_sups 14 = .ok (.getfield 7, 3) := by decide +kernel
theorem dX7_sups_17 : decode cX7_sups 17 = .ok (.bipush 12, 2) := by decide +kernel
theorem dX7_sups_19 : decode cX7_sups 19 = .ok (.iaload, 1) := by decide +kernel
theorem dX7_sups_20 : decode cX7_sups 20 = .ok (.iload_n 1, 1) := by decide +kernel
theorem dX7_sups_21 : decode cX7_sups 21 = .ok (.imul, 1) := by decide +kernel
theorem dX7_sups_22 : decode cX7_sups 22 = .ok (.iload_n 2, 1) := by decide +kernel
theorem dX7_sups_23 : decode cX7_sups 23 = .ok (.imul, 1) := by decide +kernel
theorem dX7_sups_24 : decode cX7_sups 24 = .ok (.if_icmp .ge 7, 3) := by decide +kernel
theorem dX7_sups_27 : decode cX7_sups 27 = .ok (.iconst 1, 1) := by decide +kernel
theorem dX7_sups_28 : decode cX7_sups 28 = .ok (.goto 4, 3) := by decide +kernel
theorem dX7_sups_31 : decode cX7_sups 31 = .ok (.iconst 0, 1) := by decide +kernel
theorem dX7_sups_32 : decode cX7_sups 32 = .ok (.istore_n 3, 1) := by decide +kernel
theorem dX7_sups_33 : decode cX7_sups 33 = .ok (.iload_n 3, 1) := by decide +kernel
theorem dX7_sups_34 : decode cX7_sups 34 = .ok (.ifCond .eq 7, 3) := by decide +kernel
theorem dX7_sups_37 : decode cX7_sups 37 = .ok (.iconst 1, 1) := by decide +kernel
theorem dX7_sups_38 : decode cX7_sups 38 = .ok (.goto 4, 3) := by decide +kernel
theorem dX7_sups_41 : decode cX7_sups 41 = .ok (.iload_n 2, 1) := by decide +kernel
theorem dX7_sups_42 : decode cX7_sups 42 = .ok (.istore 4, 2) := by decide +kernel
theorem dX7_sups_44 : decode cX7_sups 44 = .ok (.aload_n 0, 1) := by decide +kernel
theorem dX7_sups_45 : decode cX7_sups 45 = .ok (.iconst 0, 1) := by decide +kernel
theorem dX7_sups_46 : decode cX7_sups 46 = .ok (.iload 4, 2) := by decide +kernel
theorem dX7_sups_48 : decode cX7_sups 48 = .ok (.iload_n 1, 1) := by decide +kernel
theorem dX7_sups_49 : decode cX7_sups 49 = .ok (.imul, 1) := by decide +kernel
theorem dX7_sups_50 : decode cX7_sups 50 = .ok (.aload_n 0, 1) := by decide +kernel
theorem dX7_sups_51 : decode cX7_sups 51 = .ok (.iconst 1, 1) := by decide +kernel
theorem dX7_sups_52 : decode cX7_sups 52 = .ok (.iload_n 1, 1) := by decide +kernel
theorem dX7_sups_53 : decode cX7_sups 53 = .ok (.invokevirtual 75, 3) := by decide +kernel
theorem dX7_sups_56 : decode cX7_sups 56 = .ok (.iadd, 1) := by decide +kernel
theorem dX7_sups_57 : decode cX7_sups 57 = .ok (.invokevirtual 75, 3) := by decide +kernel
theorem dX7_sups_60 : decode cX7_sups 60 = .ok (.istore 5, 2) := by decide +kernel
theorem dX7_sups_62 : decode cX7_sups 62 = .ok (.aload_n 0, 1) := by decide +kernel
theorem dX7_sups_63 : decode cX7_sups 63 = .ok (.getfield 7, 3) := by decide +kernel
theorem dX7_sups_66 : decode cX7_sups 66 = .ok (.iconst 5, 1) := by decide +kernel
theorem dX7_sups_67 : decode cX7_sups 67 = .ok (.dup2, 1) := by decide +kernel
theorem dX7_sups_68 : decode cX7_sups 68 = .ok (.iaload, 1) := by decide +kernel
theorem dX7_sups_69 : decode cX7_sups 69 = .ok (.iload 5, 2) := by decide +kernel
theorem dX7_sups_71 : decode cX7_sups 71 = .ok (.iload_n 1, 1) := by decide +kernel
theorem dX7_sups_72 : decode cX7_sups 72 = .ok (.if_icmp .ge 8, 3) := by decide +kernel
theorem dX7_sups_75 : decode cX7_sups 75 = .ok (.iload 5, 2) := by decide +kernel
theorem dX7_sups_77 : decode cX7_sups 77 = .ok (.goto 4, 3) := by decide +kernel
theorem dX7_sups_80 : decode cX7_sups 80 = .ok (.iload_n 1, 1) := by decide +kernel
theorem dX7_sups_81 : decode cX7_sups 81 = .ok (.iadd, 1) := by decide +kernel
theorem dX7_sups_82 : decode cX7_sups 82 = .ok (.iastore, 1) := by decide +kernel
theorem dX7_sups_83 : decode cX7_sups 83 = .ok (.aload_n 0, 1) := by decide +kernel
theorem dX7_sups_84 : decode cX7_sups 84 = .ok (.getfield 7, 3) := by decide +kernel
theorem dX7_sups_87 : decode cX7_sups 87 = .ok (.bipush 8, 2) := by decide +kernel
theorem dX7_sups_89 : decode cX7_sups 89 = .ok (.dup2, 1) := by decide +kernel
theorem dX7_sups_90 : decode cX7_sups 90 = .ok (.iaload, 1) := by decide +kernel
theorem dX7_sups_91 : decode cX7_sups 91 = .ok (.iload_n 1, 1) := by decide +kernel
theorem dX7_sups_92 : decode cX7_sups 92 = .ok (.ifCond .le 13, 3) := by decide +kernel
theorem dX7_sups_95 : decode cX7_sups 95 = .ok (.iload 4, 2) := by decide +kernel
theorem dX7_sups_97 : decode cX7_sups 97 = .ok (.iload_n 2, 1) := by decide +kernel
theorem dX7_sups_98 : decode cX7_sups 98 = .ok (.if_icmp .ge 7, 3) := by decide +kernel
theorem dX7_sups_101 : decode cX7_sups 101 = .ok (.iconst 1, 1) := by decide +kernel
theorem dX7_sups_102 : decode cX7_sups 102 = .ok (.goto 4, 3) := by decide +kernel
theorem dX7_sups_105 : decode cX7_sups 105 = .ok (.iconst 0, 1) := by decide +kernel
theorem dX7_sups_106 : decode cX7_sups 106 = .ok (.iadd, 1) := by decide +kernel
theorem dX7_sups_107 : decode cX7_sups 107 = .ok (.iastore, 1) := by decide +kernel
theorem dX7_sups_108 : decode cX7_sups 108 = .ok (.return_, 1) := by decide +kernel
set_option maxRecDepth 20000 in
theorem ggX7_heats_X7_isStorm : GoodIn wsX7_heats wsX7_isStorm := goodIn_r _ [6, 1, 23, 24, 25, 26, 27, 28, 29, 30, 31, 32, 33, 34, 35, 36] (by decide +kernel) (by decide +kernel)
set_option maxRecDepth 20000 in
theorem gX7_heats_X7_isStorm : GoodIn wsX7_heats (wsV RX7 64 RX7 yX7_isStorm wsX7_isStorm) := goodIn_app (goodIn_of _ (by decide +kernel)) ggX7_heats_X7_isStorm
set_option maxRecDepth 20000 in
theorem ggX7_heats_X7_uses : GoodIn wsX7_heats wsX7_uses := goodIn_r _ [10, 1, 11, 12, 13, 5, 14, 15, 16, 17, 18, 19, 20, 21, 22, 23, 24, 25, 26, 27, 28, 29, 30, 31, 32, 33, 34, 35, 36] (by decide +kernel) (by decide +kernel)
set_option maxRecDepth 20000 in
theorem gX7_heats_X7_uses : GoodIn wsX7_heats (wsV RX7 75 RX7 yX7_uses wsX7_uses) := goodIn_app (goodIn_of _ (by decide +kernel)) ggX7_heats_X7_uses
theorem dX7_heats_0 : decode cX7_heats 0 = .ok (.iload_n 1, 1) := by decide +kernel
theorem dX7_heats_1 : decode cX7_heats 1 = .ok (.ifCond .ne 7, 3) := by decide +kernel
theorem dX7_heats_4 : decode cX7_heats 4 = .ok (.iconst 0, 1) := by decide +kernel
theorem dX7_heats_5 : decode cX7_heats 5 = .ok (.goto 27, 3) := by decide +kernel
theorem dX7_heats_8 : decode cX7_heats 8 = .ok (.iload_n 1, 1) := by decide +kernel
theorem dX7_heats_9 : decode cX7_heats 9 = .ok (.iconst 3, 1) := by decide +kernel
theorem dX7_heats_10 : decode cX7_heats 10 = .ok (.iadd, 1) := by decide +kernel
theorem dX7_heats_11 : decode cX7_heats 11 = .ok (.iconst 4, 1) := by decide +kernel
theorem dX7_heats_12 : decode cX7_heats 12 = .ok (.idiv, 1) := by decide +kernel
theorem dX7_heats_13 : decode cX7_heats 13 = .ok (.aload_n 0, 1) := by decide +kernel
theorem dX7_heats_14 : decode cX7_heats 14 = .ok (.aload_n 0, 1) := by decide +kernel
theorem dX7_heats_15 : decode cX7_heats 15 = .ok (.getfield 7, 3) := by decide +kernel
theorem dX7_heats_18 : decode cX7_heats 18 = .ok (.iconst 0, 1) := by decide +kernel
theorem dX7_heats_19 : decode cX7_heats 19 = .ok (.iaload, 1) := by decide +kernel
theorem dX7_heats_20 : decode cX7_heats 20 = .ok (.invokevirtual 64, 3) := by decide +kernel
theorem dX7_heats_23 : decode cX7_heats 23 = .ok (.ifCond .eq 7, 3) := by decide +kernel
theorem dX7_heats_26 : decode cX7_heats 26 = .ok (.iconst 1, 1) := by decide +kernel
theorem dX7_heats_27 : decode cX7_heats 27 = .ok (.goto 4, 3) := by decide +kernel
theorem dX7_heats_30 : decode cX7_heats 30 = .ok (.iconst 0, 1) := by decide +kernel
theorem dX7_heats_31 : decode cX7_heats 31 = .ok (.iadd, 1) := by decide +kernel
theorem dX7_heats_32 : decode cX7_heats 32 = .ok (.istore_n 2, 1) := by decide +kernel
theorem dX7_heats_33 : decode cX7_heats 33 = .ok (.aload_n 0, 1) := by decide +kernel
theorem dX7_heats_34 : decode cX7_heats 34 = .ok (.getfield 7, 3) := by decide +kernel
theorem dX7_heats_37 : decode cX7_heats 37 = .ok (.bipush 6, 2) := by decide +kernel
theorem dX7_heats_39 : decode cX7_heats 39 = .ok (.dup2, 1) := by decide +kernel
theorem dX7_heats_40 : decode cX7_heats 40 = .ok (.iaload, 1) := by decide +kernel
theorem dX7_heats_41 : decode cX7_heats 41 = .ok (.aload_n 0, 1) := by decide +kernel
theorem dX7_heats_42 : decode cX7_heats 42 = .ok (.iconst 2, 1) := by decide +kernel
theorem dX7_heats_43 : decode cX7_heats 43 = .ok (.iload_n 2, 1) := by decide +kernel
theorem dX7_heats_44 : decode cX7_heats 44 = .ok (.invokevirtual 75, 3) := by decide +kernel
theorem dX7_heats_47 : decode cX7_heats 47 = .ok (.ifCond .le 7, 3) := by decide +kernel
theorem dX7_heats_50 : decode cX7_heats 50 = .ok (.iconst 1, 1) := by decide +kernel
theorem dX7_heats_51 : decode cX7_heats 51 = .ok (.goto 4, 3) := by decide +kernel
theorem dX7_heats_54 : decode cX7_heats 54 = .ok (.iconst 0, 1) := by decide +kernel
theorem dX7_heats_55 : decode cX7_heats 55 = .ok (.iadd, 1) := by decide +kernel
theorem dX7_heats_56 : decode cX7_heats 56 = .ok (.iastore, 1) := by decide +kernel
theorem dX7_heats_57 : decode cX7_heats 57 = .ok (.return_, 1) := by decide +kernel
set_option maxRecDepth 20000 in
theorem ggX7_night_X7_isStorm : GoodIn wsX7_night wsX7_isStorm := goodIn_r _ [6, 1, 59, 60, 61, 62, 63, 64, 65, 66, 67, 68, 69, 70, 71, 72] (by decide +kernel) (by decide +kernel)
set_option maxRecDepth 20000 in
theorem gX7_night_X7_isStorm : GoodIn wsX7_night (wsV RX7 64 RX7 yX7_isStorm wsX7_isStorm) := goodIn_app (goodIn_of _ (by decide +kernel)) ggX7_night_X7_isStorm
set_option maxRecDepth 20000 in
theorem ggX7_night_X7_leave : GoodIn wsX7_night wsX7_leave := goodIn_r _ [10, 1, 11, 12, 13, 5, 14, 15, 16, 17, 18, 59, 60, 61, 62, 63, 64, 65, 66, 67, 68, 69, 70, 71, 72] (by decide +kernel) (by decide +kernel)
set_option maxRecDepth 20000 in
theorem gX7_night_X7_leave : GoodIn wsX7_night (wsV RX7 78 RX7 yX7_leave wsX7_leave) := goodIn_app (goodIn_of _ (by decide +kernel)) ggX7_night_X7_leave
set_option maxRecDepth 20000 in
theorem ggX7_night_X7_ofParty : GoodIn wsX7_night wsX7_ofParty := goodIn_r _ [14, 1, 59, 60, 61, 62, 63, 64, 65, 66, 67, 68, 69, 70, 71, 72] (by decide +kernel) (by decide +kernel)
set_option maxRecDepth 20000 in
theorem gX7_night_X7_ofParty : GoodIn wsX7_night (wsV RX7 54 RX7 yX7_ofParty wsX7_ofParty) := goodIn_app (goodIn_of _ (by decide +kernel)) ggX7_night_X7_ofParty
set_option maxRecDepth 20000 in
theorem ggX7_night_X7_arrives : GoodIn wsX7_night wsX7_arrives := goodIn_r _ [22, 1, 11, 12, 13, 5, 14, 15, 16, 17, 18, 2, 3, 4, 6, 23, 24, 25, 26, 59, 60, 61, 62, 63, 64, 65, 66, 67, 68, 69, 70, 71, 72] (by decide +kernel) (by decide +kernel)
set_option maxRecDepth 20000 in
theorem gX7_night_X7_arrives : GoodIn wsX7_night (wsV RX7 81 RX7 yX7_arrives wsX7_arrives) := goodIn_app (goodIn_of _ (by decide +kernel)) ggX7_night_X7_arrives
set_option maxRecDepth 20000 in
theorem ggX7_night_X7_guests : GoodIn wsX7_night wsX7_guests := goodIn_r _ [26, 1, 11, 12, 13, 5, 14, 59, 60, 61, 62, 63, 64, 65, 66, 67, 68, 69, 70, 71, 72] (by decide +kernel) (by decide +kernel)
set_option maxRecDepth 20000 in
theorem gX7_night_X7_guests : GoodIn wsX7_night (wsV RX7 68 RX7 yX7_guests wsX7_guests) := goodIn_app (goodIn_of _ (by decide +kernel)) ggX7_night_X7_guests
set_option maxRecDepth 20000 in
theorem ggX7_night_X7_sups : GoodIn wsX7_night wsX7_sups := goodIn_r _ [30, 1, 31, 32, 33, 5, 34, 35, 36, 37, 38, 39, 40, 41, 42, 43, 44, 45, 46, 47, 48, 49, 50, 59, 60, 61, 62, 63, 64, 65, 66, 67, 68, 69, 70, 71, 72] (by decide +kernel) (by decide +kernel)
set_option maxRecDepth 20000 in
theorem gX7_night_X7_sups : GoodIn wsX7_night (wsV RX7 84 RX7 yX7_sups wsX7_sups) := goodIn_app (goodIn_of _ (by decide +kernel)) ggX7_night_X7_sups
set_option maxRecDepth 20000 in
theorem ggX7_night_X7_heats : GoodIn wsX7_night wsX7_heats := goodIn_r _ [54, 1, 2, 3, 4, 5, 6, 39, 40, 41, 42, 43, 44, 45, 46, 35, 36, 37, 38, 47, 48, 49, 50, 59, 60, 61, 62, 63, 64, 65, 66, 67, 68, 69, 70, 71, 72] (by decide +kernel) (by decide +kernel)
set_option maxRecDepth 20000 in
theorem gX7_night_X7_heats : GoodIn wsX7_night (wsV RX7 87 RX7 yX7_heats wsX7_heats) := goodIn_app (goodIn_of _ (by decide +kernel)) ggX7_night_X7_heats
set_option maxRecDepth 20000 in
theorem ggX7_night_X7_setParty : GoodIn wsX7_night wsX7_setParty := goodIn_r _ [18, 1, 59, 60, 61, 62, 63, 64, 65, 66, 67, 68, 69, 70, 71, 72] (by decide +kernel) (by decide +kernel)
set_option maxRecDepth 20000 in
theorem gX7_night_X7_setParty : GoodIn wsX7_night (wsV RX7 60 RX7 yX7_setParty wsX7_setParty) := goodIn_app (goodIn_of _ (by decide +kernel)) ggX7_night_X7_setParty
set_option maxRecDepth 20000 in
theorem ggX7_night_X7_spoils : GoodIn wsX7_night wsX7_spoils := goodIn_r _ [58, 1, 35, 36, 37, 5, 38, 47, 48, 49, 50, 59, 60, 61, 62, 63, 64, 65, 66, 67, 68, 69, 70, 71, 72] (by decide +kernel) (by decide +kernel)
set_option maxRecDepth 20000 in
theorem gX7_night_X7_spoils : GoodIn wsX7_night (wsV RX7 90 RX7 yX7_spoils wsX7_spoils) := goodIn_app (goodIn_of _ (by decide +kernel)) ggX7_night_X7_spoils
theorem dX7_night_0 : decode cX7_night 0 = .ok (.aload_n 0, 1) := by decide +kernel
theorem dX7_night_1 : decode cX7_night 1 = .ok (.aload_n 0, 1) := by decide +kernel
theorem dX7_night_2 : decode cX7_night 2 = .ok (.getfield 7, 3) := by decide +kernel
theorem dX7_night_5 : decode cX7_night 5 = .ok (.iconst 0, 1) := by decide +kernel
theorem dX7_night_6 : decode cX7_night 6 = .ok (.iaload, 1) := by decide +kernel
theorem dX7_night_7 : decode cX7_night 7 = .ok (.invokevirtual 64, 3) := by decide +kernel
theorem dX7_night_10 : decode cX7_night 10 = .ok (.ifCond .ne 7, 3) := by decide +kernel
theorem dX7_night_13 : decode cX7_night 13 = .ok (.aload_n 0, 1) := by decide +kernel
theorem dX7_night_14 : decode cX7_night 14 = .ok (.invokevirtual 78, 3) := by decide +kernel
theorem dX7_night_17 : decode cX7_night 17 = .ok (.iconst 0, 1) := by decide +kernel
theorem dX7_night_18 : decode cX7_night 18 = .ok (.istore_n 1, 1) := by decide +kernel
theorem dX7_night_19 : decode cX7_night 19 = .ok (.iload_n 1, 1) := by decide +kernel
theorem dX7_night_20 : decode cX7_night 20 = .ok (.aload_n 0, 1) := by decide +kernel
theorem dX7_night_21 : decode cX7_night 21 = .ok (.getfield 7, 3) := by decide +kernel
theorem dX7_night_24 : decode cX7_night 24 = .ok (.iconst 4, 1) := by decide +kernel
theorem dX7_night_25 : decode cX7_night 25 = .ok (.iaload, 1) := by decide +kernel
theorem dX7_night_26 : decode cX7_night 26 = .ok (.if_icmp .ge 38, 3) := by decide +kernel
theorem dX7_night_29 : decode cX7_night 29 = .ok (.aload_n 0, 1) := by decide +kernel
theorem dX7_night_30 : decode cX7_night 30 = .ok (.iload_n 1, 1) := by decide +kernel
theorem dX7_night_31 : decode cX7_night 31 = .ok (.iconst 3, 1) := by decide +kernel
theorem dX7_night_32 : decode cX7_night 32 = .ok (.invokevirtual 54, 3) := by decide +kernel
theorem dX7_night_35 : decode cX7_night 35 = .ok (.ifCond .ne 23, 3) := by decide +kernel
theorem dX7_night_38 : decode cX7_night 38 = .ok (.aload_n 0, 1) := by decide +kernel
theorem dX7_night_39 : decode cX7_night 39 = .ok (.iload_n 1, 1) := by decide +kernel
theorem dX7_night_40 : decode cX7_night 40 = .ok (.iconst 1, 1) := by decide +kernel
theorem dX7_night_41 : decode cX7_night 41 = .ok (.invokevirtual 54, 3) := by decide +kernel
theorem dX7_night_44 : decode cX7_night 44 = .ok (.aload_n 0, 1) := by decide +kernel
theorem dX7_night_45 : decode cX7_night 45 = .ok (.getfield 7, 3) := by decide +kernel
theorem dX7_night_48 : decode cX7_night 48 = .ok (.iconst 0, 1) := by decide +kernel
theorem dX7_night_49 : decode cX7_night 49 = .ok (.iaload, 1) := by decide +kernel
theorem dX7_night_50 : decode cX7_night 50 = .ok (.if_icmp .gt 8, 3) := by decide +kernel
theorem dX7_night_53 : decode cX7_night 53 = .ok (.aload_n 0, 1) := by decide +kernel
theorem dX7_night_54 : decode cX7_night 54 = .ok (.iload_n 1, 1) := by decide +kernel
theorem dX7_night_55 : decode cX7_night 55 = .ok (.invokevirtual 81, 3) := by decide +kernel
theorem dX7_night_58 : decode cX7_night 58 = .ok (.iinc 1 1, 3) := by decide +kernel
theorem dX7_night_61 : decode cX7_night 61 = .ok (.goto (-42), 3) := by decide +kernel
theorem dX7_night_64 : decode cX7_night 64 = .ok (.aload_n 0, 1) := by decide +kernel
theorem dX7_night_65 : decode cX7_night 65 = .ok (.invokevirtual 68, 3) := by decide +kernel
theorem dX7_night_68 : decode cX7_night 68 = .ok (.istore_n 1, 1) := by decide +kernel
theorem dX7_night_69 : decode cX7_night 69 = .ok (.aload_n 0, 1) := by decide +kernel
theorem dX7_night_70 : decode cX7_night 70 = .ok (.iload_n 1, 1) := by decide +kernel
theorem dX7_night_71 : decode cX7_night 71 = .ok (.invokevirtual 84, 3) := by decide +kernel
theorem dX7_night_74 : decode cX7_night 74 = .ok (.aload_n 0, 1) := by decide +kernel
theorem dX7_night_75 : decode cX7_night 75 = .ok (.iload_n 1, 1) := by decide +kernel
theorem dX7_night_76 : decode cX7_night 76 = .ok (.invokevirtual 87, 3) := by decide +kernel
theorem dX7_night_79 : decode cX7_night 79 = .ok (.aload_n 0, 1) := by decide +kernel
theorem dX7_night_80 : decode cX7_night 80 = .ok (.getfield 7, 3) := by decide +kernel
theorem dX7_night_83 : decode cX7_night 83 = .ok (.bipush 7, 2) := by decide +kernel
theorem dX7_night_85 : decode cX7_night 85 = .ok (.dup2, 1) := by decide +kernel
theorem dX7_night_86 : decode cX7_night 86 = .ok (.iaload, 1) := by decide +kernel
theorem dX7_night_87 : decode cX7_night 87 = .ok (.iload_n 1, 1) := by decide +kernel
theorem dX7_night_88 : decode cX7_night 88 = .ok (.iadd, 1) := by decide +kernel
theorem dX7_night_89 : decode cX7_night 89 = .ok (.iastore, 1) := by decide +kernel
theorem dX7_night_90 : decode cX7_night 90 = .ok (.iconst 0, 1) := by decide +kernel
theorem dX7_night_91 : decode cX7_night 91 = .ok (.istore_n 2, 1) := by decide +kernel
theorem dX7_night_92 : decode cX7_night 92 = .ok (.iload_n 2, 1) := by decide +kernel
theorem dX7_night_93 : decode cX7_night 93 = .ok (.aload_n 0, 1) := by decide +kernel
theorem dX7_night_94 : decode cX7_night 94 = .ok (.getfield 7, 3) := by decide +kernel
theorem dX7_night_97 : decode cX7_night 97 = .ok (.iconst 4, 1) := by decide +kernel
theorem dX7_night_98 : decode cX7_night 98 = .ok (.iaload, 1) := by decide +kernel
theorem dX7_night_99 : decode cX7_night 99 = .ok (.if_icmp .ge 37, 3) := by decide +kernel
theorem dX7_night_102 : decode cX7_night 102 = .ok (.aload_n 0, 1) := by decide +kernel
theorem dX7_night_103 : decode cX7_night 103 = .ok (.iload_n 2, 1) := by decide +kernel
theorem dX7_night_104 : decode cX7_night 104 = .ok (.iconst 4, 1) := by decide +kernel
theorem dX7_night_105 : decode cX7_night 105 = .ok (.aload_n 0, 1) := by decide +kernel
theorem dX7_night_106 : decode cX7_night 106 = .ok (.iload_n 2, 1) := by decide +kernel
theorem dX7_night_107 : decode cX7_night 107 = .ok (.iconst 4, 1) := by decide +kernel
theorem dX7_night_108 : decode cX7_night 108 = .ok (.invokevirtual 54, 3) := by decide +kernel
theorem dX7_night_111 : decode cX7_night 111 = .ok (.aload_n 0, 1) := by decide +kernel
theorem dX7_night_112 : decode cX7_night 112 = .ok (.iload_n 2, 1) := by decide +kernel
theorem dX7_night_113 : decode cX7_night 113 = .ok (.iconst 3, 1) := by decide +kernel
theorem dX7_night_114 : decode cX7_night 114 = .ok (.invokevirtual 54, 3) := by decide +kernel
theorem dX7_night_117 : decode cX7_night 117 = .ok (.iconst 1, 1) := by decide +kernel
theorem dX7_night_118 : decode cX7_night 118 = .ok (.if_icmp .ne 7, 3) := by decide +kernel
theorem dX7_night_121 : decode cX7_night 121 = .ok (.iconst 1, 1) := by decide +kernel
theorem dX7_night_122 : decode cX7_night 122 = .ok (.goto 4, 3) := by decide +kernel
theorem dX7_night_125 : decode cX7_night 125 = .ok (.iconst 0, 1) := by decide +kernel
theorem dX7_night_126 : decode cX7_night 126 = .ok (.iadd, 1) := by decide +kernel
theorem dX7_night_127 : decode cX7_night 127 = .ok (.invokevirtual 60, 3) := by decide +kernel
theorem dX7_night_130 : decode cX7_night 130 = .ok (.iinc 2 1, 3) := by decide +kernel
theorem dX7_night_133 : decode cX7_night 133 = .ok (.goto (-41), 3) := by decide +kernel
theorem dX7_night_136 : decode cX7_night 136 = .ok (.aload_n 0, 1) := by decide +kernel
theorem dX7_night_137 : decode cX7_night 137 = .ok (.invokevirtual 90, 3) := by decide +kernel
theorem dX7_night_140 : decode cX7_night 140 = .ok (.aload_n 0, 1) := by decide +kernel
theorem dX7_night_141 : decode cX7_night 141 = .ok (.getfield 7, 3) := by decide +kernel
theorem dX7_night_144 : decode cX7_night 144 = .ok (.iconst 0, 1) := by decide +kernel
theorem dX7_night_145 : decode cX7_night 145 = .ok (.dup2, 1) := by decide +kernel
theorem dX7_night_146 : decode cX7_night 146 = .ok (.iaload, 1) := by decide +kernel
theorem dX7_night_147 : decode cX7_night 147 = .ok (.iconst 1, 1) := by decide +kernel
theorem dX7_night_148 : decode cX7_night 148 = .ok (.iadd, 1) := by decide +kernel
theorem dX7_night_149 : decode cX7_night 149 = .ok (.iastore, 1) := by decide +kernel
theorem dX7_night_150 : decode cX7_night 150 = .ok (.return_, 1) := by decide +kernel
set_option maxRecDepth 20000 in
theorem ggX7_adds_X7_setParty : GoodIn wsX7_adds wsX7_setParty := goodIn_r _ [6, 1, 7, 8, 9, 10, 11, 12, 13, 14, 15, 16, 17, 18, 19, 20] (by decide +kernel) (by decide +kernel)
set_option maxRecDepth 20000 in
theorem gX7_adds_X7_setParty : GoodIn wsX7_adds (wsV RX7 60 RX7 yX7_setParty wsX7_setParty) := goodIn_app (goodIn_of _ (by decide +kernel)) ggX7_adds_X7_setParty
theorem dX7_adds_0 : decode cX7_adds 0 = .ok (.aload_n 0, 1) := by decide +kernel
theorem dX7_adds_1 : decode cX7_adds 1 = .ok (.getfield 7, 3) := by decide +kernel
theorem dX7_adds_4 : decode cX7_adds 4 = .ok (.iconst 4, 1) := by decide +kernel
theorem dX7_adds_5 : decode cX7_adds 5 = .ok (.iaload, 1) := by decide +kernel
theorem dX7_adds_6 : decode cX7_adds 6 = .ok (.istore 4, 2) := by decide +kernel
theorem dX7_adds_8 : decode cX7_adds 8 = .ok (.aload_n 0, 1) := by decide +kernel
theorem dX7_adds_9 : decode cX7_adds 9 = .ok (.getfield 7, 3) := by decide +kernel
theorem dX7_adds_12 : decode cX7_adds 12 = .ok (.iconst 4, 1) := by decide +kernel
theorem dX7_adds_13 : decode cX7_adds 13 = .ok (.dup2, 1) := by decide +kernel
theorem dX7_adds_14 : decode cX7_adds 14 = .ok (.iaload, 1) := by decide +kernel
theorem dX7_adds_15 : decode cX7_adds 15 = .ok (.iconst 1, 1) := by decide +kernel
theorem dX7_adds_16 : decode cX7_adds 16 = .ok (.iadd, 1) := by decide +kernel
theorem dX7_adds_17 : decode cX7_adds 17 = .ok (.iastore, 1) := by decide +kernel
theorem dX7_adds_18 : decode cX7_adds 18 = .ok (.aload_n 0, 1) := by decide +kernel
theorem dX7_adds_19 : decode cX7_adds 19 = .ok (.iload 4, 2) := by decide +kernel
theorem dX7_adds_21 : decode cX7_adds 21 = .ok (.iconst 0, 1) := by decide +kernel
theorem dX7_adds_22 : decode cX7_adds 22 = .ok (.iload_n 1, 1) := by decide +kernel
theorem dX7_adds_23 : decode cX7_adds 23 = .ok (.invokevirtual 60, 3) := by decide +kernel
theorem dX7_adds_26 : decode cX7_adds 26 = .ok (.aload_n 0, 1) := by decide +kernel
theorem dX7_adds_27 : decode cX7_adds 27 = .ok (.iload 4, 2) := by decide +kernel
theorem dX7_adds_29 : decode cX7_adds 29 = .ok (.iconst 1, 1) := by decide +kernel
theorem dX7_adds_30 : decode cX7_adds 30 = .ok (.iload_n 2, 1) := by decide +kernel
theorem dX7_adds_31 : decode cX7_adds 31 = .ok (.invokevirtual 60, 3) := by decide +kernel
theorem dX7_adds_34 : decode cX7_adds 34 = .ok (.aload_n 0, 1) := by decide +kernel
theorem dX7_adds_35 : decode cX7_adds 35 = .ok (.iload 4, 2) := by decide +kernel
theorem dX7_adds_37 : decode cX7_adds 37 = .ok (.iconst 2, 1) := by decide +kernel
theorem dX7_adds_38 : decode cX7_adds 38 = .ok (.iload_n 3, 1) := by decide +kernel
theorem dX7_adds_39 : decode cX7_adds 39 = .ok (.invokevirtual 60, 3) := by decide +kernel
theorem dX7_adds_42 : decode cX7_adds 42 = .ok (.aload_n 0, 1) := by decide +kernel
theorem dX7_adds_43 : decode cX7_adds 43 = .ok (.iload 4, 2) := by decide +kernel
theorem dX7_adds_45 : decode cX7_adds 45 = .ok (.iconst 3, 1) := by decide +kernel
theorem dX7_adds_46 : decode cX7_adds 46 = .ok (.iconst 0, 1) := by decide +kernel
theorem dX7_adds_47 : decode cX7_adds 47 = .ok (.invokevirtual 60, 3) := by decide +kernel
theorem dX7_adds_50 : decode cX7_adds 50 = .ok (.aload_n 0, 1) := by decide +kernel
theorem dX7_adds_51 : decode cX7_adds 51 = .ok (.iload 4, 2) := by decide +kernel
theorem dX7_adds_53 : decode cX7_adds 53 = .ok (.iconst 4, 1) := by decide +kernel
theorem dX7_adds_54 : decode cX7_adds 54 = .ok (.iconst 0, 1) := by decide +kernel
theorem dX7_adds_55 : decode cX7_adds 55 = .ok (.invokevirtual 60, 3) := by decide +kernel
theorem dX7_adds_58 : decode cX7_adds 58 = .ok (.aload_n 0, 1) := by decide +kernel
theorem dX7_adds_59 : decode cX7_adds 59 = .ok (.iload 4, 2) := by decide +kernel
theorem dX7_adds_61 : decode cX7_adds 61 = .ok (.iconst 5, 1) := by decide +kernel
theorem dX7_adds_62 : decode cX7_adds 62 = .ok (.iconst 0, 1) := by decide +kernel
theorem dX7_adds_63 : decode cX7_adds 63 = .ok (.invokevirtual 60, 3) := by decide +kernel
theorem dX7_adds_66 : decode cX7_adds 66 = .ok (.return_, 1) := by decide +kernel
set_option maxRecDepth 20000 in
theorem ggX7_isTaken_X7_adds : GoodIn wsX7_isTaken wsX7_adds := goodIn_r _ [7, 2, 8, 9, 10, 6, 11, 76, 77, 78, 79, 80, 81, 82, 83, 84, 85, 86, 87, 88, 89] (by decide +kernel) (by decide +kernel)
set_option maxRecDepth 20000 in
theorem gX7_isTaken_X7_adds : GoodIn wsX7_isTaken (wsV RX7 93 RX7 yX7_adds wsX7_adds) := goodIn_app (goodIn_of _ (by decide +kernel)) ggX7_isTaken_X7_adds
set_option maxRecDepth 20000 in
theorem ggX7_isTaken_X7_isAny : GoodIn wsX7_isTaken wsX7_isAny := goodIn_r _ [15, 16, 17, 18, 6, 19, 2, 20, 21, 22, 23, 76, 77, 78, 79, 80, 81, 82, 83, 84, 85, 86, 87, 88, 89] (by decide +kernel) (by decide +kernel)
set_option maxRecDepth 20000 in
theorem gX7_isTaken_X7_isAny : GoodIn wsX7_isTaken (wsV RX7 96 RX7 yX7_isAny wsX7_isAny) := goodIn_app (goodIn_of _ (by decide +kernel)) ggX7_isTaken_X7_isAny
set_option maxRecDepth 20000 in
theorem ggX7_isTaken_X7_night : GoodIn wsX7_isTaken wsX7_night := goodIn_r _ [27, 2, 28, 29, 30, 6, 31, 32, 33, 34, 35, 20, 21, 22, 23, 8, 9, 10, 11, 36, 37, 38, 39, 40, 41, 42, 43, 44, 45, 46, 47, 48, 49, 50, 51, 52, 53, 54, 55, 56, 57, 58, 59, 60, 61, 62, 63, 64, 65, 66, 67, 68, 69, 70, 71, 72, 73, 74, 75, 76, 77, 78, 79, 80, 81, 82, 83, 84, 85, 86, 87, 88, 89] (by decide +kernel) (by decide +kernel)
set_option maxRecDepth 20000 in
theorem gX7_isTaken_X7_night : GoodIn wsX7_isTaken (wsV RX7 100 RX7 yX7_night wsX7_night) := goodIn_app (goodIn_of _ (by decide +kernel)) ggX7_isTaken_X7_night
theorem dX7_isTaken_0 : decode cX7_isTaken 0 = .ok (.iconst 0, 1) := by decide +kernel
theorem dX7_isTaken_1 : decode cX7_isTaken 1 = .ok (.istore 4, 2) := by decide +kernel
theorem dX7_isTaken_3 : decode cX7_isTaken 3 = .ok (.iload 4, 2) := by decide +kernel
theorem dX7_isTaken_5 : decode cX7_isTaken 5 = .ok (.sipush 599, 3) := by decide +kernel
theorem dX7_isTaken_8 : decode cX7_isTaken 8 = .ok (.if_icmp .ge 23, 3) := by decide +kernel
theorem dX7_isTaken_11 : decode cX7_isTaken 11 = .ok (.aload_n 0, 1) := by decide +kernel
theorem dX7_isTaken_12 : decode cX7_isTaken 12 = .ok (.getfield 25, 3) := by decide +kernel
theorem dX7_isTaken_15 : decode cX7_isTaken 15 = .ok (.iload 4, 2) := by decide +kernel
theorem dX7_isTaken_17 : decode cX7_isTaken 17 = .ok (.aload_n 0, 1) := by decide +kernel
theorem dX7_isTaken_18 : decode cX7_isTaken 18 = .ok (.getfield 7, 3) := by decide +kernel
theorem dX7_isTaken_21 : decode cX7_isTaken 21 = .ok (.iload 4, 2) := by decide +kernel
theorem dX7_isTaken_23 : decode cX7_isTaken 23 = .ok (.iaload, 1) := by decide +kernel
theorem dX7_isTaken_24 : decode cX7_isTaken 24 = .ok (.iastore, 1) := by decide +kernel
theorem dX7_isTaken_25 : decode cX7_isTaken 25 = .ok (.iinc 4 1, 3) := by decide +kernel
theorem dX7_isTaken_28 : decode cX7_isTaken 28 = .ok (.goto (-25), 3) := by decide +kernel
theorem dX7_isTaken_31 : decode cX7_isTaken 31 = .ok (.aload_n 0, 1) := by decide +kernel
theorem dX7_isTaken_32 : decode cX7_isTaken 32 = .ok (.iload_n 1, 1) := by decide +kernel
theorem dX7_isTaken_33 : decode cX7_isTaken 33 = .ok (.iload_n 2, 1) := by decide +kernel
theorem dX7_isTaken_34 : decode cX7_isTaken 34 = .ok (.iload_n 3, 1) := by decide +kernel
theorem dX7_isTaken_35 : decode cX7_isTaken 35 = .ok (.invokevirtual 93, 3) := by decide +kernel
theorem dX7_isTaken_38 : decode cX7_isTaken 38 = .ok (.iconst 1, 1) := by decide +kernel
theorem dX7_isTaken_39 : decode cX7_isTaken 39 = .ok (.istore 4, 2) := by decide +kernel
theorem dX7_isTaken_41 : decode cX7_isTaken 41 = .ok (.iload 4, 2) := by decide +kernel
theorem dX7_isTaken_43 : decode cX7_isTaken 43 = .ok (.ifCond .eq 73, 3) := by decide +kernel
theorem dX7_isTaken_46 : decode cX7_isTaken 46 = .ok (.aload_n 0, 1) := by decide +kernel
theorem dX7_isTaken_47 : decode cX7_isTaken 47 = .ok (.invokevirtual 96, 3) := by decide +kernel
theorem dX7_isTaken_50 : decode cX7_isTaken 50 = .ok (.ifCond .eq 66, 3) := by decide +kernel
theorem dX7_isTaken_53 : decode cX7_isTaken 53 = .ok (.aload_n 0, 1) := by decide +kernel
theorem dX7_isTaken_54 : decode cX7_isTaken 54 = .ok (.invokevirtual 100, 3) := by decide +kernel
theorem dX7_isTaken_57 : decode cX7_isTaken 57 = .ok (.aload_n 0, 1) := by decide +kernel
theorem dX7_isTaken_58 : decode cX7_isTaken 58 = .ok (.getfield 7, 3) := by decide +kernel
theorem dX7_isTaken_61 : decode cX7_isTaken 61 = .ok (.iconst 5, 1) := by decide +kernel
theorem dX7_isTaken_62 : decode cX7_isTaken 62 = .ok (.iaload, 1) := by decide +kernel
theorem dX7_isTaken_63 : decode cX7_isTaken 63 = .ok (.aload_n 0, 1) := by decide +kernel
theorem dX7_isTaken_64 : decode cX7_isTaken 64 = .ok (.getfield 25, 3) := by decide +kernel
theorem dX7_isTaken_67 : decode cX7_isTaken 67 = .ok (.iconst 5, 1) := by decide +kernel
theorem dX7_isTaken_68 : decode cX7_isTaken 68 = .ok (.iaload, 1) := by decide +kernel
theorem dX7_isTaken_69 : decode cX7_isTaken 69 = .ok (.if_icmp .ne 41, 3) := by decide +kernel
theorem dX7_isTaken_72 : decode cX7_isTaken 72 = .ok (.aload_n 0, 1) := by decide +kernel
theorem dX7_isTaken_73 : decode cX7_isTaken 73 = .ok (.getfield 7, 3) := by decide +kernel
theorem dX7_isTaken_76 : decode cX7_isTaken 76 = .ok (.bipush 6, 2) := by decide +kernel
theorem dX7_isTaken_78 : decode cX7_isTaken 78 = .ok (.iaload, 1) := by decide +kernel
theorem dX7_isTaken_79 : decode cX7_isTaken 79 = .ok (.aload_n 0, 1) := by decide +kernel
theorem dX7_isTaken_80 : decode cX7_isTaken 80 = .ok (.getfield 25, 3) := by decide +kernel
theorem dX7_isTaken_83 : decode cX7_isTaken 83 = .ok (.bipush 6, 2) := by decide +kernel
theorem dX7_isTaken_85 : decode cX7_isTaken 85 = .ok (.iaload, 1) := by decide +kernel
theorem dX7_isTaken_86 : decode cX7_isTaken 86 = .ok (.if_icmp .ne 24, 3) := by decide +kernel
theorem dX7_isTaken_89 : decode cX7_isTaken 89 = .ok (.aload_n 0, 1) := by decide +kernel
theorem dX7_isTaken_90 : decode cX7_isTaken 90 = .ok (.getfield 7, 3) := by decide +kernel
theorem dX7_isTaken_93 : decode cX7_isTaken 93 = .ok (.bipush 9, 2) := by decide +kernel
theorem dX7_isTaken_95 : decode cX7_isTaken 95 = .ok (.iaload, 1) := by decide +kernel
theorem dX7_isTaken_96 : decode cX7_isTaken 96 = .ok (.aload_n 0, 1) := by decide +kernel
theorem dX7_isTaken_97 : decode cX7_isTaken 97 = .ok (.getfield 25, 3) := by decide +kernel
theorem dX7_isTaken_100 : decode cX7_isTaken 100 = .ok (.bipush 9, 2) := by decide +kernel
theorem dX7_isTaken_102 : decode cX7_isTaken 102 = .ok (.iaload, 1) := by decide +kernel
theorem dX7_isTaken_103 : decode cX7_isTaken 103 = .ok (.if_icmp .ne 7, 3) := by decide +kernel
theorem dX7_isTaken_106 : decode cX7_isTaken 106 = .ok (.iconst 1, 1) := by decide +kernel
theorem dX7_isTaken_107 : decode cX7_isTaken 107 = .ok (.goto 4, 3) := by decide +kernel
theorem dX7_isTaken_110 : decode cX7_isTaken 110 = .ok (.iconst 0, 1) := by decide +kernel
theorem dX7_isTaken_111 : decode cX7_isTaken 111 = .ok (.istore 4, 2) := by decide +kernel
theorem dX7_isTaken_113 : decode cX7_isTaken 113 = .ok (.goto (-72), 3) := by decide +kernel
theorem dX7_isTaken_116 : decode cX7_isTaken 116 = .ok (.iconst 0, 1) := by decide +kernel
theorem dX7_isTaken_117 : decode cX7_isTaken 117 = .ok (.istore 5, 2) := by decide +kernel
theorem dX7_isTaken_119 : decode cX7_isTaken 119 = .ok (.iload 5, 2) := by decide +kernel
theorem dX7_isTaken_121 : decode cX7_isTaken 121 = .ok (.sipush 599, 3) := by decide +kernel
theorem dX7_isTaken_124 : decode cX7_isTaken 124 = .ok (.if_icmp .ge 23, 3) := by decide +kernel
theorem dX7_isTaken_127 : decode cX7_isTaken 127 = .ok (.aload_n 0, 1) := by decide +kernel
theorem dX7_isTaken_128 : decode cX7_isTaken 128 = .ok (.getfield 7, 3) := by decide +kernel
theorem dX7_isTaken_131 : decode cX7_isTaken 131 = .ok (.iload 5, 2) := by decide +kernel
theorem dX7_isTaken_133 : decode cX7_isTaken 133 = .ok (.aload_n 0, 1) := by decide +kernel
theorem dX7_isTaken_134 : decode cX7_isTaken 134 = .ok (.getfield 25, 3) := by decide +kernel
theorem dX7_isTaken_137 : decode cX7_isTaken 137 = .ok (.iload 5, 2) := by decide +kernel
theorem dX7_isTaken_139 : decode cX7_isTaken 139 = .ok (.iaload, 1) := by decide +kernel
theorem dX7_isTaken_140 : decode cX7_isTaken 140 = .ok (.iastore, 1) := by decide +kernel
theorem dX7_isTaken_141 : decode cX7_isTaken 141 = .ok (.iinc 5 1, 3) := by decide +kernel
theorem dX7_isTaken_144 : decode cX7_isTaken 144 = .ok (.goto (-25), 3) := by decide +kernel
theorem dX7_isTaken_147 : decode cX7_isTaken 147 = .ok (.iload 4, 2) := by decide +kernel
theorem dX7_isTaken_149 : decode cX7_isTaken 149 = .ok (.ireturn, 1) := by decide +kernel
set_option maxRecDepth 20000 in
theorem ggX7_loads_X7_in : GoodIn wsX7_loads wsX7_in := goodIn_r _ [5] (by decide +kernel) (by decide +kernel)
set_option maxRecDepth 20000 in
theorem gX7_loads_X7_in : GoodIn wsX7_loads (va_wsS RX7 50 yX7_in wsX7_in) := goodIn_app (goodIn_of _ (by decide +kernel)) ggX7_loads_X7_in
theorem dX7_loads_0 : decode cX7_loads 0 = .ok (.iload_n 1, 1) := by decide +kernel
theorem dX7_loads_1 : decode cX7_loads 1 = .ok (.iconst 0, 1) := by decide +kernel
theorem dX7_loads_2 : decode cX7_loads 2 = .ok (.iconst 2, 1) := by decide +kernel
theorem dX7_loads_3 : decode cX7_loads 3 = .ok (.invokestatic 50, 3) := by decide +kernel
theorem dX7_loads_6 : decode cX7_loads 6 = .ok (.ifCond .eq 25, 3) := by decide +kernel
theorem dX7_loads_9 : decode cX7_loads 9 = .ok (.iload_n 2, 1) := by decide +kernel
theorem dX7_loads_10 : decode cX7_loads 10 = .ok (.iconst 1, 1) := by decide +kernel
theorem dX7_loads_11 : decode cX7_loads 11 = .ok (.sipush 999, 3) := by decide +kernel
theorem dX7_loads_14 : decode cX7_loads 14 = .ok (.invokestatic 50, 3) := by decide +kernel
theorem dX7_loads_17 : decode cX7_loads 17 = .ok (.ifCond .eq 14, 3) := by decide +kernel
theorem dX7_loads_20 : decode cX7_loads 20 = .ok (.iload_n 3, 1) := by decide +kernel
theorem dX7_loads_21 : decode cX7_loads 21 = .ok (.iconst 0, 1) := by decide +kernel
theorem dX7_loads_22 : decode cX7_loads 22 = .ok (.sipush 365, 3) := by decide +kernel
theorem dX7_loads_25 : decode cX7_loads 25 = .ok (.invokestatic 50, 3) := by decide +kernel
theorem dX7_loads_28 : decode cX7_loads 28 = .ok (.ifCond .ne 5, 3) := by decide +kernel
theorem dX7_loads_31 : decode cX7_loads 31 = .ok (.iconst (-1), 1) := by decide +kernel
theorem dX7_loads_32 : decode cX7_loads 32 = .ok (.ireturn, 1) := by decide +kernel
theorem dX7_loads_33 : decode cX7_loads 33 = .ok (.aload_n 0, 1) := by decide +kernel
theorem dX7_loads_34 : decode cX7_loads 34 = .ok (.getfield 7, 3) := by decide +kernel
theorem dX7_loads_37 : decode cX7_loads 37 = .ok (.iconst 3, 1) := by decide +kernel
theorem dX7_loads_38 : decode cX7_loads 38 = .ok (.iaload, 1) := by decide +kernel
theorem dX7_loads_39 : decode cX7_loads 39 = .ok (.bipush 6, 2) := by decide +kernel
theorem dX7_loads_41 : decode cX7_loads 41 = .ok (.if_icmp .ne 6, 3) := by decide +kernel
theorem dX7_loads_44 : decode cX7_loads 44 = .ok (.bipush (-3), 2) := by decide +kernel
theorem dX7_loads_46 : decode cX7_loads 46 = .ok (.ireturn, 1) := by decide +kernel
theorem dX7_loads_47 : decode cX7_loads 47 = .ok (.bipush 23, 2) := by decide +kernel
theorem dX7_loads_49 : decode cX7_loads 49 = .ok (.iconst 3, 1) := by decide +kernel
theorem dX7_loads_50 : decode cX7_loads 50 = .ok (.aload_n 0, 1) := by decide +kernel
theorem dX7_loads_51 : decode cX7_loads 51 = .ok (.getfield 7, 3) := by decide +kernel
theorem dX7_loads_54 : decode cX7_loads 54 = .ok (.iconst 3, 1) := by decide +kernel
theorem dX7_loads_55 : decode cX7_loads 55 = .ok (.iaload, 1) := by decide +kernel
theorem dX7_loads_56 : decode cX7_loads 56 = .ok (.imul, 1) := by decide +kernel
theorem dX7_loads_57 : decode cX7_loads 57 = .ok (.iadd, 1) := by decide +kernel
theorem dX7_loads_58 : decode cX7_loads 58 = .ok (.istore 4, 2) := by decide +kernel
theorem dX7_loads_60 : decode cX7_loads 60 = .ok (.aload_n 0, 1) := by decide +kernel
theorem dX7_loads_61 : decode cX7_loads 61 = .ok (.getfield 7, 3) := by decide +kernel
theorem dX7_loads_64 : decode cX7_loads 64 = .ok (.iload 4, 2) := by decide +kernel
theorem dX7_loads_66 : decode cX7_loads 66 = .ok (.iload_n 1, 1) := by decide +kernel
theorem dX7_loads_67 : decode cX7_loads 67 = .ok (.iastore, 1) := by decide +kernel
theorem dX7_loads_68 : decode cX7_loads 68 = .ok (.aload_n 0, 1) := by decide +kernel
theorem dX7_loads_69 : decode cX7_loads 69 = .ok (.getfield 7, 3) := by decide +kernel
theorem dX7_loads_72 : decode cX7_loads 72 = .ok (.iload 4, 2) := by decide +kernel
theorem dX7_loads_74 : decode cX7_loads 74 = .ok (.iconst 1, 1) := by decide +kernel
theorem dX7_loads_75 : decode cX7_loads 75 = .ok (.iadd, 1) := by decide +kernel
theorem dX7_loads_76 : decode cX7_loads 76 = .ok (.iload_n 2, 1) := by decide +kernel
theorem dX7_loads_77 : decode cX7_loads 77 = .ok (.iastore, 1) := by decide +kernel
theorem dX7_loads_78 : decode cX7_loads 78 = .ok (.aload_n 0, 1) := by decide +kernel
theorem dX7_loads_79 : decode cX7_loads 79 = .ok (.getfield 7, 3) := by decide +kernel
theorem dX7_loads_82 : decode cX7_loads 82 = .ok (.iload 4, 2) := by decide +kernel
theorem dX7_loads_84 : decode cX7_loads 84 = .ok (.iconst 2, 1) := by decide +kernel
theorem dX7_loads_85 : decode cX7_loads 85 = .ok (.iadd, 1) := by decide +kernel
theorem dX7_loads_86 : decode cX7_loads 86 = .ok (.iload_n 3, 1) := by decide +kernel
theorem dX7_loads_87 : decode cX7_loads 87 = .ok (.iastore, 1) := by decide +kernel
theorem dX7_loads_88 : decode cX7_loads 88 = .ok (.aload_n 0, 1) := by decide +kernel
theorem dX7_loads_89 : decode cX7_loads 89 = .ok (.getfield 7, 3) := by decide +kernel
theorem dX7_loads_92 : decode cX7_loads 92 = .ok (.iconst 3, 1) := by decide +kernel
theorem dX7_loads_93 : decode cX7_loads 93 = .ok (.dup2, 1) := by decide +kernel
theorem dX7_loads_94 : decode cX7_loads 94 = .ok (.iaload, 1) := by decide +kernel
theorem dX7_loads_95 : decode cX7_loads 95 = .ok (.iconst 1, 1) := by decide +kernel
theorem dX7_loads_96 : decode cX7_loads 96 = .ok (.iadd, 1) := by decide +kernel
theorem dX7_loads_97 : decode cX7_loads 97 = .ok (.iastore, 1) := by decide +kernel
theorem dX7_loads_98 : decode cX7_loads 98 = .ok (.aload_n 0, 1) := by decide +kernel
theorem dX7_loads_99 : decode cX7_loads 99 = .ok (.getfield 7, 3) := by decide +kernel
theorem dX7_loads_102 : decode cX7_loads 102 = .ok (.iconst 3, 1) := by decide +kernel
theorem dX7_loads_103 : decode cX7_loads 103 = .ok (.iaload, 1) := by decide +kernel
theorem dX7_loads_104 : decode cX7_loads 104 = .ok (.ireturn, 1) := by decide +kernel
set_option maxRecDepth 20000 in
theorem ggX7_flies_X7_isStorm : GoodIn wsX7_flies wsX7_isStorm := goodIn_r _ [6, 1, 15, 16, 17, 18, 19, 20, 21, 22, 23, 24, 25, 26, 27, 28] (by decide +kernel) (by decide +kernel)
set_option maxRecDepth 20000 in
theorem gX7_flies_X7_isStorm : GoodIn wsX7_flies (wsV RX7 64 RX7 yX7_isStorm wsX7_isStorm) := goodIn_app (goodIn_of _ (by decide +kernel)) ggX7_flies_X7_isStorm
set_option maxRecDepth 20000 in
theorem ggX7_flies_X7_comes : GoodIn wsX7_flies wsX7_comes := goodIn_r _ [10, 1, 11, 12, 13, 5, 14, 15, 16, 17, 18, 19, 20, 21, 22, 23, 24, 25, 26, 27, 28] (by decide +kernel) (by decide +kernel)
set_option maxRecDepth 20000 in
theorem gX7_flies_X7_comes : GoodIn wsX7_flies (wsV RX7 103 RX7 yX7_comes wsX7_comes) := goodIn_app (goodIn_of _ (by decide +kernel)) ggX7_flies_X7_comes
theorem dX7_flies_0 : decode cX7_flies 0 = .ok (.aload_n 0, 1) := by decide +kernel
theorem dX7_flies_1 : decode cX7_flies 1 = .ok (.getfield 7, 3) := by decide +kernel
theorem dX7_flies_4 : decode cX7_flies 4 = .ok (.iconst 3, 1) := by decide +kernel
theorem dX7_flies_5 : decode cX7_flies 5 = .ok (.iaload, 1) := by decide +kernel
theorem dX7_flies_6 : decode cX7_flies 6 = .ok (.istore_n 1, 1) := by decide +kernel
theorem dX7_flies_7 : decode cX7_flies 7 = .ok (.iload_n 1, 1) := by decide +kernel
theorem dX7_flies_8 : decode cX7_flies 8 = .ok (.ifCond .eq 32, 3) := by decide +kernel
theorem dX7_flies_11 : decode cX7_flies 11 = .ok (.aload_n 0, 1) := by decide +kernel
theorem dX7_flies_12 : decode cX7_flies 12 = .ok (.aload_n 0, 1) := by decide +kernel
theorem dX7_flies_13 : decode cX7_flies 13 = .ok (.getfield 7, 3) := by decide +kernel
theorem dX7_flies_16 : decode cX7_flies 16 = .ok (.iconst 0, 1) := by decide +kernel
theorem dX7_flies_17 : decode cX7_flies 17 = .ok (.iaload, 1) := by decide +kernel
theorem dX7_flies_18 : decode cX7_flies 18 = .ok (.invokevirtual 64, 3) := by decide +kernel
theorem dX7_flies_21 : decode cX7_flies 21 = .ok (.ifCond .ne 19, 3) := by decide +kernel
theorem dX7_flies_24 : decode cX7_flies 24 = .ok (.aload_n 0, 1) := by decide +kernel
theorem dX7_flies_25 : decode cX7_flies 25 = .ok (.getfield 7, 3) := by decide +kernel
theorem dX7_flies_28 : decode cX7_flies 28 = .ok (.iconst 1, 1) := by decide +kernel
theorem dX7_flies_29 : decode cX7_flies 29 = .ok (.iaload, 1) := by decide +kernel
theorem dX7_flies_30 : decode cX7_flies 30 = .ok (.aload_n 0, 1) := by decide +kernel
theorem dX7_flies_31 : decode cX7_flies 31 = .ok (.getfield 7, 3) := by decide +kernel
theorem dX7_flies_34 : decode cX7_flies 34 = .ok (.bipush 13, 2) := by decide +kernel
theorem dX7_flies_36 : decode cX7_flies 36 = .ok (.iaload, 1) := by decide +kernel
theorem dX7_flies_37 : decode cX7_flies 37 = .ok (.if_icmp .lt 6, 3) := by decide +kernel
theorem dX7_flies_40 : decode cX7_flies 40 = .ok (.bipush (-2), 2) := by decide +kernel
theorem dX7_flies_42 : decode cX7_flies 42 = .ok (.ireturn, 1) := by decide +kernel
theorem dX7_flies_43 : decode cX7_flies 43 = .ok (.aload_n 0, 1) := by decide +kernel
theorem dX7_flies_44 : decode cX7_flies 44 = .ok (.getfield 7, 3) := by decide +kernel
theorem dX7_flies_47 : decode cX7_flies 47 = .ok (.iconst 2, 1) := by decide +kernel
theorem dX7_flies_48 : decode cX7_flies 48 = .ok (.iaload, 1) := by decide +kernel
theorem dX7_flies_49 : decode cX7_flies 49 = .ok (.iload_n 1, 1) := by decide +kernel
theorem dX7_flies_50 : decode cX7_flies 50 = .ok (.iadd, 1) := by decide +kernel
theorem dX7_flies_51 : decode cX7_flies 51 = .ok (.bipush 20, 2) := by decide +kernel
theorem dX7_flies_53 : decode cX7_flies 53 = .ok (.if_icmp .le 6, 3) := by decide +kernel
theorem dX7_flies_56 : decode cX7_flies 56 = .ok (.bipush (-3), 2) := by decide +kernel
theorem dX7_flies_58 : decode cX7_flies 58 = .ok (.ireturn, 1) := by decide +kernel
theorem dX7_flies_59 : decode cX7_flies 59 = .ok (.bipush 23, 2) := by decide +kernel
theorem dX7_flies_61 : decode cX7_flies 61 = .ok (.istore_n 2, 1) := by decide +kernel
theorem dX7_flies_62 : decode cX7_flies 62 = .ok (.iload_n 2, 1) := by decide +kernel
theorem dX7_flies_63 : decode cX7_flies 63 = .ok (.bipush 23, 2) := by decide +kernel
theorem dX7_flies_65 : decode cX7_flies 65 = .ok (.iconst 3, 1) := by decide +kernel
theorem dX7_flies_66 : decode cX7_flies 66 = .ok (.iload_n 1, 1) := by decide +kernel
theorem dX7_flies_67 : decode cX7_flies 67 = .ok (.imul, 1) := by decide +kernel
theorem dX7_flies_68 : decode cX7_flies 68 = .ok (.iadd, 1) := by decide +kernel
theorem dX7_flies_69 : decode cX7_flies 69 = .ok (.if_icmp .ge 42, 3) := by decide +kernel
theorem dX7_flies_72 : decode cX7_flies 72 = .ok (.aload_n 0, 1) := by decide +kernel
theorem dX7_flies_73 : decode cX7_flies 73 = .ok (.aload_n 0, 1) := by decide +kernel
theorem dX7_flies_74 : decode cX7_flies 74 = .ok (.getfield 7, 3) := by decide +kernel
theorem dX7_flies_77 : decode cX7_flies 77 = .ok (.iload_n 2, 1) := by decide +kernel
theorem dX7_flies_78 : decode cX7_flies 78 = .ok (.iaload, 1) := by decide +kernel
theorem dX7_flies_79 : decode cX7_flies 79 = .ok (.aload_n 0, 1) := by decide +kernel
theorem dX7_flies_80 : decode cX7_flies 80 = .ok (.getfield 7, 3) := by decide +kernel
theorem dX7_flies_83 : decode cX7_flies 83 = .ok (.iload_n 2, 1) := by decide +kernel
theorem dX7_flies_84 : decode cX7_flies 84 = .ok (.iconst 1, 1) := by decide +kernel
theorem dX7_flies_85 : decode cX7_flies 85 = .ok (.iadd, 1) := by decide +kernel
theorem dX7_flies_86 : decode cX7_flies 86 = .ok (.iaload, 1) := by decide +kernel
theorem dX7_flies_87 : decode cX7_flies 87 = .ok (.aload_n 0, 1) := by decide +kernel
theorem dX7_flies_88 : decode cX7_flies 88 = .ok (.getfield 7, 3) := by decide +kernel
theorem dX7_flies_91 : decode cX7_flies 91 = .ok (.iconst 0, 1) := by decide +kernel
theorem dX7_flies_92 : decode cX7_flies 92 = .ok (.iaload, 1) := by decide +kernel
theorem dX7_flies_93 : decode cX7_flies 93 = .ok (.aload_n 0, 1) := by decide +kernel
theorem dX7_flies_94 : decode cX7_flies 94 = .ok (.getfield 7, 3) := by decide +kernel
theorem dX7_flies_97 : decode cX7_flies 97 = .ok (.iload_n 2, 1) := by decide +kernel
theorem dX7_flies_98 : decode cX7_flies 98 = .ok (.iconst 2, 1) := by decide +kernel
theorem dX7_flies_99 : decode cX7_flies 99 = .ok (.iadd, 1) := by decide +kernel
theorem dX7_flies_100 : decode cX7_flies 100 = .ok (.iaload, 1) := by decide +kernel
theorem dX7_flies_101 : decode cX7_flies 101 = .ok (.iadd, 1) := by decide +kernel
theorem dX7_flies_102 : decode cX7_flies 102 = .ok (.invokevirtual 103, 3) := by decide +kernel
theorem dX7_flies_105 : decode cX7_flies 105 = .ok (.iinc 2 3, 3) := by decide +kernel
theorem dX7_flies_108 : decode cX7_flies 108 = .ok (.goto (-46), 3) := by decide +kernel
theorem dX7_flies_111 : decode cX7_flies 111 = .ok (.iconst 0, 1) := by decide +kernel
theorem dX7_flies_112 : decode cX7_flies 112 = .ok (.istore_n 2, 1) := by decide +kernel
theorem dX7_flies_113 : decode cX7_flies 113 = .ok (.iload_n 2, 1) := by decide +kernel
theorem dX7_flies_114 : decode cX7_flies 114 = .ok (.bipush 18, 2) := by decide +kernel
theorem dX7_flies_116 : decode cX7_flies 116 = .ok (.if_icmp .ge 19, 3) := by decide +kernel
theorem dX7_flies_119 : decode cX7_flies 119 = .ok (.aload_n 0, 1) := by decide +kernel
theorem dX7_flies_120 : decode cX7_flies 120 = .ok (.getfield 7, 3) := by decide +kernel
theorem dX7_flies_123 : decode cX7_flies 123 = .ok (.bipush 23, 2) := by decide +kernel
theorem dX7_flies_125 : decode cX7_flies 125 = .ok (.iload_n 2, 1) := by decide +kernel
theorem dX7_flies_126 : decode cX7_flies 126 = .ok (.iadd, 1) := by decide +kernel
theorem dX7_flies_127 : decode cX7_flies 127 = .ok (.iconst 0, 1) := by decide +kernel
theorem dX7_flies_128 : decode cX7_flies 128 = .ok (.iastore, 1) := by decide +kernel
theorem dX7_flies_129 : decode cX7_flies 129 = .ok (.iinc 2 1, 3) := by decide +kernel
theorem dX7_flies_132 : decode cX7_flies 132 = .ok (.goto (-19), 3) := by decide +kernel
theorem dX7_flies_135 : decode cX7_flies 135 = .ok (.aload_n 0, 1) := by decide +kernel
theorem dX7_flies_136 : decode cX7_flies 136 = .ok (.getfield 7, 3) := by decide +kernel
theorem dX7_flies_139 : decode cX7_flies 139 = .ok (.iconst 3, 1) := by decide +kernel
theorem dX7_flies_140 : decode cX7_flies 140 = .ok (.iconst 0, 1) := by decide +kernel
theorem dX7_flies_141 : decode cX7_flies 141 = .ok (.iastore, 1) := by decide +kernel
theorem dX7_flies_142 : decode cX7_flies 142 = .ok (.aload_n 0, 1) := by decide +kernel
theorem dX7_flies_143 : decode cX7_flies 143 = .ok (.getfield 7, 3) := by decide +kernel
theorem dX7_flies_146 : decode cX7_flies 146 = .ok (.iconst 1, 1) := by decide +kernel
theorem dX7_flies_147 : decode cX7_flies 147 = .ok (.dup2, 1) := by decide +kernel
theorem dX7_flies_148 : decode cX7_flies 148 = .ok (.iaload, 1) := by decide +kernel
theorem dX7_flies_149 : decode cX7_flies 149 = .ok (.iconst 1, 1) := by decide +kernel
theorem dX7_flies_150 : decode cX7_flies 150 = .ok (.iadd, 1) := by decide +kernel
theorem dX7_flies_151 : decode cX7_flies 151 = .ok (.iastore, 1) := by decide +kernel
theorem dX7_flies_152 : decode cX7_flies 152 = .ok (.iload_n 1, 1) := by decide +kernel
theorem dX7_flies_153 : decode cX7_flies 153 = .ok (.ireturn, 1) := by decide +kernel
set_option maxRecDepth 20000 in
theorem ggX7_isStay_X7_in : GoodIn wsX7_isStay wsX7_in := goodIn_r _ [5] (by decide +kernel) (by decide +kernel)
set_option maxRecDepth 20000 in
theorem gX7_isStay_X7_in : GoodIn wsX7_isStay (va_wsS RX7 50 yX7_in wsX7_in) := goodIn_app (goodIn_of _ (by decide +kernel)) ggX7_isStay_X7_in
theorem dX7_isStay_0 : decode cX7_isStay 0 = .ok (.iload_n 1, 1) := by decide +kernel
theorem dX7_isStay_1 : decode cX7_isStay 1 = .ok (.aload_n 0, 1) := by decide +kernel
theorem dX7_isStay_2 : decode cX7_isStay 2 = .ok (.getfield 7, 3) := by decide +kernel
theorem dX7_isStay_5 : decode cX7_isStay 5 = .ok (.iconst 0, 1) := by decide +kernel
theorem dX7_isStay_6 : decode cX7_isStay 6 = .ok (.iaload, 1) := by decide +kernel
theorem dX7_isStay_7 : decode cX7_isStay 7 = .ok (.sipush 365, 3) := by decide +kernel
theorem dX7_isStay_10 : decode cX7_isStay 10 = .ok (.invokestatic 50, 3) := by decide +kernel
theorem dX7_isStay_13 : decode cX7_isStay 13 = .ok (.ifCond .eq 17, 3) := by decide +kernel
theorem dX7_isStay_16 : decode cX7_isStay 16 = .ok (.iload_n 2, 1) := by decide +kernel
theorem dX7_isStay_17 : decode cX7_isStay 17 = .ok (.iconst 1, 1) := by decide +kernel
theorem dX7_isStay_18 : decode cX7_isStay 18 = .ok (.bipush 9, 2) := by decide +kernel
theorem dX7_isStay_20 : decode cX7_isStay 20 = .ok (.invokestatic 50, 3) := by decide +kernel
theorem dX7_isStay_23 : decode cX7_isStay 23 = .ok (.ifCond .eq 7, 3) := by decide +kernel
theorem dX7_isStay_26 : decode cX7_isStay 26 = .ok (.iconst 1, 1) := by decide +kernel
theorem dX7_isStay_27 : decode cX7_isStay 27 = .ok (.goto 4, 3) := by decide +kernel
theorem dX7_isStay_30 : decode cX7_isStay 30 = .ok (.iconst 0, 1) := by decide +kernel
theorem dX7_isStay_31 : decode cX7_isStay 31 = .ok (.ireturn, 1) := by decide +kernel
set_option maxRecDepth 20000 in
theorem ggX7_books_X7_in : GoodIn wsX7_books wsX7_in := goodIn_r _ [5] (by decide +kernel) (by decide +kernel)
set_option maxRecDepth 20000 in
theorem gX7_books_X7_in : GoodIn wsX7_books (va_wsS RX7 50 yX7_in wsX7_in) := goodIn_app (goodIn_of _ (by decide +kernel)) ggX7_books_X7_in
set_option maxRecDepth 20000 in
theorem ggX7_books_X7_isStay : GoodIn wsX7_books wsX7_isStay := goodIn_r _ [9, 1, 2, 3, 4, 5, 87, 88, 89, 90, 91, 92, 93, 94, 95, 96, 97, 98, 99, 100] (by decide +kernel) (by decide +kernel)
set_option maxRecDepth 20000 in
theorem gX7_books_X7_isStay : GoodIn wsX7_books (wsV RX7 106 RX7 yX7_isStay wsX7_isStay) := goodIn_app (goodIn_of _ (by decide +kernel)) ggX7_books_X7_isStay
set_option maxRecDepth 20000 in
theorem ggX7_books_X7_isTaken : GoodIn wsX7_books wsX7_isTaken := goodIn_r _ [13, 14, 1, 15, 16, 17, 4, 18, 19, 20, 21, 22, 23, 24, 25, 26, 27, 28, 29, 30, 31, 32, 33, 34, 35, 36, 37, 38, 39, 40, 41, 42, 43, 44, 45, 46, 47, 48, 49, 50, 51, 52, 53, 54, 55, 56, 57, 58, 59, 60, 61, 62, 63, 64, 65, 66, 67, 68, 69, 70, 71, 72, 73, 74, 75, 76, 77, 78, 79, 80, 81, 82, 83, 84, 85, 86, 87, 88, 89, 90, 91, 92, 93, 94, 95, 96, 97, 98, 99, 100] (by decide +kernel) (by decide +kernel)
set_option maxRecDepth 20000 in
theorem gX7_books_X7_isTaken : GoodIn wsX7_books (wsV RX7 110 RX7 yX7_isTaken wsX7_isTaken) := goodIn_app (goodIn_of _ (by decide +kernel)) ggX7_books_X7_isTaken
set_option maxRecDepth 20000 in
theorem ggX7_books_X7_adds : GoodIn wsX7_books wsX7_adds := goodIn_r _ [18, 1, 19, 20, 21, 4, 22, 87, 88, 89, 90, 91, 92, 93, 94, 95, 96, 97, 98, 99, 100] (by decide +kernel) (by decide +kernel)
set_option maxRecDepth 20000 in
theorem gX7_books_X7_adds : GoodIn wsX7_books (wsV RX7 93 RX7 yX7_adds wsX7_adds) := goodIn_app (goodIn_of _ (by decide +kernel)) ggX7_books_X7_adds
theorem dX7_books_0 : decode cX7_books 0 = .ok (.iload_n 1, 1) := by decide +kernel
theorem dX7_books_1 : decode cX7_books 1 = .ok (.iconst 1, 1) := by decide +kernel
theorem dX7_books_2 : decode cX7_books 2 = .ok (.bipush 6, 2) := by decide +kernel
theorem dX7_books_4 : decode cX7_books 4 = .ok (.invokestatic 50, 3) := by decide +kernel
theorem dX7_books_7 : decode cX7_books 7 = .ok (.ifCond .eq 12, 3) := by decide +kernel
theorem dX7_books_10 : decode cX7_books 10 = .ok (.aload_n 0, 1) := by decide +kernel
theorem dX7_books_11 : decode cX7_books 11 = .ok (.iload_n 2, 1) := by decide +kernel
theorem dX7_books_12 : decode cX7_books 12 = .ok (.iload_n 3, 1) := by decide +kernel
theorem dX7_books_13 : decode cX7_books 13 = .ok (.invokevirtual 106, 3) := by decide +kernel
theorem dX7_books_16 : decode cX7_books 16 = .ok (.ifCond .ne 5, 3) := by decide +kernel
theorem dX7_books_19 : decode cX7_books 19 = .ok (.iconst (-1), 1) := by decide +kernel
theorem dX7_books_20 : decode cX7_books 20 = .ok (.ireturn, 1) := by decide +kernel
theorem dX7_books_21 : decode cX7_books 21 = .ok (.aload_n 0, 1) := by decide +kernel
theorem dX7_books_22 : decode cX7_books 22 = .ok (.iload_n 1, 1) := by decide +kernel
theorem dX7_books_23 : decode cX7_books 23 = .ok (.iload_n 2, 1) := by decide +kernel
theorem dX7_books_24 : decode cX7_books 24 = .ok (.iload_n 3, 1) := by decide +kernel
theorem dX7_books_25 : decode cX7_books 25 = .ok (.invokevirtual 110, 3) := by decide +kernel
theorem dX7_books_28 : decode cX7_books 28 = .ok (.ifCond .ne 6, 3) := by decide +kernel
theorem dX7_books_31 : decode cX7_books 31 = .ok (.bipush (-2), 2) := by decide +kernel
theorem dX7_books_33 : decode cX7_books 33 = .ok (.ireturn, 1) := by decide +kernel
theorem dX7_books_34 : decode cX7_books 34 = .ok (.aload_n 0, 1) := by decide +kernel
theorem dX7_books_35 : decode cX7_books 35 = .ok (.getfield 7, 3) := by decide +kernel
theorem dX7_books_38 : decode cX7_books 38 = .ok (.iconst 4, 1) := by decide +kernel
theorem dX7_books_39 : decode cX7_books 39 = .ok (.iaload, 1) := by decide +kernel
theorem dX7_books_40 : decode cX7_books 40 = .ok (.bipush 16, 2) := by decide +kernel
theorem dX7_books_42 : decode cX7_books 42 = .ok (.if_icmp .ne 6, 3) := by decide +kernel
theorem dX7_books_45 : decode cX7_books 45 = .ok (.bipush (-3), 2) := by decide +kernel
theorem dX7_books_47 : decode cX7_books 47 = .ok (.ireturn, 1) := by decide +kernel
theorem dX7_books_48 : decode cX7_books 48 = .ok (.aload_n 0, 1) := by decide +kernel
theorem dX7_books_49 : decode cX7_books 49 = .ok (.iload_n 1, 1) := by decide +kernel
theorem dX7_books_50 : decode cX7_books 50 = .ok (.iload_n 2, 1) := by decide +kernel
theorem dX7_books_51 : decode cX7_books 51 = .ok (.iload_n 3, 1) := by decide +kernel
theorem dX7_books_52 : decode cX7_books 52 = .ok (.invokevirtual 93, 3) := by decide +kernel
theorem dX7_books_55 : decode cX7_books 55 = .ok (.aload_n 0, 1) := by decide +kernel
theorem dX7_books_56 : decode cX7_books 56 = .ok (.getfield 7, 3) := by decide +kernel
theorem dX7_books_59 : decode cX7_books 59 = .ok (.iconst 4, 1) := by decide +kernel
theorem dX7_books_60 : decode cX7_books 60 = .ok (.iaload, 1) := by decide +kernel
theorem dX7_books_61 : decode cX7_books 61 = .ok (.iconst 1, 1) := by decide +kernel
theorem dX7_books_62 : decode cX7_books 62 = .ok (.isub, 1) := by decide +kernel
theorem dX7_books_63 : decode cX7_books 63 = .ok (.ireturn, 1) := by decide +kernel
set_option maxRecDepth 20000 in
theorem ggX7_cancels_X7_isParty : GoodIn wsX7_cancels wsX7_isParty := goodIn_r _ [5, 6, 7, 8, 4, 9, 22, 23, 24, 25, 26, 27, 28, 29, 30, 31, 32, 33, 34, 35] (by decide +kernel) (by decide +kernel)
set_option maxRecDepth 20000 in
theorem gX7_cancels_X7_isParty : GoodIn wsX7_cancels (wsV RX7 113 RX7 yX7_isParty wsX7_isParty) := goodIn_app (goodIn_of _ (by decide +kernel)) ggX7_cancels_X7_isParty
set_option maxRecDepth 20000 in
theorem ggX7_cancels_X7_ofParty : GoodIn wsX7_cancels wsX7_ofParty := goodIn_r _ [13, 6, 22, 23, 24, 25, 26, 27, 28, 29, 30, 31, 32, 33, 34, 35] (by decide +kernel) (by decide +kernel)
set_option maxRecDepth 20000 in
theorem gX7_cancels_X7_ofParty : GoodIn wsX7_cancels (wsV RX7 54 RX7 yX7_ofParty wsX7_ofParty) := goodIn_app (goodIn_of _ (by decide +kernel)) ggX7_cancels_X7_ofParty
set_option maxRecDepth 20000 in
theorem ggX7_cancels_X7_setParty : GoodIn wsX7_cancels wsX7_setParty := goodIn_r _ [17, 6, 22, 23, 24, 25, 26, 27, 28, 29, 30, 31, 32, 33, 34, 35] (by decide +kernel) (by decide +kernel)
set_option maxRecDepth 20000 in
theorem gX7_cancels_X7_setParty : GoodIn wsX7_cancels (wsV RX7 60 RX7 yX7_setParty wsX7_setParty) := goodIn_app (goodIn_of _ (by decide +kernel)) ggX7_cancels_X7_setParty
set_option maxRecDepth 20000 in
theorem ggX7_cancels_X7_partiesOf : GoodIn wsX7_cancels wsX7_partiesOf := goodIn_r _ [21, 6, 10, 11, 12, 4, 13, 22, 23, 24, 25, 26, 27, 28, 29, 30, 31, 32, 33, 34, 35] (by decide +kernel) (by decide +kernel)
set_option maxRecDepth 20000 in
theorem gX7_cancels_X7_partiesOf : GoodIn wsX7_cancels (wsV RX7 57 RX7 yX7_partiesOf wsX7_partiesOf) := goodIn_app (goodIn_of _ (by decide +kernel)) ggX7_cancels_X7_partiesOf
theorem dX7_cancels_0 : decode cX7_cancels 0 = .ok (.aload_n 0, 1) := by decide +kernel
theorem dX7_cancels_1 : decode cX7_cancels 1 = .ok (.iload_n 1, 1) := by decide +kernel
theorem dX7_cancels_2 : decode cX7_cancels 2 = .ok (.invokevirtual 113, 3) := by decide +kernel
theorem dX7_cancels_5 : decode cX7_cancels 5 = .ok (.ifCond .ne 5, 3) := by decide +kernel
theorem dX7_cancels_8 : decode cX7_cancels 8 = .ok (.iconst (-1), 1) := by decide +kernel
theorem dX7_cancels_9 : decode cX7_cancels 9 = .ok (.ireturn, 1) := by decide +kernel
theorem dX7_cancels_10 : decode cX7_cancels 10 = .ok (.aload_n 0, 1) := by decide +kernel
theorem dX7_cancels_11 : decode cX7_cancels 11 = .ok (.iload_n 1, 1) := by decide +kernel
theorem dX7_cancels_12 : decode cX7_cancels 12 = .ok (.iconst 3, 1) := by decide +kernel
theorem dX7_cancels_13 : decode cX7_cancels 13 = .ok (.invokevirtual 54, 3) := by decide +kernel
theorem dX7_cancels_16 : decode cX7_cancels 16 = .ok (.ifCond .eq 6, 3) := by decide +kernel
theorem dX7_cancels_19 : decode cX7_cancels 19 = .ok (.bipush (-2), 2) := by decide +kernel
theorem dX7_cancels_21 : decode cX7_cancels 21 = .ok (.ireturn, 1) := by decide +kernel
theorem dX7_cancels_22 : decode cX7_cancels 22 = .ok (.aload_n 0, 1) := by decide +kernel
theorem dX7_cancels_23 : decode cX7_cancels 23 = .ok (.iload_n 1, 1) := by decide +kernel
theorem dX7_cancels_24 : decode cX7_cancels 24 = .ok (.iconst 3, 1) := by decide +kernel
theorem dX7_cancels_25 : decode cX7_cancels 25 = .ok (.iconst 3, 1) := by decide +kernel
theorem dX7_cancels_26 : decode cX7_cancels 26 = .ok (.invokevirtual 60, 3) := by decide +kernel
theorem dX7_cancels_29 : decode cX7_cancels 29 = .ok (.aload_n 0, 1) := by decide +kernel
theorem dX7_cancels_30 : decode cX7_cancels 30 = .ok (.iconst 0, 1) := by decide +kernel
theorem dX7_cancels_31 : decode cX7_cancels 31 = .ok (.invokevirtual 57, 3) := by decide +kernel
theorem dX7_cancels_34 : decode cX7_cancels 34 = .ok (.ireturn, 1) := by decide +kernel
theorem dX7_stormsAhead_0 : decode cX7_stormsAhead 0 = .ok (.iconst 0, 1) := by decide +kernel
theorem dX7_stormsAhead_1 : decode cX7_stormsAhead 1 = .ok (.istore_n 1, 1) := by decide +kernel
theorem dX7_stormsAhead_2 : decode cX7_stormsAhead 2 = .ok (.aload_n 0, 1) := by decide +kernel
theorem dX7_stormsAhead_3 : decode cX7_stormsAhead 3 = .ok (.getfield 7, 3) := by decide +kernel
theorem dX7_stormsAhead_6 : decode cX7_stormsAhead 6 = .ok (.iconst 0, 1) := by decide +kernel
theorem dX7_stormsAhead_7 : decode cX7_stormsAhead 7 = .ok (.iaload, 1) := by decide +kernel
theorem dX7_stormsAhead_8 : decode cX7_stormsAhead 8 = .ok (.istore_n 2, 1) := by decide +kernel
theorem dX7_stormsAhead_9 : decode cX7_stormsAhead 9 = .ok (.iload_n 2, 1) := by decide +kernel
theorem dX7_stormsAhead_10 : decode cX7_stormsAhead 10 = .ok (.sipush 396, 3) := by decide +kernel
theorem dX7_stormsAhead_13 : decode cX7_stormsAhead 13 = .ok (.if_icmp .ge 22, 3) := by decide +kernel
theorem dX7_stormsAhead_16 : decode cX7_stormsAhead 16 = .ok (.iload_n 1, 1) := by decide +kernel
theorem dX7_stormsAhead_17 : decode cX7_stormsAhead 17 = .ok (.aload_n 0, 1) := by decide +kernel
theorem dX7_stormsAhead_18 : decode cX7_stormsAhead 18 = .ok (.getfield 7, 3) := by decide +kernel
theorem dX7_stormsAhead_21 : decode cX7_stormsAhead 21 = .ok (.sipush 203, 3) := by decide +kernel
theorem dX7_stormsAhead_24 : decode cX7_stormsAhead 24 = .ok (.iload_n 2, 1) := by decide +kernel
theorem dX7_stormsAhead_25 : decode cX7_stormsAhead 25 = .ok (.iadd, 1) := by decide +kernel
theorem dX7_stormsAhead_26 : decode cX7_stormsAhead 26 = .ok (.iaload, 1) := by decide +kernel
theorem dX7_stormsAhead_27 : decode cX7_stormsAhead 27 = .ok (.iadd, 1) := by decide +kernel
theorem dX7_stormsAhead_28 : decode cX7_stormsAhead 28 = .ok (.istore_n 1, 1) := by decide +kernel
theorem dX7_stormsAhead_29 : decode cX7_stormsAhead 29 = .ok (.iinc 2 1, 3) := by decide +kernel
theorem dX7_stormsAhead_32 : decode cX7_stormsAhead 32 = .ok (.goto (-23), 3) := by decide +kernel
theorem dX7_stormsAhead_35 : decode cX7_stormsAhead 35 = .ok (.iload_n 1, 1) := by decide +kernel
theorem dX7_stormsAhead_36 : decode cX7_stormsAhead 36 = .ok (.ireturn, 1) := by decide +kernel
set_option maxRecDepth 20000 in
theorem ggX7_storms_X7_in : GoodIn wsX7_storms wsX7_in := goodIn_r _ [5] (by decide +kernel) (by decide +kernel)
set_option maxRecDepth 20000 in
theorem gX7_storms_X7_in : GoodIn wsX7_storms (va_wsS RX7 50 yX7_in wsX7_in) := goodIn_app (goodIn_of _ (by decide +kernel)) ggX7_storms_X7_in
set_option maxRecDepth 20000 in
theorem ggX7_storms_X7_stormsAhead : GoodIn wsX7_storms wsX7_stormsAhead := goodIn_r _ [9, 1, 10, 11, 12, 13, 14, 15, 16, 17, 18, 19, 20, 21, 22, 23] (by decide +kernel) (by decide +kernel)
set_option maxRecDepth 20000 in
theorem gX7_storms_X7_stormsAhead : GoodIn wsX7_storms (wsV RX7 116 RX7 yX7_stormsAhead wsX7_stormsAhead) := goodIn_app (goodIn_of _ (by decide +kernel)) ggX7_storms_X7_stormsAhead
theorem dX7_storms_0 : decode cX7_storms 0 = .ok (.iload_n 1, 1) := by decide +kernel
theorem dX7_storms_1 : decode cX7_storms 1 = .ok (.aload_n 0, 1) := by decide +kernel
theorem dX7_storms_2 : decode cX7_storms 2 = .ok (.getfield 7, 3) := by decide +kernel
theorem dX7_storms_5 : decode cX7_storms 5 = .ok (.iconst 0, 1) := by decide +kernel
theorem dX7_storms_6 : decode cX7_storms 6 = .ok (.iaload, 1) := by decide +kernel
theorem dX7_storms_7 : decode cX7_storms 7 = .ok (.sipush 365, 3) := by decide +kernel
theorem dX7_storms_10 : decode cX7_storms 10 = .ok (.invokestatic 50, 3) := by decide +kernel
theorem dX7_storms_13 : decode cX7_storms 13 = .ok (.ifCond .eq 13, 3) := by decide +kernel
theorem dX7_storms_16 : decode cX7_storms 16 = .ok (.iload_n 2, 1) := by decide +kernel
theorem dX7_storms_17 : decode cX7_storms 17 = .ok (.iconst 1, 1) := by decide +kernel
theorem dX7_storms_18 : decode cX7_storms 18 = .ok (.bipush 30, 2) := by decide +kernel
theorem dX7_storms_20 : decode cX7_storms 20 = .ok (.invokestatic 50, 3) := by decide +kernel
theorem dX7_storms_23 : decode cX7_storms 23 = .ok (.ifCond .ne 5, 3) := by decide +kernel
theorem dX7_storms_26 : decode cX7_storms 26 = .ok (.iconst (-1), 1) := by decide +kernel
theorem dX7_storms_27 : decode cX7_storms 27 = .ok (.ireturn, 1) := by decide +kernel
theorem dX7_storms_28 : decode cX7_storms 28 = .ok (.iconst 0, 1) := by decide +kernel
theorem dX7_storms_29 : decode cX7_storms 29 = .ok (.istore_n 3, 1) := by decide +kernel
theorem dX7_storms_30 : decode cX7_storms 30 = .ok (.iload_n 3, 1) := by decide +kernel
theorem dX7_storms_31 : decode cX7_storms 31 = .ok (.iload_n 2, 1) := by decide +kernel
theorem dX7_storms_32 : decode cX7_storms 32 = .ok (.if_icmp .ge 22, 3) := by decide +kernel
theorem dX7_storms_35 : decode cX7_storms 35 = .ok (.aload_n 0, 1) := by decide +kernel
theorem dX7_storms_36 : decode cX7_storms 36 = .ok (.getfield 7, 3) := by decide +kernel
theorem dX7_storms_39 : decode cX7_storms 39 = .ok (.sipush 203, 3) := by decide +kernel
theorem dX7_storms_42 : decode cX7_storms 42 = .ok (.iload_n 1, 1) := by decide +kernel
theorem dX7_storms_43 : decode cX7_storms 43 = .ok (.iadd, 1) := by decide +kernel
theorem dX7_storms_44 : decode cX7_storms 44 = .ok (.iload_n 3, 1) := by decide +kernel
theorem dX7_storms_45 : decode cX7_storms 45 = .ok (.iadd, 1) := by decide +kernel
theorem dX7_storms_46 : decode cX7_storms 46 = .ok (.iconst 1, 1) := by decide +kernel
theorem dX7_storms_47 : decode cX7_storms 47 = .ok (.iastore, 1) := by decide +kernel
theorem dX7_storms_48 : decode cX7_storms 48 = .ok (.iinc 3 1, 3) := by decide +kernel
theorem dX7_storms_51 : decode cX7_storms 51 = .ok (.goto (-21), 3) := by decide +kernel
theorem dX7_storms_54 : decode cX7_storms 54 = .ok (.aload_n 0, 1) := by decide +kernel
theorem dX7_storms_55 : decode cX7_storms 55 = .ok (.invokevirtual 116, 3) := by decide +kernel
theorem dX7_storms_58 : decode cX7_storms 58 = .ok (.istore_n 3, 1) := by decide +kernel
theorem dX7_storms_59 : decode cX7_storms 59 = .ok (.iload_n 3, 1) := by decide +kernel
theorem dX7_storms_60 : decode cX7_storms 60 = .ok (.bipush 40, 2) := by decide +kernel
theorem dX7_storms_62 : decode cX7_storms 62 = .ok (.if_icmp .le 8, 3) := by decide +kernel
theorem dX7_storms_65 : decode cX7_storms 65 = .ok (.bipush (-3), 2) := by decide +kernel
theorem dX7_storms_67 : decode cX7_storms 67 = .ok (.goto 4, 3) := by decide +kernel
theorem dX7_storms_70 : decode cX7_storms 70 = .ok (.iload_n 3, 1) := by decide +kernel
theorem dX7_storms_71 : decode cX7_storms 71 = .ok (.ireturn, 1) := by decide +kernel
set_option maxRecDepth 20000 in
theorem ggX7_sleeps_X7_in : GoodIn wsX7_sleeps wsX7_in := goodIn_r _ [5] (by decide +kernel) (by decide +kernel)
set_option maxRecDepth 20000 in
theorem gX7_sleeps_X7_in : GoodIn wsX7_sleeps (va_wsS RX7 50 yX7_in wsX7_in) := goodIn_app (goodIn_of _ (by decide +kernel)) ggX7_sleeps_X7_in
set_option maxRecDepth 20000 in
theorem ggX7_sleeps_X7_night : GoodIn wsX7_sleeps wsX7_night := goodIn_r _ [9, 1, 10, 11, 12, 4, 13, 14, 15, 16, 17, 18, 19, 20, 21, 22, 23, 24, 25, 26, 27, 28, 29, 30, 31, 32, 33, 34, 35, 36, 37, 38, 39, 40, 41, 42, 43, 44, 45, 46, 47, 48, 49, 50, 51, 52, 53, 54, 55, 56, 57, 58, 59, 60, 61, 62, 63, 64, 65, 66, 67, 68, 69, 70, 71, 72, 73, 74, 75, 76, 77, 78, 79] (by decide +kernel) (by decide +kernel)
set_option maxRecDepth 20000 in
theorem gX7_sleeps_X7_night : GoodIn wsX7_sleeps (wsV RX7 100 RX7 yX7_night wsX7_night) := goodIn_app (goodIn_of _ (by decide +kernel)) ggX7_sleeps_X7_night
theorem dX7_sleeps_0 : decode cX7_sleeps 0 = .ok (.iload_n 1, 1) := by decide +kernel
theorem dX7_sleeps_1 : decode cX7_sleeps 1 = .ok (.iconst 1, 1) := by decide +kernel
theorem dX7_sleeps_2 : decode cX7_sleeps 2 = .ok (.bipush 60, 2) := by decide +kernel
theorem dX7_sleeps_4 : decode cX7_sleeps 4 = .ok (.invokestatic 50, 3) := by decide +kernel
theorem dX7_sleeps_7 : decode cX7_sleeps 7 = .ok (.ifCond .ne 5, 3) := by decide +kernel
theorem dX7_sleeps_10 : decode cX7_sleeps 10 = .ok (.iconst (-1), 1) := by decide +kernel
theorem dX7_sleeps_11 : decode cX7_sleeps 11 = .ok (.ireturn, 1) := by decide +kernel
theorem dX7_sleeps_12 : decode cX7_sleeps 12 = .ok (.aload_n 0, 1) := by decide +kernel
theorem dX7_sleeps_13 : decode cX7_sleeps 13 = .ok (.getfield 7, 3) := by decide +kernel
theorem dX7_sleeps_16 : decode cX7_sleeps 16 = .ok (.iconst 0, 1) := by decide +kernel
theorem dX7_sleeps_17 : decode cX7_sleeps 17 = .ok (.iaload, 1) := by decide +kernel
theorem dX7_sleeps_18 : decode cX7_sleeps 18 = .ok (.iload_n 1, 1) := by decide +kernel
theorem dX7_sleeps_19 : decode cX7_sleeps 19 = .ok (.iadd, 1) := by decide +kernel
theorem dX7_sleeps_20 : decode cX7_sleeps 20 = .ok (.sipush 365, 3) := by decide +kernel
theorem dX7_sleeps_23 : decode cX7_sleeps 23 = .ok (.if_icmp .le 6, 3) := by decide +kernel
theorem dX7_sleeps_26 : decode cX7_sleeps 26 = .ok (.bipush (-3), 2) := by decide +kernel
theorem dX7_sleeps_28 : decode cX7_sleeps 28 = .ok (.ireturn, 1) := by decide +kernel
theorem dX7_sleeps_29 : decode cX7_sleeps 29 = .ok (.aload_n 0, 1) := by decide +kernel
theorem dX7_sleeps_30 : decode cX7_sleeps 30 = .ok (.getfield 7, 3) := by decide +kernel
theorem dX7_sleeps_33 : decode cX7_sleeps 33 = .ok (.iconst 5, 1) := by decide +kernel
theorem dX7_sleeps_34 : decode cX7_sleeps 34 = .ok (.iaload, 1) := by decide +kernel
theorem dX7_sleeps_35 : decode cX7_sleeps 35 = .ok (.istore_n 2, 1) := by decide +kernel
theorem dX7_sleeps_36 : decode cX7_sleeps 36 = .ok (.iconst 0, 1) := by decide +kernel
theorem dX7_sleeps_37 : decode cX7_sleeps 37 = .ok (.istore_n 3, 1) := by decide +kernel
theorem dX7_sleeps_38 : decode cX7_sleeps 38 = .ok (.iload_n 3, 1) := by decide +kernel
theorem dX7_sleeps_39 : decode cX7_sleeps 39 = .ok (.iload_n 1, 1) := by decide +kernel
theorem dX7_sleeps_40 : decode cX7_sleeps 40 = .ok (.if_icmp .ge 13, 3) := by decide +kernel
theorem dX7_sleeps_43 : decode cX7_sleeps 43 = .ok (.aload_n 0, 1) := by decide +kernel
theorem dX7_sleeps_44 : decode cX7_sleeps 44 = .ok (.invokevirtual 100, 3) := by decide +kernel
theorem dX7_sleeps_47 : decode cX7_sleeps 47 = .ok (.iinc 3 1, 3) := by decide +kernel
theorem dX7_sleeps_50 : decode cX7_sleeps 50 = .ok (.goto (-12), 3) := by decide +kernel
theorem dX7_sleeps_53 : decode cX7_sleeps 53 = .ok (.aload_n 0, 1) := by decide +kernel
theorem dX7_sleeps_54 : decode cX7_sleeps 54 = .ok (.getfield 7, 3) := by decide +kernel
theorem dX7_sleeps_57 : decode cX7_sleeps 57 = .ok (.iconst 5, 1) := by decide +kernel
theorem dX7_sleeps_58 : decode cX7_sleeps 58 = .ok (.iaload, 1) := by decide +kernel
theorem dX7_sleeps_59 : decode cX7_sleeps 59 = .ok (.iload_n 2, 1) := by decide +kernel
theorem dX7_sleeps_60 : decode cX7_sleeps 60 = .ok (.isub, 1) := by decide +kernel
theorem dX7_sleeps_61 : decode cX7_sleeps 61 = .ok (.ireturn, 1) := by decide +kernel
set_option maxRecDepth 20000 in
theorem ggX7_load_X7_begins : GoodIn wsX7_load wsX7_begins := goodIn_r _ [5, 6, 7, 25, 26, 27, 28, 29, 30, 31, 32, 33, 34, 35, 36, 37, 38] (by decide +kernel) (by decide +kernel)
set_option maxRecDepth 20000 in
theorem gX7_load_X7_begins : GoodIn wsX7_load (wsV RX7 119 RX7 yX7_begins wsX7_begins) := goodIn_app (goodIn_of _ (by decide +kernel)) ggX7_load_X7_begins
set_option maxRecDepth 20000 in
theorem ggX7_load_X7_loads : GoodIn wsX7_load wsX7_loads := goodIn_r _ [11, 7, 12, 13, 4, 14, 25, 26, 27, 28, 29, 30, 31, 32, 33, 34, 35, 36, 37, 38] (by decide +kernel) (by decide +kernel)
set_option maxRecDepth 20000 in
theorem gX7_load_X7_loads : GoodIn wsX7_load (wsV RX7 122 RX7 yX7_loads wsX7_loads) := goodIn_app (goodIn_of _ (by decide +kernel)) ggX7_load_X7_loads
set_option maxRecDepth 20000 in
theorem ggX7_load_X7_acted : GoodIn wsX7_load wsX7_acted := goodIn_r _ [18, 19, 20, 6, 21, 22, 23, 4, 24, 7, 25, 26, 27, 28, 29, 30, 31, 32, 33, 34, 35, 36, 37, 38] (by decide +kernel) (by decide +kernel)
set_option maxRecDepth 20000 in
theorem gX7_load_X7_acted : GoodIn wsX7_load (wsV RX7 126 RX7 yX7_acted wsX7_acted) := goodIn_app (goodIn_of _ (by decide +kernel)) ggX7_load_X7_acted
theorem dX7_load_0 : decode cX7_load 0 = .ok (.aload_n 0, 1) := by decide +kernel
theorem dX7_load_1 : decode cX7_load 1 = .ok (.invokevirtual 119, 3) := by decide +kernel
theorem dX7_load_4 : decode cX7_load 4 = .ok (.aload_n 0, 1) := by decide +kernel
theorem dX7_load_5 : decode cX7_load 5 = .ok (.aload_n 0, 1) := by decide +kernel
theorem dX7_load_6 : decode cX7_load 6 = .ok (.iload_n 1, 1) := by decide +kernel
theorem dX7_load_7 : decode cX7_load 7 = .ok (.iload_n 2, 1) := by decide +kernel
theorem dX7_load_8 : decode cX7_load 8 = .ok (.iload_n 3, 1) := by decide +kernel
theorem dX7_load_9 : decode cX7_load 9 = .ok (.invokevirtual 122, 3) := by decide +kernel
theorem dX7_load_12 : decode cX7_load 12 = .ok (.invokevirtual 126, 3) := by decide +kernel
theorem dX7_load_15 : decode cX7_load 15 = .ok (.ireturn, 1) := by decide +kernel
set_option maxRecDepth 20000 in
theorem ggX7_fly_X7_begins : GoodIn wsX7_fly wsX7_begins := goodIn_r _ [5, 6, 7, 34, 35, 36, 37, 38, 39, 40, 41, 42, 43, 44, 45, 46, 47] (by decide +kernel) (by decide +kernel)
set_option maxRecDepth 20000 in
theorem gX7_fly_X7_begins : GoodIn wsX7_fly (wsV RX7 119 RX7 yX7_begins wsX7_begins) := goodIn_app (goodIn_of _ (by decide +kernel)) ggX7_fly_X7_begins
set_option maxRecDepth 20000 in
theorem ggX7_fly_X7_flies : GoodIn wsX7_fly wsX7_flies := goodIn_r _ [11, 7, 12, 13, 14, 4, 15, 16, 17, 18, 19, 20, 21, 22, 23, 34, 35, 36, 37, 38, 39, 40, 41, 42, 43, 44, 45, 46, 47] (by decide +kernel) (by decide +kernel)
set_option maxRecDepth 20000 in
theorem gX7_fly_X7_flies : GoodIn wsX7_fly (wsV RX7 129 RX7 yX7_flies wsX7_flies) := goodIn_app (goodIn_of _ (by decide +kernel)) ggX7_fly_X7_flies
set_option maxRecDepth 20000 in
theorem ggX7_fly_X7_acted : GoodIn wsX7_fly wsX7_acted := goodIn_r _ [27, 28, 29, 6, 30, 31, 32, 4, 33, 7, 34, 35, 36, 37, 38, 39, 40, 41, 42, 43, 44, 45, 46, 47] (by decide +kernel) (by decide +kernel)
set_option maxRecDepth 20000 in
theorem gX7_fly_X7_acted : GoodIn wsX7_fly (wsV RX7 126 RX7 yX7_acted wsX7_acted) := goodIn_app (goodIn_of _ (by decide +kernel)) ggX7_fly_X7_acted
theorem dX7_fly_0 : decode cX7_fly 0 = .ok (.aload_n 0, 1) := by decide +kernel
theorem dX7_fly_1 : decode cX7_fly 1 = .ok (.invokevirtual 119, 3) := by decide +kernel
theorem dX7_fly_4 : decode cX7_fly 4 = .ok (.aload_n 0, 1) := by decide +kernel
theorem dX7_fly_5 : decode cX7_fly 5 = .ok (.aload_n 0, 1) := by decide +kernel
theorem dX7_fly_6 : decode cX7_fly 6 = .ok (.invokevirtual 129, 3) := by decide +kernel
theorem dX7_fly_9 : decode cX7_fly 9 = .ok (.invokevirtual 126, 3) := by decide +kernel
theorem dX7_fly_12 : decode cX7_fly 12 = .ok (.ireturn, 1) := by decide +kernel
set_option maxRecDepth 20000 in
theorem ggX7_book_X7_begins : GoodIn wsX7_book wsX7_begins := goodIn_r _ [5, 6, 7, 106, 107, 108, 109, 110, 111, 112, 113, 114, 115, 116, 117, 118, 119] (by decide +kernel) (by decide +kernel)
set_option maxRecDepth 20000 in
theorem gX7_book_X7_begins : GoodIn wsX7_book (wsV RX7 119 RX7 yX7_begins wsX7_begins) := goodIn_app (goodIn_of _ (by decide +kernel)) ggX7_book_X7_begins
set_option maxRecDepth 20000 in
theorem ggX7_book_X7_books : GoodIn wsX7_book wsX7_books := goodIn_r _ [11, 7, 12, 13, 4, 14, 15, 16, 17, 18, 19, 20, 21, 22, 23, 24, 25, 26, 27, 28, 29, 30, 31, 32, 33, 34, 35, 36, 37, 38, 39, 40, 41, 42, 43, 44, 45, 46, 47, 48, 49, 50, 51, 52, 53, 54, 55, 56, 57, 58, 59, 60, 61, 62, 63, 64, 65, 66, 67, 68, 69, 70, 71, 72, 73, 74, 75, 76, 77, 78, 79, 80, 81, 82, 83, 84, 85, 86, 87, 88, 89, 90, 91, 92, 93, 94, 95, 106, 107, 108, 109, 110, 111, 112, 113, 114, 115, 116, 117, 118, 119] (by decide +kernel) (by decide +kernel)
set_option maxRecDepth 20000 in
theorem gX7_book_X7_books : GoodIn wsX7_book (wsV RX7 132 RX7 yX7_books wsX7_books) := goodIn_app (goodIn_of _ (by decide +kernel)) ggX7_book_X7_books
set_option maxRecDepth 20000 in
theorem ggX7_book_X7_acted : GoodIn wsX7_book wsX7_acted := goodIn_r _ [99, 100, 101, 6, 102, 103, 104, 4, 105, 7, 106, 107, 108, 109, 110, 111, 112, 113, 114, 115, 116, 117, 118, 119] (by decide +kernel) (by decide +kernel)
set_option maxRecDepth 20000 in
theorem gX7_book_X7_acted : GoodIn wsX7_book (wsV RX7 126 RX7 yX7_acted wsX7_acted) := goodIn_app (goodIn_of _ (by decide +kernel)) ggX7_book_X7_acted
theorem dX7_book_0 : decode cX7_book 0 = .ok (.aload_n 0, 1) := by decide +kernel
theorem dX7_book_1 : decode cX7_book 1 = .ok (.invokevirtual 119, 3) := by decide +kernel
theorem dX7_book_4 : decode cX7_book 4 = .ok (.aload_n 0, 1) := by decide +kernel
theorem dX7_book_5 : decode cX7_book 5 = .ok (.aload_n 0, 1) := by decide +kernel
theorem dX7_book_6 : decode cX7_book 6 = .ok (.iload_n 1, 1) := by decide +kernel
theorem dX7_book_7 : decode cX7_book 7 = .ok (.iload_n 2, 1) := by decide +kernel
theorem dX7_book_8 : decode cX7_book 8 = .ok (.iload_n 3, 1) := by decide +kernel
end
section
theorem dX7_book_9 : decode cX7_book 9 = .ok (.invokevirtual 132, 3) := by decide +kernel
theorem dX7_book_12 : decode cX7_book 12 = .ok (.invokevirtual 126, 3) := by decide +kernel
theorem dX7_book_15 : decode cX7_book 15 = .ok (.ireturn, 1) := by decide +kernel
set_option maxRecDepth 20000 in
theorem ggX7_cancel_X7_begins : GoodIn wsX7_cancel wsX7_begins := goodIn_r _ [5, 6, 7, 41, 42, 43, 44, 45, 46, 47, 48, 49, 50, 51, 52, 53, 54] (by decide +kernel) (by decide +kernel)
set_option maxRecDepth 20000 in
theorem gX7_cancel_X7_begins : GoodIn wsX7_cancel (wsV RX7 119 RX7 yX7_begins wsX7_begins) := goodIn_app (goodIn_of _ (by decide +kernel)) ggX7_cancel_X7_begins
set_option maxRecDepth 20000 in
theorem ggX7_cancel_X7_cancels : GoodIn wsX7_cancel wsX7_cancels := goodIn_r _ [11, 12, 13, 14, 4, 15, 7, 16, 17, 18, 19, 20, 21, 22, 23, 24, 25, 26, 27, 28, 29, 30, 41, 42, 43, 44, 45, 46, 47, 48, 49, 50, 51, 52, 53, 54] (by decide +kernel) (by decide +kernel)
set_option maxRecDepth 20000 in
theorem gX7_cancel_X7_cancels : GoodIn wsX7_cancel (wsV RX7 135 RX7 yX7_cancels wsX7_cancels) := goodIn_app (goodIn_of _ (by decide +kernel)) ggX7_cancel_X7_cancels
set_option maxRecDepth 20000 in
theorem ggX7_cancel_X7_acted : GoodIn wsX7_cancel wsX7_acted := goodIn_r _ [34, 35, 36, 6, 37, 38, 39, 4, 40, 7, 41, 42, 43, 44, 45, 46, 47, 48, 49, 50, 51, 52, 53, 54] (by decide +kernel) (by decide +kernel)
set_option maxRecDepth 20000 in
theorem gX7_cancel_X7_acted : GoodIn wsX7_cancel (wsV RX7 126 RX7 yX7_acted wsX7_acted) := goodIn_app (goodIn_of _ (by decide +kernel)) ggX7_cancel_X7_acted
theorem dX7_cancel_0 : decode cX7_cancel 0 = .ok (.aload_n 0, 1) := by decide +kernel
theorem dX7_cancel_1 : decode cX7_cancel 1 = .ok (.invokevirtual 119, 3) := by decide +kernel
theorem dX7_cancel_4 : decode cX7_cancel 4 = .ok (.aload_n 0, 1) := by decide +kernel
theorem dX7_cancel_5 : decode cX7_cancel 5 = .ok (.aload_n 0, 1) := by decide +kernel
theorem dX7_cancel_6 : decode cX7_cancel 6 = .ok (.iload_n 1, 1) := by decide +kernel
theorem dX7_cancel_7 : decode cX7_cancel 7 = .ok (.invokevirtual 135, 3) := by decide +kernel
theorem dX7_cancel_10 : decode cX7_cancel 10 = .ok (.invokevirtual 126, 3) := by decide +kernel
theorem dX7_cancel_13 : decode cX7_cancel 13 = .ok (.ireturn, 1) := by decide +kernel
set_option maxRecDepth 20000 in
theorem ggX7_storm_X7_begins : GoodIn wsX7_storm wsX7_begins := goodIn_r _ [5, 6, 7, 29, 30, 31, 32, 33, 34, 35, 36, 37, 38, 39, 40, 41, 42] (by decide +kernel) (by decide +kernel)
set_option maxRecDepth 20000 in
theorem gX7_storm_X7_begins : GoodIn wsX7_storm (wsV RX7 119 RX7 yX7_begins wsX7_begins) := goodIn_app (goodIn_of _ (by decide +kernel)) ggX7_storm_X7_begins
set_option maxRecDepth 20000 in
theorem ggX7_storm_X7_storms : GoodIn wsX7_storm wsX7_storms := goodIn_r _ [11, 7, 12, 13, 4, 14, 15, 16, 17, 18, 29, 30, 31, 32, 33, 34, 35, 36, 37, 38, 39, 40, 41, 42] (by decide +kernel) (by decide +kernel)
set_option maxRecDepth 20000 in
theorem gX7_storm_X7_storms : GoodIn wsX7_storm (wsV RX7 138 RX7 yX7_storms wsX7_storms) := goodIn_app (goodIn_of _ (by decide +kernel)) ggX7_storm_X7_storms
set_option maxRecDepth 20000 in
theorem ggX7_storm_X7_acted : GoodIn wsX7_storm wsX7_acted := goodIn_r _ [22, 23, 24, 6, 25, 26, 27, 4, 28, 7, 29, 30, 31, 32, 33, 34, 35, 36, 37, 38, 39, 40, 41, 42] (by decide +kernel) (by decide +kernel)
set_option maxRecDepth 20000 in
theorem gX7_storm_X7_acted : GoodIn wsX7_storm (wsV RX7 126 RX7 yX7_acted wsX7_acted) := goodIn_app (goodIn_of _ (by decide +kernel)) ggX7_storm_X7_acted
theorem dX7_storm_0 : decode cX7_storm 0 = .ok (.aload_n 0, 1) := by decide +kernel
theorem dX7_storm_1 : decode cX7_storm 1 = .ok (.invokevirtual 119, 3) := by decide +kernel
theorem dX7_storm_4 : decode cX7_storm 4 = .ok (.aload_n 0, 1) := by decide +kernel
theorem dX7_storm_5 : decode cX7_storm 5 = .ok (.aload_n 0, 1) := by decide +kernel
theorem dX7_storm_6 : decode cX7_storm 6 = .ok (.iload_n 1, 1) := by decide +kernel
theorem dX7_storm_7 : decode cX7_storm 7 = .ok (.iload_n 2, 1) := by decide +kernel
theorem dX7_storm_8 : decode cX7_storm 8 = .ok (.invokevirtual 138, 3) := by decide +kernel
theorem dX7_storm_11 : decode cX7_storm 11 = .ok (.invokevirtual 126, 3) := by decide +kernel
theorem dX7_storm_14 : decode cX7_storm 14 = .ok (.ireturn, 1) := by decide +kernel
set_option maxRecDepth 20000 in
theorem ggX7_clear_X7_begins : GoodIn wsX7_clear wsX7_begins := goodIn_r _ [6, 7, 1, 21, 22, 23, 24, 25, 26, 27, 28, 29, 30, 31, 32, 33, 34] (by decide +kernel) (by decide +kernel)
set_option maxRecDepth 20000 in
theorem gX7_clear_X7_begins : GoodIn wsX7_clear (wsV RX7 119 RX7 yX7_begins wsX7_begins) := goodIn_app (goodIn_of _ (by decide +kernel)) ggX7_clear_X7_begins
set_option maxRecDepth 20000 in
theorem ggX7_clear_X7_in : GoodIn wsX7_clear wsX7_in := goodIn_r _ [10] (by decide +kernel) (by decide +kernel)
set_option maxRecDepth 20000 in
theorem gX7_clear_X7_in : GoodIn wsX7_clear (va_wsS RX7 50 yX7_in wsX7_in) := goodIn_app (goodIn_of _ (by decide +kernel)) ggX7_clear_X7_in
set_option maxRecDepth 20000 in
theorem ggX7_clear_X7_acted : GoodIn wsX7_clear wsX7_acted := goodIn_r _ [14, 15, 16, 7, 17, 18, 19, 5, 20, 1, 21, 22, 23, 24, 25, 26, 27, 28, 29, 30, 31, 32, 33, 34] (by decide +kernel) (by decide +kernel)
set_option maxRecDepth 20000 in
theorem gX7_clear_X7_acted : GoodIn wsX7_clear (wsV RX7 126 RX7 yX7_acted wsX7_acted) := goodIn_app (goodIn_of _ (by decide +kernel)) ggX7_clear_X7_acted
theorem dX7_clear_0 : decode cX7_clear 0 = .ok (.aload_n 0, 1) := by decide +kernel
theorem dX7_clear_1 : decode cX7_clear 1 = .ok (.invokevirtual 119, 3) := by decide +kernel
theorem dX7_clear_4 : decode cX7_clear 4 = .ok (.iload_n 1, 1) := by decide +kernel
theorem dX7_clear_5 : decode cX7_clear 5 = .ok (.aload_n 0, 1) := by decide +kernel
theorem dX7_clear_6 : decode cX7_clear 6 = .ok (.getfield 7, 3) := by decide +kernel
theorem dX7_clear_9 : decode cX7_clear 9 = .ok (.iconst 0, 1) := by decide +kernel
theorem dX7_clear_10 : decode cX7_clear 10 = .ok (.iaload, 1) := by decide +kernel
theorem dX7_clear_11 : decode cX7_clear 11 = .ok (.sipush 395, 3) := by decide +kernel
theorem dX7_clear_14 : decode cX7_clear 14 = .ok (.invokestatic 50, 3) := by decide +kernel
theorem dX7_clear_17 : decode cX7_clear 17 = .ok (.ifCond .ne 5, 3) := by decide +kernel
theorem dX7_clear_20 : decode cX7_clear 20 = .ok (.iconst (-1), 1) := by decide +kernel
theorem dX7_clear_21 : decode cX7_clear 21 = .ok (.ireturn, 1) := by decide +kernel
theorem dX7_clear_22 : decode cX7_clear 22 = .ok (.aload_n 0, 1) := by decide +kernel
theorem dX7_clear_23 : decode cX7_clear 23 = .ok (.getfield 7, 3) := by decide +kernel
theorem dX7_clear_26 : decode cX7_clear 26 = .ok (.sipush 203, 3) := by decide +kernel
theorem dX7_clear_29 : decode cX7_clear 29 = .ok (.iload_n 1, 1) := by decide +kernel
theorem dX7_clear_30 : decode cX7_clear 30 = .ok (.iadd, 1) := by decide +kernel
theorem dX7_clear_31 : decode cX7_clear 31 = .ok (.iaload, 1) := by decide +kernel
theorem dX7_clear_32 : decode cX7_clear 32 = .ok (.istore_n 2, 1) := by decide +kernel
theorem dX7_clear_33 : decode cX7_clear 33 = .ok (.aload_n 0, 1) := by decide +kernel
theorem dX7_clear_34 : decode cX7_clear 34 = .ok (.getfield 7, 3) := by decide +kernel
theorem dX7_clear_37 : decode cX7_clear 37 = .ok (.sipush 203, 3) := by decide +kernel
theorem dX7_clear_40 : decode cX7_clear 40 = .ok (.iload_n 1, 1) := by decide +kernel
theorem dX7_clear_41 : decode cX7_clear 41 = .ok (.iadd, 1) := by decide +kernel
theorem dX7_clear_42 : decode cX7_clear 42 = .ok (.iconst 0, 1) := by decide +kernel
theorem dX7_clear_43 : decode cX7_clear 43 = .ok (.iastore, 1) := by decide +kernel
theorem dX7_clear_44 : decode cX7_clear 44 = .ok (.aload_n 0, 1) := by decide +kernel
theorem dX7_clear_45 : decode cX7_clear 45 = .ok (.iload_n 2, 1) := by decide +kernel
theorem dX7_clear_46 : decode cX7_clear 46 = .ok (.invokevirtual 126, 3) := by decide +kernel
theorem dX7_clear_49 : decode cX7_clear 49 = .ok (.ireturn, 1) := by decide +kernel
set_option maxRecDepth 20000 in
theorem ggX7_sleep_X7_begins : GoodIn wsX7_sleep wsX7_begins := goodIn_r _ [5, 6, 7, 85, 86, 87, 88, 89, 90, 91, 92, 93, 94, 95, 96, 97, 98] (by decide +kernel) (by decide +kernel)
set_option maxRecDepth 20000 in
theorem gX7_sleep_X7_begins : GoodIn wsX7_sleep (wsV RX7 119 RX7 yX7_begins wsX7_begins) := goodIn_app (goodIn_of _ (by decide +kernel)) ggX7_sleep_X7_begins
set_option maxRecDepth 20000 in
theorem ggX7_sleep_X7_sleeps : GoodIn wsX7_sleep wsX7_sleeps := goodIn_r _ [11, 7, 12, 13, 4, 14, 15, 16, 17, 18, 19, 20, 21, 22, 23, 24, 25, 26, 27, 28, 29, 30, 31, 32, 33, 34, 35, 36, 37, 38, 39, 40, 41, 42, 43, 44, 45, 46, 47, 48, 49, 50, 51, 52, 53, 54, 55, 56, 57, 58, 59, 60, 61, 62, 63, 64, 65, 66, 67, 68, 69, 70, 71, 72, 73, 74, 85, 86, 87, 88, 89, 90, 91, 92, 93, 94, 95, 96, 97, 98] (by decide +kernel) (by decide +kernel)
set_option maxRecDepth 20000 in
theorem gX7_sleep_X7_sleeps : GoodIn wsX7_sleep (wsV RX7 141 RX7 yX7_sleeps wsX7_sleeps) := goodIn_app (goodIn_of _ (by decide +kernel)) ggX7_sleep_X7_sleeps
set_option maxRecDepth 20000 in
theorem ggX7_sleep_X7_acted : GoodIn wsX7_sleep wsX7_acted := goodIn_r _ [78, 79, 80, 6, 81, 82, 83, 4, 84, 7, 85, 86, 87, 88, 89, 90, 91, 92, 93, 94, 95, 96, 97, 98] (by decide +kernel) (by decide +kernel)
set_option maxRecDepth 20000 in
theorem gX7_sleep_X7_acted : GoodIn wsX7_sleep (wsV RX7 126 RX7 yX7_acted wsX7_acted) := goodIn_app (goodIn_of _ (by decide +kernel)) ggX7_sleep_X7_acted
theorem dX7_sleep_0 : decode cX7_sleep 0 = .ok (.aload_n 0, 1) := by decide +kernel
theorem dX7_sleep_1 : decode cX7_sleep 1 = .ok (.invokevirtual 119, 3) := by decide +kernel
theorem dX7_sleep_4 : decode cX7_sleep 4 = .ok (.aload_n 0, 1) := by decide +kernel
theorem dX7_sleep_5 : decode cX7_sleep 5 = .ok (.aload_n 0, 1) := by decide +kernel
theorem dX7_sleep_6 : decode cX7_sleep 6 = .ok (.iload_n 1, 1) := by decide +kernel
theorem dX7_sleep_7 : decode cX7_sleep 7 = .ok (.invokevirtual 141, 3) := by decide +kernel
theorem dX7_sleep_10 : decode cX7_sleep 10 = .ok (.invokevirtual 126, 3) := by decide +kernel
theorem dX7_sleep_13 : decode cX7_sleep 13 = .ok (.ireturn, 1) := by decide +kernel
set_option maxRecDepth 20000 in
theorem ggX7_isSetting_X7_in : GoodIn wsX7_isSetting wsX7_in := goodIn_r _ [4] (by decide +kernel) (by decide +kernel)
set_option maxRecDepth 20000 in
theorem gX7_isSetting_X7_in : GoodIn wsX7_isSetting (va_wsS RX7 50 yX7_in wsX7_in) := goodIn_app (goodIn_of _ (by decide +kernel)) ggX7_isSetting_X7_in
theorem dX7_isSetting_0 : decode cX7_isSetting 0 = .ok (.iload_n 0, 1) := by decide +kernel
theorem dX7_isSetting_1 : decode cX7_isSetting 1 = .ok (.lookupswitch 42 #[(0, 27), (1, 35)], 27) := by decide +kernel
theorem dX7_isSetting_28 : decode cX7_isSetting 28 = .ok (.iload_n 1, 1) := by decide +kernel
theorem dX7_isSetting_29 : decode cX7_isSetting 29 = .ok (.iconst 1, 1) := by decide +kernel
theorem dX7_isSetting_30 : decode cX7_isSetting 30 = .ok (.bipush 40, 2) := by decide +kernel
theorem dX7_isSetting_32 : decode cX7_isSetting 32 = .ok (.invokestatic 50, 3) := by decide +kernel
theorem dX7_isSetting_35 : decode cX7_isSetting 35 = .ok (.ireturn, 1) := by decide +kernel
theorem dX7_isSetting_36 : decode cX7_isSetting 36 = .ok (.iload_n 1, 1) := by decide +kernel
theorem dX7_isSetting_37 : decode cX7_isSetting 37 = .ok (.iconst 1, 1) := by decide +kernel
theorem dX7_isSetting_38 : decode cX7_isSetting 38 = .ok (.iconst 3, 1) := by decide +kernel
theorem dX7_isSetting_39 : decode cX7_isSetting 39 = .ok (.invokestatic 50, 3) := by decide +kernel
theorem dX7_isSetting_42 : decode cX7_isSetting 42 = .ok (.ireturn, 1) := by decide +kernel
theorem dX7_isSetting_43 : decode cX7_isSetting 43 = .ok (.iload_n 0, 1) := by decide +kernel
theorem dX7_isSetting_44 : decode cX7_isSetting 44 = .ok (.iconst 2, 1) := by decide +kernel
theorem dX7_isSetting_45 : decode cX7_isSetting 45 = .ok (.iconst 3, 1) := by decide +kernel
theorem dX7_isSetting_46 : decode cX7_isSetting 46 = .ok (.invokestatic 50, 3) := by decide +kernel
theorem dX7_isSetting_49 : decode cX7_isSetting 49 = .ok (.ifCond .eq 17, 3) := by decide +kernel
theorem dX7_isSetting_52 : decode cX7_isSetting 52 = .ok (.iload_n 1, 1) := by decide +kernel
theorem dX7_isSetting_53 : decode cX7_isSetting 53 = .ok (.iconst 0, 1) := by decide +kernel
theorem dX7_isSetting_54 : decode cX7_isSetting 54 = .ok (.bipush 9, 2) := by decide +kernel
theorem dX7_isSetting_56 : decode cX7_isSetting 56 = .ok (.invokestatic 50, 3) := by decide +kernel
theorem dX7_isSetting_59 : decode cX7_isSetting 59 = .ok (.ifCond .eq 7, 3) := by decide +kernel
theorem dX7_isSetting_62 : decode cX7_isSetting 62 = .ok (.iconst 1, 1) := by decide +kernel
theorem dX7_isSetting_63 : decode cX7_isSetting 63 = .ok (.goto 4, 3) := by decide +kernel
theorem dX7_isSetting_66 : decode cX7_isSetting 66 = .ok (.iconst 0, 1) := by decide +kernel
theorem dX7_isSetting_67 : decode cX7_isSetting 67 = .ok (.ireturn, 1) := by decide +kernel
set_option maxRecDepth 20000 in
theorem ggX7_set_X7_begins : GoodIn wsX7_set wsX7_begins := goodIn_r _ [6, 7, 1, 24, 25, 26, 27, 28, 29, 30, 31, 32, 33, 34, 35, 36, 37] (by decide +kernel) (by decide +kernel)
set_option maxRecDepth 20000 in
theorem gX7_set_X7_begins : GoodIn wsX7_set (wsV RX7 119 RX7 yX7_begins wsX7_begins) := goodIn_app (goodIn_of _ (by decide +kernel)) ggX7_set_X7_begins
set_option maxRecDepth 20000 in
theorem ggX7_set_X7_isSetting : GoodIn wsX7_set wsX7_isSetting := goodIn_r _ [10, 11, 12, 5, 13] (by decide +kernel) (by decide +kernel)
set_option maxRecDepth 20000 in
theorem gX7_set_X7_isSetting : GoodIn wsX7_set (va_wsS RX7 144 yX7_isSetting wsX7_isSetting) := goodIn_app (goodIn_of _ (by decide +kernel)) ggX7_set_X7_isSetting
set_option maxRecDepth 20000 in
theorem ggX7_set_X7_acted : GoodIn wsX7_set wsX7_acted := goodIn_r _ [17, 18, 19, 7, 20, 21, 22, 5, 23, 1, 24, 25, 26, 27, 28, 29, 30, 31, 32, 33, 34, 35, 36, 37] (by decide +kernel) (by decide +kernel)
set_option maxRecDepth 20000 in
theorem gX7_set_X7_acted : GoodIn wsX7_set (wsV RX7 126 RX7 yX7_acted wsX7_acted) := goodIn_app (goodIn_of _ (by decide +kernel)) ggX7_set_X7_acted
theorem dX7_set_0 : decode cX7_set 0 = .ok (.aload_n 0, 1) := by decide +kernel
theorem dX7_set_1 : decode cX7_set 1 = .ok (.invokevirtual 119, 3) := by decide +kernel
theorem dX7_set_4 : decode cX7_set 4 = .ok (.iload_n 1, 1) := by decide +kernel
theorem dX7_set_5 : decode cX7_set 5 = .ok (.iload_n 2, 1) := by decide +kernel
theorem dX7_set_6 : decode cX7_set 6 = .ok (.invokestatic 144, 3) := by decide +kernel
theorem dX7_set_9 : decode cX7_set 9 = .ok (.ifCond .ne 5, 3) := by decide +kernel
theorem dX7_set_12 : decode cX7_set 12 = .ok (.iconst (-1), 1) := by decide +kernel
theorem dX7_set_13 : decode cX7_set 13 = .ok (.ireturn, 1) := by decide +kernel
theorem dX7_set_14 : decode cX7_set 14 = .ok (.aload_n 0, 1) := by decide +kernel
theorem dX7_set_15 : decode cX7_set 15 = .ok (.getfield 7, 3) := by decide +kernel
theorem dX7_set_18 : decode cX7_set 18 = .ok (.bipush 10, 2) := by decide +kernel
theorem dX7_set_20 : decode cX7_set 20 = .ok (.iload_n 1, 1) := by decide +kernel
theorem dX7_set_21 : decode cX7_set 21 = .ok (.iadd, 1) := by decide +kernel
theorem dX7_set_22 : decode cX7_set 22 = .ok (.iaload, 1) := by decide +kernel
theorem dX7_set_23 : decode cX7_set 23 = .ok (.istore_n 3, 1) := by decide +kernel
theorem dX7_set_24 : decode cX7_set 24 = .ok (.aload_n 0, 1) := by decide +kernel
theorem dX7_set_25 : decode cX7_set 25 = .ok (.getfield 7, 3) := by decide +kernel
theorem dX7_set_28 : decode cX7_set 28 = .ok (.bipush 10, 2) := by decide +kernel
theorem dX7_set_30 : decode cX7_set 30 = .ok (.iload_n 1, 1) := by decide +kernel
theorem dX7_set_31 : decode cX7_set 31 = .ok (.iadd, 1) := by decide +kernel
theorem dX7_set_32 : decode cX7_set 32 = .ok (.iload_n 2, 1) := by decide +kernel
theorem dX7_set_33 : decode cX7_set 33 = .ok (.iastore, 1) := by decide +kernel
theorem dX7_set_34 : decode cX7_set 34 = .ok (.aload_n 0, 1) := by decide +kernel
theorem dX7_set_35 : decode cX7_set 35 = .ok (.iload_n 3, 1) := by decide +kernel
theorem dX7_set_36 : decode cX7_set 36 = .ok (.invokevirtual 126, 3) := by decide +kernel
theorem dX7_set_39 : decode cX7_set 39 = .ok (.ireturn, 1) := by decide +kernel
set_option maxRecDepth 20000 in
theorem ggX7_lotOf_X7_in : GoodIn wsX7_lotOf wsX7_in := goodIn_r _ [5] (by decide +kernel) (by decide +kernel)
set_option maxRecDepth 20000 in
theorem gX7_lotOf_X7_in : GoodIn wsX7_lotOf (va_wsS RX7 50 yX7_in wsX7_in) := goodIn_app (goodIn_of _ (by decide +kernel)) ggX7_lotOf_X7_in
set_option maxRecDepth 20000 in
theorem ggX7_lotOf_X7_ofLot : GoodIn wsX7_lotOf wsX7_ofLot := goodIn_r _ [9, 1, 10, 11, 12, 13, 14, 15, 16, 17, 18, 19, 20, 21, 22, 23] (by decide +kernel) (by decide +kernel)
set_option maxRecDepth 20000 in
theorem gX7_lotOf_X7_ofLot : GoodIn wsX7_lotOf (wsV RX7 38 RX7 yX7_ofLot wsX7_ofLot) := goodIn_app (goodIn_of _ (by decide +kernel)) ggX7_lotOf_X7_ofLot
theorem dX7_lotOf_0 : decode cX7_lotOf 0 = .ok (.iload_n 1, 1) := by decide +kernel
theorem dX7_lotOf_1 : decode cX7_lotOf 1 = .ok (.iconst 0, 1) := by decide +kernel
theorem dX7_lotOf_2 : decode cX7_lotOf 2 = .ok (.iconst 2, 1) := by decide +kernel
theorem dX7_lotOf_3 : decode cX7_lotOf 3 = .ok (.invokestatic 50, 3) := by decide +kernel
theorem dX7_lotOf_6 : decode cX7_lotOf 6 = .ok (.ifCond .eq 16, 3) := by decide +kernel
theorem dX7_lotOf_9 : decode cX7_lotOf 9 = .ok (.iload_n 2, 1) := by decide +kernel
theorem dX7_lotOf_10 : decode cX7_lotOf 10 = .ok (.ifCond .lt 12, 3) := by decide +kernel
theorem dX7_lotOf_13 : decode cX7_lotOf 13 = .ok (.iload_n 3, 1) := by decide +kernel
theorem dX7_lotOf_14 : decode cX7_lotOf 14 = .ok (.iconst 0, 1) := by decide +kernel
theorem dX7_lotOf_15 : decode cX7_lotOf 15 = .ok (.iconst 1, 1) := by decide +kernel
theorem dX7_lotOf_16 : decode cX7_lotOf 16 = .ok (.invokestatic 50, 3) := by decide +kernel
theorem dX7_lotOf_19 : decode cX7_lotOf 19 = .ok (.ifCond .ne 5, 3) := by decide +kernel
theorem dX7_lotOf_22 : decode cX7_lotOf 22 = .ok (.iconst (-1), 1) := by decide +kernel
theorem dX7_lotOf_23 : decode cX7_lotOf 23 = .ok (.ireturn, 1) := by decide +kernel
theorem dX7_lotOf_24 : decode cX7_lotOf 24 = .ok (.iload_n 2, 1) := by decide +kernel
theorem dX7_lotOf_25 : decode cX7_lotOf 25 = .ok (.istore 4, 2) := by decide +kernel
theorem dX7_lotOf_27 : decode cX7_lotOf 27 = .ok (.iconst 0, 1) := by decide +kernel
theorem dX7_lotOf_28 : decode cX7_lotOf 28 = .ok (.istore 5, 2) := by decide +kernel
theorem dX7_lotOf_30 : decode cX7_lotOf 30 = .ok (.iload 5, 2) := by decide +kernel
theorem dX7_lotOf_32 : decode cX7_lotOf 32 = .ok (.aload_n 0, 1) := by decide +kernel
theorem dX7_lotOf_33 : decode cX7_lotOf 33 = .ok (.getfield 7, 3) := by decide +kernel
theorem dX7_lotOf_36 : decode cX7_lotOf 36 = .ok (.iconst 2, 1) := by decide +kernel
theorem dX7_lotOf_37 : decode cX7_lotOf 37 = .ok (.iaload, 1) := by decide +kernel
theorem dX7_lotOf_38 : decode cX7_lotOf 38 = .ok (.if_icmp .ge 62, 3) := by decide +kernel
theorem dX7_lotOf_41 : decode cX7_lotOf 41 = .ok (.aload_n 0, 1) := by decide +kernel
theorem dX7_lotOf_42 : decode cX7_lotOf 42 = .ok (.iload 5, 2) := by decide +kernel
theorem dX7_lotOf_44 : decode cX7_lotOf 44 = .ok (.iconst 0, 1) := by decide +kernel
theorem dX7_lotOf_45 : decode cX7_lotOf 45 = .ok (.invokevirtual 38, 3) := by decide +kernel
theorem dX7_lotOf_48 : decode cX7_lotOf 48 = .ok (.iload_n 1, 1) := by decide +kernel
theorem dX7_lotOf_49 : decode cX7_lotOf 49 = .ok (.if_icmp .ne 7, 3) := by decide +kernel
theorem dX7_lotOf_52 : decode cX7_lotOf 52 = .ok (.iconst 1, 1) := by decide +kernel
theorem dX7_lotOf_53 : decode cX7_lotOf 53 = .ok (.goto 4, 3) := by decide +kernel
theorem dX7_lotOf_56 : decode cX7_lotOf 56 = .ok (.iconst 0, 1) := by decide +kernel
theorem dX7_lotOf_57 : decode cX7_lotOf 57 = .ok (.istore 6, 2) := by decide +kernel
theorem dX7_lotOf_59 : decode cX7_lotOf 59 = .ok (.iload 6, 2) := by decide +kernel
theorem dX7_lotOf_61 : decode cX7_lotOf 61 = .ok (.ifCond .eq 18, 3) := by decide +kernel
theorem dX7_lotOf_64 : decode cX7_lotOf 64 = .ok (.iload 4, 2) := by decide +kernel
theorem dX7_lotOf_66 : decode cX7_lotOf 66 = .ok (.ifCond .ne 13, 3) := by decide +kernel
theorem dX7_lotOf_69 : decode cX7_lotOf 69 = .ok (.aload_n 0, 1) := by decide +kernel
theorem dX7_lotOf_70 : decode cX7_lotOf 70 = .ok (.iload 5, 2) := by decide +kernel
theorem dX7_lotOf_72 : decode cX7_lotOf 72 = .ok (.iload_n 3, 1) := by decide +kernel
theorem dX7_lotOf_73 : decode cX7_lotOf 73 = .ok (.iconst 1, 1) := by decide +kernel
theorem dX7_lotOf_74 : decode cX7_lotOf 74 = .ok (.iadd, 1) := by decide +kernel
theorem dX7_lotOf_75 : decode cX7_lotOf 75 = .ok (.invokevirtual 38, 3) := by decide +kernel
theorem dX7_lotOf_78 : decode cX7_lotOf 78 = .ok (.ireturn, 1) := by decide +kernel
theorem dX7_lotOf_79 : decode cX7_lotOf 79 = .ok (.iload 4, 2) := by decide +kernel
theorem dX7_lotOf_81 : decode cX7_lotOf 81 = .ok (.iload 6, 2) := by decide +kernel
theorem dX7_lotOf_83 : decode cX7_lotOf 83 = .ok (.ifCond .eq 7, 3) := by decide +kernel
theorem dX7_lotOf_86 : decode cX7_lotOf 86 = .ok (.iconst 1, 1) := by decide +kernel
theorem dX7_lotOf_87 : decode cX7_lotOf 87 = .ok (.goto 4, 3) := by decide +kernel
theorem dX7_lotOf_90 : decode cX7_lotOf 90 = .ok (.iconst 0, 1) := by decide +kernel
theorem dX7_lotOf_91 : decode cX7_lotOf 91 = .ok (.isub, 1) := by decide +kernel
theorem dX7_lotOf_92 : decode cX7_lotOf 92 = .ok (.istore 4, 2) := by decide +kernel
theorem dX7_lotOf_94 : decode cX7_lotOf 94 = .ok (.iinc 5 1, 3) := by decide +kernel
theorem dX7_lotOf_97 : decode cX7_lotOf 97 = .ok (.goto (-67), 3) := by decide +kernel
theorem dX7_lotOf_100 : decode cX7_lotOf 100 = .ok (.bipush (-4), 2) := by decide +kernel
theorem dX7_lotOf_102 : decode cX7_lotOf 102 = .ok (.ireturn, 1) := by decide +kernel
set_option maxRecDepth 20000 in
theorem ggX7_lotsOf_X7_ofLot : GoodIn wsX7_lotsOf wsX7_ofLot := goodIn_r _ [6, 1, 7, 8, 9, 10, 11, 12, 13, 14, 15, 16, 17, 18, 19, 20] (by decide +kernel) (by decide +kernel)
set_option maxRecDepth 20000 in
theorem gX7_lotsOf_X7_ofLot : GoodIn wsX7_lotsOf (wsV RX7 38 RX7 yX7_ofLot wsX7_ofLot) := goodIn_app (goodIn_of _ (by decide +kernel)) ggX7_lotsOf_X7_ofLot
theorem dX7_lotsOf_0 : decode cX7_lotsOf 0 = .ok (.iconst 0, 1) := by decide +kernel
theorem dX7_lotsOf_1 : decode cX7_lotsOf 1 = .ok (.istore_n 2, 1) := by decide +kernel
theorem dX7_lotsOf_2 : decode cX7_lotsOf 2 = .ok (.iconst 0, 1) := by decide +kernel
theorem dX7_lotsOf_3 : decode cX7_lotsOf 3 = .ok (.istore_n 3, 1) := by decide +kernel
theorem dX7_lotsOf_4 : decode cX7_lotsOf 4 = .ok (.iload_n 3, 1) := by decide +kernel
theorem dX7_lotsOf_5 : decode cX7_lotsOf 5 = .ok (.aload_n 0, 1) := by decide +kernel
theorem dX7_lotsOf_6 : decode cX7_lotsOf 6 = .ok (.getfield 7, 3) := by decide +kernel
theorem dX7_lotsOf_9 : decode cX7_lotsOf 9 = .ok (.iconst 2, 1) := by decide +kernel
theorem dX7_lotsOf_10 : decode cX7_lotsOf 10 = .ok (.iaload, 1) := by decide +kernel
theorem dX7_lotsOf_11 : decode cX7_lotsOf 11 = .ok (.if_icmp .ge 27, 3) := by decide +kernel
theorem dX7_lotsOf_14 : decode cX7_lotsOf 14 = .ok (.iload_n 2, 1) := by decide +kernel
theorem dX7_lotsOf_15 : decode cX7_lotsOf 15 = .ok (.aload_n 0, 1) := by decide +kernel
theorem dX7_lotsOf_16 : decode cX7_lotsOf 16 = .ok (.iload_n 3, 1) := by decide +kernel
theorem dX7_lotsOf_17 : decode cX7_lotsOf 17 = .ok (.iconst 0, 1) := by decide +kernel
theorem dX7_lotsOf_18 : decode cX7_lotsOf 18 = .ok (.invokevirtual 38, 3) := by decide +kernel
theorem dX7_lotsOf_21 : decode cX7_lotsOf 21 = .ok (.iload_n 1, 1) := by decide +kernel
theorem dX7_lotsOf_22 : decode cX7_lotsOf 22 = .ok (.if_icmp .ne 7, 3) := by decide +kernel
theorem dX7_lotsOf_25 : decode cX7_lotsOf 25 = .ok (.iconst 1, 1) := by decide +kernel
theorem dX7_lotsOf_26 : decode cX7_lotsOf 26 = .ok (.goto 4, 3) := by decide +kernel
theorem dX7_lotsOf_29 : decode cX7_lotsOf 29 = .ok (.iconst 0, 1) := by decide +kernel
theorem dX7_lotsOf_30 : decode cX7_lotsOf 30 = .ok (.iadd, 1) := by decide +kernel
theorem dX7_lotsOf_31 : decode cX7_lotsOf 31 = .ok (.istore_n 2, 1) := by decide +kernel
theorem dX7_lotsOf_32 : decode cX7_lotsOf 32 = .ok (.iinc 3 1, 3) := by decide +kernel
theorem dX7_lotsOf_35 : decode cX7_lotsOf 35 = .ok (.goto (-31), 3) := by decide +kernel
theorem dX7_lotsOf_38 : decode cX7_lotsOf 38 = .ok (.iload_n 2, 1) := by decide +kernel
theorem dX7_lotsOf_39 : decode cX7_lotsOf 39 = .ok (.ireturn, 1) := by decide +kernel
theorem dX7_loadedOf_0 : decode cX7_loadedOf 0 = .ok (.iconst 0, 1) := by decide +kernel
theorem dX7_loadedOf_1 : decode cX7_loadedOf 1 = .ok (.istore_n 2, 1) := by decide +kernel
theorem dX7_loadedOf_2 : decode cX7_loadedOf 2 = .ok (.iconst 0, 1) := by decide +kernel
theorem dX7_loadedOf_3 : decode cX7_loadedOf 3 = .ok (.istore_n 3, 1) := by decide +kernel
theorem dX7_loadedOf_4 : decode cX7_loadedOf 4 = .ok (.iload_n 3, 1) := by decide +kernel
theorem dX7_loadedOf_5 : decode cX7_loadedOf 5 = .ok (.aload_n 0, 1) := by decide +kernel
theorem dX7_loadedOf_6 : decode cX7_loadedOf 6 = .ok (.getfield 7, 3) := by decide +kernel
theorem dX7_loadedOf_9 : decode cX7_loadedOf 9 = .ok (.iconst 3, 1) := by decide +kernel
theorem dX7_loadedOf_10 : decode cX7_loadedOf 10 = .ok (.iaload, 1) := by decide +kernel
theorem dX7_loadedOf_11 : decode cX7_loadedOf 11 = .ok (.if_icmp .ge 44, 3) := by decide +kernel
theorem dX7_loadedOf_14 : decode cX7_loadedOf 14 = .ok (.iload_n 2, 1) := by decide +kernel
theorem dX7_loadedOf_15 : decode cX7_loadedOf 15 = .ok (.aload_n 0, 1) := by decide +kernel
theorem dX7_loadedOf_16 : decode cX7_loadedOf 16 = .ok (.getfield 7, 3) := by decide +kernel
theorem dX7_loadedOf_19 : decode cX7_loadedOf 19 = .ok (.bipush 23, 2) := by decide +kernel
theorem dX7_loadedOf_21 : decode cX7_loadedOf 21 = .ok (.iconst 3, 1) := by decide +kernel
theorem dX7_loadedOf_22 : decode cX7_loadedOf 22 = .ok (.iload_n 3, 1) := by decide +kernel
theorem dX7_loadedOf_23 : decode cX7_loadedOf 23 = .ok (.imul, 1) := by decide +kernel
theorem dX7_loadedOf_24 : decode cX7_loadedOf 24 = .ok (.iadd, 1) := by decide +kernel
theorem dX7_loadedOf_25 : decode cX7_loadedOf 25 = .ok (.iaload, 1) := by decide +kernel
theorem dX7_loadedOf_26 : decode cX7_loadedOf 26 = .ok (.iload_n 1, 1) := by decide +kernel
theorem dX7_loadedOf_27 : decode cX7_loadedOf 27 = .ok (.if_icmp .ne 19, 3) := by decide +kernel
theorem dX7_loadedOf_30 : decode cX7_loadedOf 30 = .ok (.aload_n 0, 1) := by decide +kernel
theorem dX7_loadedOf_31 : decode cX7_loadedOf 31 = .ok (.getfield 7, 3) := by decide +kernel
theorem dX7_loadedOf_34 : decode cX7_loadedOf 34 = .ok (.bipush 23, 2) := by decide +kernel
theorem dX7_loadedOf_36 : decode cX7_loadedOf 36 = .ok (.iconst 3, 1) := by decide +kernel
theorem dX7_loadedOf_37 : decode cX7_loadedOf 37 = .ok (.iload_n 3, 1) := by decide +kernel
theorem dX7_loadedOf_38 : decode cX7_loadedOf 38 = .ok (.imul, 1) := by decide +kernel
theorem dX7_loadedOf_39 : decode cX7_loadedOf 39 = .ok (.iadd, 1) := by decide +kernel
theorem dX7_loadedOf_40 : decode cX7_loadedOf 40 = .ok (.iconst 1, 1) := by decide +kernel
theorem dX7_loadedOf_41 : decode cX7_loadedOf 41 = .ok (.iadd, 1) := by decide +kernel
theorem dX7_loadedOf_42 : decode cX7_loadedOf 42 = .ok (.iaload, 1) := by decide +kernel
theorem dX7_loadedOf_43 : decode cX7_loadedOf 43 = .ok (.goto 4, 3) := by decide +kernel
theorem dX7_loadedOf_46 : decode cX7_loadedOf 46 = .ok (.iconst 0, 1) := by decide +kernel
theorem dX7_loadedOf_47 : decode cX7_loadedOf 47 = .ok (.iadd, 1) := by decide +kernel
theorem dX7_loadedOf_48 : decode cX7_loadedOf 48 = .ok (.istore_n 2, 1) := by decide +kernel
theorem dX7_loadedOf_49 : decode cX7_loadedOf 49 = .ok (.iinc 3 1, 3) := by decide +kernel
theorem dX7_loadedOf_52 : decode cX7_loadedOf 52 = .ok (.goto (-48), 3) := by decide +kernel
theorem dX7_loadedOf_55 : decode cX7_loadedOf 55 = .ok (.iload_n 2, 1) := by decide +kernel
theorem dX7_loadedOf_56 : decode cX7_loadedOf 56 = .ok (.ireturn, 1) := by decide +kernel
set_option maxRecDepth 20000 in
theorem ggX7_storeOf_X7_in : GoodIn wsX7_storeOf wsX7_in := goodIn_r _ [5] (by decide +kernel) (by decide +kernel)
set_option maxRecDepth 20000 in
theorem gX7_storeOf_X7_in : GoodIn wsX7_storeOf (va_wsS RX7 50 yX7_in wsX7_in) := goodIn_app (goodIn_of _ (by decide +kernel)) ggX7_storeOf_X7_in
set_option maxRecDepth 20000 in
theorem ggX7_storeOf_X7_stock : GoodIn wsX7_storeOf wsX7_stock := goodIn_r _ [9, 1, 10, 11, 12, 4, 13, 22, 23, 24, 25, 26, 27, 28, 29, 30, 31, 32, 33, 34, 35] (by decide +kernel) (by decide +kernel)
set_option maxRecDepth 20000 in
theorem gX7_storeOf_X7_stock : GoodIn wsX7_storeOf (wsV RX7 72 RX7 yX7_stock wsX7_stock) := goodIn_app (goodIn_of _ (by decide +kernel)) ggX7_storeOf_X7_stock
set_option maxRecDepth 20000 in
theorem ggX7_storeOf_X7_lotsOf : GoodIn wsX7_storeOf wsX7_lotsOf := goodIn_r _ [17, 1, 10, 11, 12, 4, 13, 22, 23, 24, 25, 26, 27, 28, 29, 30, 31, 32, 33, 34, 35] (by decide +kernel) (by decide +kernel)
set_option maxRecDepth 20000 in
theorem gX7_storeOf_X7_lotsOf : GoodIn wsX7_storeOf (wsV RX7 147 RX7 yX7_lotsOf wsX7_lotsOf) := goodIn_app (goodIn_of _ (by decide +kernel)) ggX7_storeOf_X7_lotsOf
set_option maxRecDepth 20000 in
theorem ggX7_storeOf_X7_loadedOf : GoodIn wsX7_storeOf wsX7_loadedOf := goodIn_r _ [21, 1, 22, 23, 24, 25, 26, 27, 28, 29, 30, 31, 32, 33, 34, 35] (by decide +kernel) (by decide +kernel)
set_option maxRecDepth 20000 in
theorem gX7_storeOf_X7_loadedOf : GoodIn wsX7_storeOf (wsV RX7 150 RX7 yX7_loadedOf wsX7_loadedOf) := goodIn_app (goodIn_of _ (by decide +kernel)) ggX7_storeOf_X7_loadedOf
theorem dX7_storeOf_0 : decode cX7_storeOf 0 = .ok (.iload_n 1, 1) := by decide +kernel
theorem dX7_storeOf_1 : decode cX7_storeOf 1 = .ok (.iconst 0, 1) := by decide +kernel
theorem dX7_storeOf_2 : decode cX7_storeOf 2 = .ok (.iconst 2, 1) := by decide +kernel
theorem dX7_storeOf_3 : decode cX7_storeOf 3 = .ok (.invokestatic 50, 3) := by decide +kernel
theorem dX7_storeOf_6 : decode cX7_storeOf 6 = .ok (.ifCond .eq 12, 3) := by decide +kernel
theorem dX7_storeOf_9 : decode cX7_storeOf 9 = .ok (.iload_n 2, 1) := by decide +kernel
theorem dX7_storeOf_10 : decode cX7_storeOf 10 = .ok (.iconst 0, 1) := by decide +kernel
theorem dX7_storeOf_11 : decode cX7_storeOf 11 = .ok (.iconst 5, 1) := by decide +kernel
theorem dX7_storeOf_12 : decode cX7_storeOf 12 = .ok (.invokestatic 50, 3) := by decide +kernel
theorem dX7_storeOf_15 : decode cX7_storeOf 15 = .ok (.ifCond .ne 5, 3) := by decide +kernel
theorem dX7_storeOf_18 : decode cX7_storeOf 18 = .ok (.iconst (-1), 1) := by decide +kernel
theorem dX7_storeOf_19 : decode cX7_storeOf 19 = .ok (.ireturn, 1) := by decide +kernel
theorem dX7_storeOf_20 : decode cX7_storeOf 20 = .ok (.iload_n 2, 1) := by decide +kernel
theorem dX7_storeOf_21 : decode cX7_storeOf 21 = .ok (.tableswitch 63 0 4 #[35, 41, 41, 41, 57], 35) := by decide +kernel
theorem dX7_storeOf_56 : decode cX7_storeOf 56 = .ok (.aload_n 0, 1) := by decide +kernel
theorem dX7_storeOf_57 : decode cX7_storeOf 57 = .ok (.iload_n 1, 1) := by decide +kernel
theorem dX7_storeOf_58 : decode cX7_storeOf 58 = .ok (.invokevirtual 72, 3) := by decide +kernel
theorem dX7_storeOf_61 : decode cX7_storeOf 61 = .ok (.ireturn, 1) := by decide +kernel
theorem dX7_storeOf_62 : decode cX7_storeOf 62 = .ok (.aload_n 0, 1) := by decide +kernel
theorem dX7_storeOf_63 : decode cX7_storeOf 63 = .ok (.getfield 7, 3) := by decide +kernel
theorem dX7_storeOf_66 : decode cX7_storeOf 66 = .ok (.bipush 14, 2) := by decide +kernel
theorem dX7_storeOf_68 : decode cX7_storeOf 68 = .ok (.iconst 3, 1) := by decide +kernel
theorem dX7_storeOf_69 : decode cX7_storeOf 69 = .ok (.iload_n 2, 1) := by decide +kernel
theorem dX7_storeOf_70 : decode cX7_storeOf 70 = .ok (.imul, 1) := by decide +kernel
theorem dX7_storeOf_71 : decode cX7_storeOf 71 = .ok (.iadd, 1) := by decide +kernel
theorem dX7_storeOf_72 : decode cX7_storeOf 72 = .ok (.iconst 3, 1) := by decide +kernel
theorem dX7_storeOf_73 : decode cX7_storeOf 73 = .ok (.isub, 1) := by decide +kernel
theorem dX7_storeOf_74 : decode cX7_storeOf 74 = .ok (.iload_n 1, 1) := by decide +kernel
theorem dX7_storeOf_75 : decode cX7_storeOf 75 = .ok (.iadd, 1) := by decide +kernel
theorem dX7_storeOf_76 : decode cX7_storeOf 76 = .ok (.iaload, 1) := by decide +kernel
theorem dX7_storeOf_77 : decode cX7_storeOf 77 = .ok (.ireturn, 1) := by decide +kernel
theorem dX7_storeOf_78 : decode cX7_storeOf 78 = .ok (.aload_n 0, 1) := by decide +kernel
theorem dX7_storeOf_79 : decode cX7_storeOf 79 = .ok (.iload_n 1, 1) := by decide +kernel
theorem dX7_storeOf_80 : decode cX7_storeOf 80 = .ok (.invokevirtual 147, 3) := by decide +kernel
theorem dX7_storeOf_83 : decode cX7_storeOf 83 = .ok (.ireturn, 1) := by decide +kernel
theorem dX7_storeOf_84 : decode cX7_storeOf 84 = .ok (.aload_n 0, 1) := by decide +kernel
theorem dX7_storeOf_85 : decode cX7_storeOf 85 = .ok (.iload_n 1, 1) := by decide +kernel
theorem dX7_storeOf_86 : decode cX7_storeOf 86 = .ok (.invokevirtual 150, 3) := by decide +kernel
theorem dX7_storeOf_89 : decode cX7_storeOf 89 = .ok (.ireturn, 1) := by decide +kernel
set_option maxRecDepth 20000 in
theorem ggX7_partyOf_X7_isParty : GoodIn wsX7_partyOf wsX7_isParty := goodIn_r _ [5, 6, 7, 8, 4, 9, 14, 15, 16, 17, 18, 19, 20, 21, 22, 23, 24, 25, 26, 27] (by decide +kernel) (by decide +kernel)
set_option maxRecDepth 20000 in
theorem gX7_partyOf_X7_isParty : GoodIn wsX7_partyOf (wsV RX7 113 RX7 yX7_isParty wsX7_isParty) := goodIn_app (goodIn_of _ (by decide +kernel)) ggX7_partyOf_X7_isParty
set_option maxRecDepth 20000 in
theorem ggX7_partyOf_X7_in : GoodIn wsX7_partyOf wsX7_in := goodIn_r _ [9] (by decide +kernel) (by decide +kernel)
set_option maxRecDepth 20000 in
theorem gX7_partyOf_X7_in : GoodIn wsX7_partyOf (va_wsS RX7 50 yX7_in wsX7_in) := goodIn_app (goodIn_of _ (by decide +kernel)) ggX7_partyOf_X7_in
set_option maxRecDepth 20000 in
theorem ggX7_partyOf_X7_ofParty : GoodIn wsX7_partyOf wsX7_ofParty := goodIn_r _ [13, 6, 14, 15, 16, 17, 18, 19, 20, 21, 22, 23, 24, 25, 26, 27] (by decide +kernel) (by decide +kernel)
set_option maxRecDepth 20000 in
theorem gX7_partyOf_X7_ofParty : GoodIn wsX7_partyOf (wsV RX7 54 RX7 yX7_ofParty wsX7_ofParty) := goodIn_app (goodIn_of _ (by decide +kernel)) ggX7_partyOf_X7_ofParty
theorem dX7_partyOf_0 : decode cX7_partyOf 0 = .ok (.aload_n 0, 1) := by decide +kernel
theorem dX7_partyOf_1 : decode cX7_partyOf 1 = .ok (.iload_n 1, 1) := by decide +kernel
theorem dX7_partyOf_2 : decode cX7_partyOf 2 = .ok (.invokevirtual 113, 3) := by decide +kernel
theorem dX7_partyOf_5 : decode cX7_partyOf 5 = .ok (.ifCond .eq 13, 3) := by decide +kernel
theorem dX7_partyOf_8 : decode cX7_partyOf 8 = .ok (.iload_n 2, 1) := by decide +kernel
theorem dX7_partyOf_9 : decode cX7_partyOf 9 = .ok (.iconst 0, 1) := by decide +kernel
theorem dX7_partyOf_10 : decode cX7_partyOf 10 = .ok (.bipush 6, 2) := by decide +kernel
theorem dX7_partyOf_12 : decode cX7_partyOf 12 = .ok (.invokestatic 50, 3) := by decide +kernel
theorem dX7_partyOf_15 : decode cX7_partyOf 15 = .ok (.ifCond .ne 5, 3) := by decide +kernel
theorem dX7_partyOf_18 : decode cX7_partyOf 18 = .ok (.iconst (-1), 1) := by decide +kernel
theorem dX7_partyOf_19 : decode cX7_partyOf 19 = .ok (.ireturn, 1) := by decide +kernel
theorem dX7_partyOf_20 : decode cX7_partyOf 20 = .ok (.aload_n 0, 1) := by decide +kernel
theorem dX7_partyOf_21 : decode cX7_partyOf 21 = .ok (.iload_n 1, 1) := by decide +kernel
theorem dX7_partyOf_22 : decode cX7_partyOf 22 = .ok (.iconst 4, 1) := by decide +kernel
theorem dX7_partyOf_23 : decode cX7_partyOf 23 = .ok (.invokevirtual 54, 3) := by decide +kernel
theorem dX7_partyOf_26 : decode cX7_partyOf 26 = .ok (.aload_n 0, 1) := by decide +kernel
theorem dX7_partyOf_27 : decode cX7_partyOf 27 = .ok (.iload_n 1, 1) := by decide +kernel
theorem dX7_partyOf_28 : decode cX7_partyOf 28 = .ok (.iconst 2, 1) := by decide +kernel
theorem dX7_partyOf_29 : decode cX7_partyOf 29 = .ok (.invokevirtual 54, 3) := by decide +kernel
theorem dX7_partyOf_32 : decode cX7_partyOf 32 = .ok (.isub, 1) := by decide +kernel
theorem dX7_partyOf_33 : decode cX7_partyOf 33 = .ok (.istore_n 3, 1) := by decide +kernel
theorem dX7_partyOf_34 : decode cX7_partyOf 34 = .ok (.iload_n 2, 1) := by decide +kernel
theorem dX7_partyOf_35 : decode cX7_partyOf 35 = .ok (.lookupswitch 58 #[(5, 25), (6, 48)], 25) := by decide +kernel
theorem dX7_partyOf_60 : decode cX7_partyOf 60 = .ok (.aload_n 0, 1) := by decide +kernel
theorem dX7_partyOf_61 : decode cX7_partyOf 61 = .ok (.iload_n 1, 1) := by decide +kernel
theorem dX7_partyOf_62 : decode cX7_partyOf 62 = .ok (.iconst 5, 1) := by decide +kernel
theorem dX7_partyOf_63 : decode cX7_partyOf 63 = .ok (.invokevirtual 54, 3) := by decide +kernel
theorem dX7_partyOf_66 : decode cX7_partyOf 66 = .ok (.ifCond .ne 8, 3) := by decide +kernel
theorem dX7_partyOf_69 : decode cX7_partyOf 69 = .ok (.bipush (-4), 2) := by decide +kernel
theorem dX7_partyOf_71 : decode cX7_partyOf 71 = .ok (.goto 11, 3) := by decide +kernel
theorem dX7_partyOf_74 : decode cX7_partyOf 74 = .ok (.aload_n 0, 1) := by decide +kernel
theorem dX7_partyOf_75 : decode cX7_partyOf 75 = .ok (.iload_n 1, 1) := by decide +kernel
theorem dX7_partyOf_76 : decode cX7_partyOf 76 = .ok (.iconst 5, 1) := by decide +kernel
theorem dX7_partyOf_77 : decode cX7_partyOf 77 = .ok (.invokevirtual 54, 3) := by decide +kernel
theorem dX7_partyOf_80 : decode cX7_partyOf 80 = .ok (.iconst 1, 1) := by decide +kernel
theorem dX7_partyOf_81 : decode cX7_partyOf 81 = .ok (.isub, 1) := by decide +kernel
theorem dX7_partyOf_82 : decode cX7_partyOf 82 = .ok (.ireturn, 1) := by decide +kernel
theorem dX7_partyOf_83 : decode cX7_partyOf 83 = .ok (.iload_n 3, 1) := by decide +kernel
theorem dX7_partyOf_84 : decode cX7_partyOf 84 = .ok (.ifCond .ge 7, 3) := by decide +kernel
theorem dX7_partyOf_87 : decode cX7_partyOf 87 = .ok (.iconst 0, 1) := by decide +kernel
theorem dX7_partyOf_88 : decode cX7_partyOf 88 = .ok (.goto 4, 3) := by decide +kernel
theorem dX7_partyOf_91 : decode cX7_partyOf 91 = .ok (.iload_n 3, 1) := by decide +kernel
theorem dX7_partyOf_92 : decode cX7_partyOf 92 = .ok (.ireturn, 1) := by decide +kernel
theorem dX7_partyOf_93 : decode cX7_partyOf 93 = .ok (.aload_n 0, 1) := by decide +kernel
theorem dX7_partyOf_94 : decode cX7_partyOf 94 = .ok (.iload_n 1, 1) := by decide +kernel
theorem dX7_partyOf_95 : decode cX7_partyOf 95 = .ok (.iload_n 2, 1) := by decide +kernel
theorem dX7_partyOf_96 : decode cX7_partyOf 96 = .ok (.invokevirtual 54, 3) := by decide +kernel
theorem dX7_partyOf_99 : decode cX7_partyOf 99 = .ok (.ireturn, 1) := by decide +kernel
set_option maxRecDepth 20000 in
theorem ggX7_count_X7_partiesOf : GoodIn wsX7_count wsX7_partiesOf := goodIn_r _ [9, 1, 10, 11, 12, 8, 13, 25, 26, 27, 28, 29, 30, 31, 32, 33, 34, 35, 36, 37, 38] (by decide +kernel) (by decide +kernel)
set_option maxRecDepth 20000 in
theorem gX7_count_X7_partiesOf : GoodIn wsX7_count (wsV RX7 57 RX7 yX7_partiesOf wsX7_partiesOf) := goodIn_app (goodIn_of _ (by decide +kernel)) ggX7_count_X7_partiesOf
set_option maxRecDepth 20000 in
theorem ggX7_count_X7_guests : GoodIn wsX7_count wsX7_guests := goodIn_r _ [17, 1, 10, 11, 12, 8, 13, 25, 26, 27, 28, 29, 30, 31, 32, 33, 34, 35, 36, 37, 38] (by decide +kernel) (by decide +kernel)
set_option maxRecDepth 20000 in
theorem gX7_count_X7_guests : GoodIn wsX7_count (wsV RX7 68 RX7 yX7_guests wsX7_guests) := goodIn_app (goodIn_of _ (by decide +kernel)) ggX7_count_X7_guests
set_option maxRecDepth 20000 in
theorem ggX7_count_X7_isStorm : GoodIn wsX7_count wsX7_isStorm := goodIn_r _ [21, 1, 25, 26, 27, 28, 29, 30, 31, 32, 33, 34, 35, 36, 37, 38] (by decide +kernel) (by decide +kernel)
set_option maxRecDepth 20000 in
theorem gX7_count_X7_isStorm : GoodIn wsX7_count (wsV RX7 64 RX7 yX7_isStorm wsX7_isStorm) := goodIn_app (goodIn_of _ (by decide +kernel)) ggX7_count_X7_isStorm
set_option maxRecDepth 20000 in
theorem ggX7_count_X7_in : GoodIn wsX7_count wsX7_in := goodIn_r _ [24] (by decide +kernel) (by decide +kernel)
set_option maxRecDepth 20000 in
theorem gX7_count_X7_in : GoodIn wsX7_count (va_wsS RX7 50 yX7_in wsX7_in) := goodIn_app (goodIn_of _ (by decide +kernel)) ggX7_count_X7_in
theorem dX7_count_0 : decode cX7_count 0 = .ok (.iload_n 1, 1) := by decide +kernel
theorem dX7_count_1 : decode cX7_count 1 = .ok (.tableswitch 174 0 14 #[75, 82, 88, 94, 99, 106, 125, 132, 139, 139, 139, 139, 151, 156, 161], 75) := by decide +kernel
theorem dX7_count_76 : decode cX7_count 76 = .ok (.aload_n 0, 1) := by decide +kernel
theorem dX7_count_77 : decode cX7_count 77 = .ok (.getfield 7, 3) := by decide +kernel
theorem dX7_count_80 : decode cX7_count 80 = .ok (.iconst 4, 1) := by decide +kernel
theorem dX7_count_81 : decode cX7_count 81 = .ok (.iaload, 1) := by decide +kernel
theorem dX7_count_82 : decode cX7_count 82 = .ok (.ireturn, 1) := by decide +kernel
theorem dX7_count_83 : decode cX7_count 83 = .ok (.aload_n 0, 1) := by decide +kernel
theorem dX7_count_84 : decode cX7_count 84 = .ok (.iconst 0, 1) := by decide +kernel
theorem dX7_count_85 : decode cX7_count 85 = .ok (.invokevirtual 57, 3) := by decide +kernel
theorem dX7_count_88 : decode cX7_count 88 = .ok (.ireturn, 1) := by decide +kernel
theorem dX7_count_89 : decode cX7_count 89 = .ok (.aload_n 0, 1) := by decide +kernel
theorem dX7_count_90 : decode cX7_count 90 = .ok (.iconst 1, 1) := by decide +kernel
theorem dX7_count_91 : decode cX7_count 91 = .ok (.invokevirtual 57, 3) := by decide +kernel
theorem dX7_count_94 : decode cX7_count 94 = .ok (.ireturn, 1) := by decide +kernel
theorem dX7_count_95 : decode cX7_count 95 = .ok (.aload_n 0, 1) := by decide +kernel
theorem dX7_count_96 : decode cX7_count 96 = .ok (.invokevirtual 68, 3) := by decide +kernel
theorem dX7_count_99 : decode cX7_count 99 = .ok (.ireturn, 1) := by decide +kernel
theorem dX7_count_100 : decode cX7_count 100 = .ok (.aload_n 0, 1) := by decide +kernel
theorem dX7_count_101 : decode cX7_count 101 = .ok (.getfield 7, 3) := by decide +kernel
theorem dX7_count_104 : decode cX7_count 104 = .ok (.iconst 0, 1) := by decide +kernel
theorem dX7_count_105 : decode cX7_count 105 = .ok (.iaload, 1) := by decide +kernel
theorem dX7_count_106 : decode cX7_count 106 = .ok (.ireturn, 1) := by decide +kernel
theorem dX7_count_107 : decode cX7_count 107 = .ok (.aload_n 0, 1) := by decide +kernel
theorem dX7_count_108 : decode cX7_count 108 = .ok (.aload_n 0, 1) := by decide +kernel
theorem dX7_count_109 : decode cX7_count 109 = .ok (.getfield 7, 3) := by decide +kernel
theorem dX7_count_112 : decode cX7_count 112 = .ok (.iconst 0, 1) := by decide +kernel
theorem dX7_count_113 : decode cX7_count 113 = .ok (.iaload, 1) := by decide +kernel
theorem dX7_count_114 : decode cX7_count 114 = .ok (.invokevirtual 64, 3) := by decide +kernel
theorem dX7_count_117 : decode cX7_count 117 = .ok (.ifCond .eq 7, 3) := by decide +kernel
theorem dX7_count_120 : decode cX7_count 120 = .ok (.iconst 1, 1) := by decide +kernel
theorem dX7_count_121 : decode cX7_count 121 = .ok (.goto 4, 3) := by decide +kernel
theorem dX7_count_124 : decode cX7_count 124 = .ok (.iconst 0, 1) := by decide +kernel
theorem dX7_count_125 : decode cX7_count 125 = .ok (.ireturn, 1) := by decide +kernel
theorem dX7_count_126 : decode cX7_count 126 = .ok (.aload_n 0, 1) := by decide +kernel
theorem dX7_count_127 : decode cX7_count 127 = .ok (.getfield 7, 3) := by decide +kernel
theorem dX7_count_130 : decode cX7_count 130 = .ok (.iconst 1, 1) := by decide +kernel
theorem dX7_count_131 : decode cX7_count 131 = .ok (.iaload, 1) := by decide +kernel
theorem dX7_count_132 : decode cX7_count 132 = .ok (.ireturn, 1) := by decide +kernel
theorem dX7_count_133 : decode cX7_count 133 = .ok (.aload_n 0, 1) := by decide +kernel
theorem dX7_count_134 : decode cX7_count 134 = .ok (.getfield 7, 3) := by decide +kernel
theorem dX7_count_137 : decode cX7_count 137 = .ok (.iconst 3, 1) := by decide +kernel
theorem dX7_count_138 : decode cX7_count 138 = .ok (.iaload, 1) := by decide +kernel
theorem dX7_count_139 : decode cX7_count 139 = .ok (.ireturn, 1) := by decide +kernel
theorem dX7_count_140 : decode cX7_count 140 = .ok (.aload_n 0, 1) := by decide +kernel
theorem dX7_count_141 : decode cX7_count 141 = .ok (.getfield 7, 3) := by decide +kernel
theorem dX7_count_144 : decode cX7_count 144 = .ok (.iconst 5, 1) := by decide +kernel
theorem dX7_count_145 : decode cX7_count 145 = .ok (.iload_n 1, 1) := by decide +kernel
theorem dX7_count_146 : decode cX7_count 146 = .ok (.iadd, 1) := by decide +kernel
theorem dX7_count_147 : decode cX7_count 147 = .ok (.bipush 8, 2) := by decide +kernel
theorem dX7_count_149 : decode cX7_count 149 = .ok (.isub, 1) := by decide +kernel
theorem dX7_count_150 : decode cX7_count 150 = .ok (.iaload, 1) := by decide +kernel
theorem dX7_count_151 : decode cX7_count 151 = .ok (.ireturn, 1) := by decide +kernel
theorem dX7_count_152 : decode cX7_count 152 = .ok (.aload_n 0, 1) := by decide +kernel
theorem dX7_count_153 : decode cX7_count 153 = .ok (.getfield 34, 3) := by decide +kernel
theorem dX7_count_156 : decode cX7_count 156 = .ok (.ireturn, 1) := by decide +kernel
theorem dX7_count_157 : decode cX7_count 157 = .ok (.aload_n 0, 1) := by decide +kernel
theorem dX7_count_158 : decode cX7_count 158 = .ok (.getfield 153, 3) := by decide +kernel
theorem dX7_count_161 : decode cX7_count 161 = .ok (.ireturn, 1) := by decide +kernel
theorem dX7_count_162 : decode cX7_count 162 = .ok (.aload_n 0, 1) := by decide +kernel
theorem dX7_count_163 : decode cX7_count 163 = .ok (.getfield 156, 3) := by decide +kernel
theorem dX7_count_166 : decode cX7_count 166 = .ok (.ifCond .eq 7, 3) := by decide +kernel
theorem dX7_count_169 : decode cX7_count 169 = .ok (.iconst 1, 1) := by decide +kernel
theorem dX7_count_170 : decode cX7_count 170 = .ok (.goto 4, 3) := by decide +kernel
theorem dX7_count_173 : decode cX7_count 173 = .ok (.iconst 0, 1) := by decide +kernel
theorem dX7_count_174 : decode cX7_count 174 = .ok (.ireturn, 1) := by decide +kernel
theorem dX7_count_175 : decode cX7_count 175 = .ok (.iload_n 1, 1) := by decide +kernel
theorem dX7_count_176 : decode cX7_count 176 = .ok (.bipush 20, 2) := by decide +kernel
theorem dX7_count_178 : decode cX7_count 178 = .ok (.bipush 23, 2) := by decide +kernel
theorem dX7_count_180 : decode cX7_count 180 = .ok (.invokestatic 50, 3) := by decide +kernel
theorem dX7_count_183 : decode cX7_count 183 = .ok (.ifCond .eq 18, 3) := by decide +kernel
theorem dX7_count_186 : decode cX7_count 186 = .ok (.aload_n 0, 1) := by decide +kernel
theorem dX7_count_187 : decode cX7_count 187 = .ok (.getfield 7, 3) := by decide +kernel
theorem dX7_count_190 : decode cX7_count 190 = .ok (.bipush 10, 2) := by decide +kernel
theorem dX7_count_192 : decode cX7_count 192 = .ok (.iload_n 1, 1) := by decide +kernel
theorem dX7_count_193 : decode cX7_count 193 = .ok (.iadd, 1) := by decide +kernel
theorem dX7_count_194 : decode cX7_count 194 = .ok (.bipush 20, 2) := by decide +kernel
theorem dX7_count_196 : decode cX7_count 196 = .ok (.isub, 1) := by decide +kernel
theorem dX7_count_197 : decode cX7_count 197 = .ok (.iaload, 1) := by decide +kernel
theorem dX7_count_198 : decode cX7_count 198 = .ok (.goto 4, 3) := by decide +kernel
theorem dX7_count_201 : decode cX7_count 201 = .ok (.iconst (-1), 1) := by decide +kernel
theorem dX7_count_202 : decode cX7_count 202 = .ok (.ireturn, 1) := by decide +kernel
set_option maxRecDepth 20000 in
theorem ggX7_goneOn_X7_isParty : GoodIn wsX7_goneOn wsX7_isParty := goodIn_r _ [6, 1, 7, 8, 5, 9, 79, 80, 81, 82, 83, 84, 85, 86, 87, 88, 89, 90, 91, 92] (by decide +kernel) (by decide +kernel)
set_option maxRecDepth 20000 in
theorem gX7_goneOn_X7_isParty : GoodIn wsX7_goneOn (wsV RX7 113 RX7 yX7_isParty wsX7_isParty) := goodIn_app (goodIn_of _ (by decide +kernel)) ggX7_goneOn_X7_isParty
set_option maxRecDepth 20000 in
theorem ggX7_goneOn_X7_ofParty : GoodIn wsX7_goneOn wsX7_ofParty := goodIn_r _ [13, 1, 79, 80, 81, 82, 83, 84, 85, 86, 87, 88, 89, 90, 91, 92] (by decide +kernel) (by decide +kernel)
set_option maxRecDepth 20000 in
theorem gX7_goneOn_X7_ofParty : GoodIn wsX7_goneOn (wsV RX7 54 RX7 yX7_ofParty wsX7_ofParty) := goodIn_app (goodIn_of _ (by decide +kernel)) ggX7_goneOn_X7_ofParty
set_option maxRecDepth 20000 in
theorem ggX7_goneOn_X7_begins : GoodIn wsX7_goneOn wsX7_begins := goodIn_r _ [17, 18, 1, 79, 80, 81, 82, 83, 84, 85, 86, 87, 88, 89, 90, 91, 92] (by decide +kernel) (by decide +kernel)
set_option maxRecDepth 20000 in
theorem gX7_goneOn_X7_begins : GoodIn wsX7_goneOn (wsV RX7 119 RX7 yX7_begins wsX7_begins) := goodIn_app (goodIn_of _ (by decide +kernel)) ggX7_goneOn_X7_begins
set_option maxRecDepth 20000 in
theorem ggX7_goneOn_X7_night : GoodIn wsX7_goneOn wsX7_night := goodIn_r _ [22, 1, 23, 24, 25, 5, 26, 27, 28, 29, 30, 10, 11, 12, 13, 31, 32, 33, 34, 35, 36, 37, 38, 39, 40, 41, 42, 43, 44, 45, 46, 47, 48, 49, 50, 51, 52, 53, 54, 55, 56, 57, 58, 59, 60, 61, 62, 63, 64, 65, 66, 67, 68, 69, 70, 71, 72, 73, 74, 79, 80, 81, 82, 83, 84, 85, 86, 87, 88, 89, 90, 91, 92] (by decide +kernel) (by decide +kernel)
set_option maxRecDepth 20000 in
theorem gX7_goneOn_X7_night : GoodIn wsX7_goneOn (wsV RX7 100 RX7 yX7_night wsX7_night) := goodIn_app (goodIn_of _ (by decide +kernel)) ggX7_goneOn_X7_night
set_option maxRecDepth 20000 in
theorem ggX7_goneOn_X7_returns : GoodIn wsX7_goneOn wsX7_returns := goodIn_r _ [78, 1, 18, 79, 80, 81, 82, 83, 84, 85, 86, 87, 88, 89, 90, 91, 92] (by decide +kernel) (by decide +kernel)
set_option maxRecDepth 20000 in
theorem gX7_goneOn_X7_returns : GoodIn wsX7_goneOn (wsV RX7 31 RX7 yX7_returns wsX7_returns) := goodIn_app (goodIn_of _ (by decide +kernel)) ggX7_goneOn_X7_returns
theorem dX7_goneOn_0 : decode cX7_goneOn 0 = .ok (.aload_n 0, 1) := by decide +kernel
theorem dX7_goneOn_1 : decode cX7_goneOn 1 = .ok (.iload_n 1, 1) := by decide +kernel
theorem dX7_goneOn_2 : decode cX7_goneOn 2 = .ok (.invokevirtual 113, 3) := by decide +kernel
theorem dX7_goneOn_5 : decode cX7_goneOn 5 = .ok (.ifCond .ne 5, 3) := by decide +kernel
theorem dX7_goneOn_8 : decode cX7_goneOn 8 = .ok (.iconst (-1), 1) := by decide +kernel
theorem dX7_goneOn_9 : decode cX7_goneOn 9 = .ok (.ireturn, 1) := by decide +kernel
theorem dX7_goneOn_10 : decode cX7_goneOn 10 = .ok (.aload_n 0, 1) := by decide +kernel
theorem dX7_goneOn_11 : decode cX7_goneOn 11 = .ok (.iload_n 1, 1) := by decide +kernel
theorem dX7_goneOn_12 : decode cX7_goneOn 12 = .ok (.iconst 3, 1) := by decide +kernel
theorem dX7_goneOn_13 : decode cX7_goneOn 13 = .ok (.invokevirtual 54, 3) := by decide +kernel
theorem dX7_goneOn_16 : decode cX7_goneOn 16 = .ok (.iconst 1, 1) := by decide +kernel
theorem dX7_goneOn_17 : decode cX7_goneOn 17 = .ok (.if_icmp .le 6, 3) := by decide +kernel
theorem dX7_goneOn_20 : decode cX7_goneOn 20 = .ok (.bipush (-2), 2) := by decide +kernel
theorem dX7_goneOn_22 : decode cX7_goneOn 22 = .ok (.ireturn, 1) := by decide +kernel
theorem dX7_goneOn_23 : decode cX7_goneOn 23 = .ok (.aload_n 0, 1) := by decide +kernel
theorem dX7_goneOn_24 : decode cX7_goneOn 24 = .ok (.invokevirtual 119, 3) := by decide +kernel
theorem dX7_goneOn_27 : decode cX7_goneOn 27 = .ok (.aload_n 0, 1) := by decide +kernel
theorem dX7_goneOn_28 : decode cX7_goneOn 28 = .ok (.iload_n 1, 1) := by decide +kernel
theorem dX7_goneOn_29 : decode cX7_goneOn 29 = .ok (.iconst 3, 1) := by decide +kernel
theorem dX7_goneOn_30 : decode cX7_goneOn 30 = .ok (.invokevirtual 54, 3) := by decide +kernel
theorem dX7_goneOn_33 : decode cX7_goneOn 33 = .ok (.iconst 1, 1) := by decide +kernel
theorem dX7_goneOn_34 : decode cX7_goneOn 34 = .ok (.if_icmp .gt 10, 3) := by decide +kernel
theorem dX7_goneOn_37 : decode cX7_goneOn 37 = .ok (.aload_n 0, 1) := by decide +kernel
theorem dX7_goneOn_38 : decode cX7_goneOn 38 = .ok (.invokevirtual 100, 3) := by decide +kernel
theorem dX7_goneOn_41 : decode cX7_goneOn 41 = .ok (.goto (-14), 3) := by decide +kernel
theorem dX7_goneOn_44 : decode cX7_goneOn 44 = .ok (.aload_n 0, 1) := by decide +kernel
theorem dX7_goneOn_45 : decode cX7_goneOn 45 = .ok (.iload_n 1, 1) := by decide +kernel
theorem dX7_goneOn_46 : decode cX7_goneOn 46 = .ok (.iconst 3, 1) := by decide +kernel
theorem dX7_goneOn_47 : decode cX7_goneOn 47 = .ok (.invokevirtual 54, 3) := by decide +kernel
theorem dX7_goneOn_50 : decode cX7_goneOn 50 = .ok (.iconst 2, 1) := by decide +kernel
theorem dX7_goneOn_51 : decode cX7_goneOn 51 = .ok (.if_icmp .ne 14, 3) := by decide +kernel
theorem dX7_goneOn_54 : decode cX7_goneOn 54 = .ok (.aload_n 0, 1) := by decide +kernel
theorem dX7_goneOn_55 : decode cX7_goneOn 55 = .ok (.getfield 7, 3) := by decide +kernel
theorem dX7_goneOn_58 : decode cX7_goneOn 58 = .ok (.iconst 0, 1) := by decide +kernel
theorem dX7_goneOn_59 : decode cX7_goneOn 59 = .ok (.iaload, 1) := by decide +kernel
theorem dX7_goneOn_60 : decode cX7_goneOn 60 = .ok (.iconst 1, 1) := by decide +kernel
theorem dX7_goneOn_61 : decode cX7_goneOn 61 = .ok (.isub, 1) := by decide +kernel
theorem dX7_goneOn_62 : decode cX7_goneOn 62 = .ok (.goto 5, 3) := by decide +kernel
theorem dX7_goneOn_65 : decode cX7_goneOn 65 = .ok (.bipush (-4), 2) := by decide +kernel
theorem dX7_goneOn_67 : decode cX7_goneOn 67 = .ok (.istore_n 2, 1) := by decide +kernel
theorem dX7_goneOn_68 : decode cX7_goneOn 68 = .ok (.aload_n 0, 1) := by decide +kernel
theorem dX7_goneOn_69 : decode cX7_goneOn 69 = .ok (.invokevirtual 31, 3) := by decide +kernel
theorem dX7_goneOn_72 : decode cX7_goneOn 72 = .ok (.iload_n 2, 1) := by decide +kernel
theorem dX7_goneOn_73 : decode cX7_goneOn 73 = .ok (.ireturn, 1) := by decide +kernel
set_option maxRecDepth 20000 in
theorem ggX7_outOn_X7_in : GoodIn wsX7_outOn wsX7_in := goodIn_r _ [5] (by decide +kernel) (by decide +kernel)
set_option maxRecDepth 20000 in
theorem gX7_outOn_X7_in : GoodIn wsX7_outOn (va_wsS RX7 50 yX7_in wsX7_in) := goodIn_app (goodIn_of _ (by decide +kernel)) ggX7_outOn_X7_in
set_option maxRecDepth 20000 in
theorem ggX7_outOn_X7_begins : GoodIn wsX7_outOn wsX7_begins := goodIn_r _ [9, 10, 1, 83, 84, 85, 86, 87, 88, 89, 90, 91, 92, 93, 94, 95, 96] (by decide +kernel) (by decide +kernel)
set_option maxRecDepth 20000 in
theorem gX7_outOn_X7_begins : GoodIn wsX7_outOn (wsV RX7 119 RX7 yX7_begins wsX7_begins) := goodIn_app (goodIn_of _ (by decide +kernel)) ggX7_outOn_X7_begins
set_option maxRecDepth 20000 in
theorem ggX7_outOn_X7_isAny : GoodIn wsX7_outOn wsX7_isAny := goodIn_r _ [14, 15, 16, 17, 4, 18, 1, 19, 20, 21, 22, 83, 84, 85, 86, 87, 88, 89, 90, 91, 92, 93, 94, 95, 96] (by decide +kernel) (by decide +kernel)
set_option maxRecDepth 20000 in
theorem gX7_outOn_X7_isAny : GoodIn wsX7_outOn (wsV RX7 96 RX7 yX7_isAny wsX7_isAny) := goodIn_app (goodIn_of _ (by decide +kernel)) ggX7_outOn_X7_isAny
set_option maxRecDepth 20000 in
theorem ggX7_outOn_X7_night : GoodIn wsX7_outOn wsX7_night := goodIn_r _ [26, 1, 27, 28, 29, 4, 30, 31, 32, 33, 34, 19, 20, 21, 22, 35, 36, 37, 38, 39, 40, 41, 42, 43, 44, 45, 46, 47, 48, 49, 50, 51, 52, 53, 54, 55, 56, 57, 58, 59, 60, 61, 62, 63, 64, 65, 66, 67, 68, 69, 70, 71, 72, 73, 74, 75, 76, 77, 78, 83, 84, 85, 86, 87, 88, 89, 90, 91, 92, 93, 94, 95, 96] (by decide +kernel) (by decide +kernel)
set_option maxRecDepth 20000 in
theorem gX7_outOn_X7_night : GoodIn wsX7_outOn (wsV RX7 100 RX7 yX7_night wsX7_night) := goodIn_app (goodIn_of _ (by decide +kernel)) ggX7_outOn_X7_night
set_option maxRecDepth 20000 in
theorem ggX7_outOn_X7_stock : GoodIn wsX7_outOn wsX7_stock := goodIn_r _ [54, 1, 55, 56, 57, 4, 58, 83, 84, 85, 86, 87, 88, 89, 90, 91, 92, 93, 94, 95, 96] (by decide +kernel) (by decide +kernel)
set_option maxRecDepth 20000 in
theorem gX7_outOn_X7_stock : GoodIn wsX7_outOn (wsV RX7 72 RX7 yX7_stock wsX7_stock) := goodIn_app (goodIn_of _ (by decide +kernel)) ggX7_outOn_X7_stock
set_option maxRecDepth 20000 in
theorem ggX7_outOn_X7_returns : GoodIn wsX7_outOn wsX7_returns := goodIn_r _ [82, 1, 10, 83, 84, 85, 86, 87, 88, 89, 90, 91, 92, 93, 94, 95, 96] (by decide +kernel) (by decide +kernel)
set_option maxRecDepth 20000 in
theorem gX7_outOn_X7_returns : GoodIn wsX7_outOn (wsV RX7 31 RX7 yX7_returns wsX7_returns) := goodIn_app (goodIn_of _ (by decide +kernel)) ggX7_outOn_X7_returns
theorem dX7_outOn_0 : decode cX7_outOn 0 = .ok (.iload_n 1, 1) := by decide +kernel
theorem dX7_outOn_1 : decode cX7_outOn 1 = .ok (.iconst 0, 1) := by decide +kernel
theorem dX7_outOn_2 : decode cX7_outOn 2 = .ok (.iconst 2, 1) := by decide +kernel
theorem dX7_outOn_3 : decode cX7_outOn 3 = .ok (.invokestatic 50, 3) := by decide +kernel
theorem dX7_outOn_6 : decode cX7_outOn 6 = .ok (.ifCond .ne 5, 3) := by decide +kernel
theorem dX7_outOn_9 : decode cX7_outOn 9 = .ok (.iconst (-1), 1) := by decide +kernel
theorem dX7_outOn_10 : decode cX7_outOn 10 = .ok (.ireturn, 1) := by decide +kernel
theorem dX7_outOn_11 : decode cX7_outOn 11 = .ok (.aload_n 0, 1) := by decide +kernel
theorem dX7_outOn_12 : decode cX7_outOn 12 = .ok (.invokevirtual 119, 3) := by decide +kernel
theorem dX7_outOn_15 : decode cX7_outOn 15 = .ok (.bipush (-4), 2) := by decide +kernel
theorem dX7_outOn_17 : decode cX7_outOn 17 = .ok (.istore_n 2, 1) := by decide +kernel
theorem dX7_outOn_18 : decode cX7_outOn 18 = .ok (.iload_n 2, 1) := by decide +kernel
theorem dX7_outOn_19 : decode cX7_outOn 19 = .ok (.ifCond .ge 39, 3) := by decide +kernel
theorem dX7_outOn_22 : decode cX7_outOn 22 = .ok (.aload_n 0, 1) := by decide +kernel
theorem dX7_outOn_23 : decode cX7_outOn 23 = .ok (.invokevirtual 96, 3) := by decide +kernel
theorem dX7_outOn_26 : decode cX7_outOn 26 = .ok (.ifCond .eq 32, 3) := by decide +kernel
theorem dX7_outOn_29 : decode cX7_outOn 29 = .ok (.aload_n 0, 1) := by decide +kernel
theorem dX7_outOn_30 : decode cX7_outOn 30 = .ok (.invokevirtual 100, 3) := by decide +kernel
theorem dX7_outOn_33 : decode cX7_outOn 33 = .ok (.aload_n 0, 1) := by decide +kernel
theorem dX7_outOn_34 : decode cX7_outOn 34 = .ok (.iload_n 1, 1) := by decide +kernel
theorem dX7_outOn_35 : decode cX7_outOn 35 = .ok (.invokevirtual 72, 3) := by decide +kernel
theorem dX7_outOn_38 : decode cX7_outOn 38 = .ok (.ifCond .ne 14, 3) := by decide +kernel
theorem dX7_outOn_41 : decode cX7_outOn 41 = .ok (.aload_n 0, 1) := by decide +kernel
theorem dX7_outOn_42 : decode cX7_outOn 42 = .ok (.getfield 7, 3) := by decide +kernel
theorem dX7_outOn_45 : decode cX7_outOn 45 = .ok (.iconst 0, 1) := by decide +kernel
theorem dX7_outOn_46 : decode cX7_outOn 46 = .ok (.iaload, 1) := by decide +kernel
theorem dX7_outOn_47 : decode cX7_outOn 47 = .ok (.iconst 1, 1) := by decide +kernel
theorem dX7_outOn_48 : decode cX7_outOn 48 = .ok (.isub, 1) := by decide +kernel
theorem dX7_outOn_49 : decode cX7_outOn 49 = .ok (.goto 5, 3) := by decide +kernel
theorem dX7_outOn_52 : decode cX7_outOn 52 = .ok (.bipush (-4), 2) := by decide +kernel
theorem dX7_outOn_54 : decode cX7_outOn 54 = .ok (.istore_n 2, 1) := by decide +kernel
theorem dX7_outOn_55 : decode cX7_outOn 55 = .ok (.goto (-37), 3) := by decide +kernel
theorem dX7_outOn_58 : decode cX7_outOn 58 = .ok (.aload_n 0, 1) := by decide +kernel
theorem dX7_outOn_59 : decode cX7_outOn 59 = .ok (.invokevirtual 31, 3) := by decide +kernel
theorem dX7_outOn_62 : decode cX7_outOn 62 = .ok (.iload_n 2, 1) := by decide +kernel
theorem dX7_outOn_63 : decode cX7_outOn 63 = .ok (.ireturn, 1) := by decide +kernel
set_option maxRecDepth 20000 in
theorem ggX7_most_X7_isStay : GoodIn wsX7_most wsX7_isStay := goodIn_r _ [6, 1, 7, 8, 5, 9, 87, 88, 89, 90, 91, 92, 93, 94, 95, 96, 97, 98, 99, 100] (by decide +kernel) (by decide +kernel)
set_option maxRecDepth 20000 in
theorem gX7_most_X7_isStay : GoodIn wsX7_most (wsV RX7 106 RX7 yX7_isStay wsX7_isStay) := goodIn_app (goodIn_of _ (by decide +kernel)) ggX7_most_X7_isStay
set_option maxRecDepth 20000 in
theorem ggX7_most_X7_isTaken : GoodIn wsX7_most wsX7_isTaken := goodIn_r _ [13, 14, 1, 15, 16, 17, 5, 18, 19, 20, 21, 22, 23, 24, 25, 26, 27, 28, 29, 30, 31, 32, 33, 34, 35, 36, 37, 38, 39, 40, 41, 42, 43, 44, 45, 46, 47, 48, 49, 50, 51, 52, 53, 54, 55, 56, 57, 58, 59, 60, 61, 62, 63, 64, 65, 66, 67, 68, 69, 70, 71, 72, 73, 74, 75, 76, 77, 78, 79, 80, 81, 82, 83, 84, 85, 86, 87, 88, 89, 90, 91, 92, 93, 94, 95, 96, 97, 98, 99, 100] (by decide +kernel) (by decide +kernel)
set_option maxRecDepth 20000 in
theorem gX7_most_X7_isTaken : GoodIn wsX7_most (wsV RX7 110 RX7 yX7_isTaken wsX7_isTaken) := goodIn_app (goodIn_of _ (by decide +kernel)) ggX7_most_X7_isTaken
theorem dX7_most_0 : decode cX7_most 0 = .ok (.aload_n 0, 1) := by decide +kernel
theorem dX7_most_1 : decode cX7_most 1 = .ok (.iload_n 1, 1) := by decide +kernel
theorem dX7_most_2 : decode cX7_most 2 = .ok (.iload_n 2, 1) := by decide +kernel
theorem dX7_most_3 : decode cX7_most 3 = .ok (.invokevirtual 106, 3) := by decide +kernel
theorem dX7_most_6 : decode cX7_most 6 = .ok (.ifCond .ne 5, 3) := by decide +kernel
theorem dX7_most_9 : decode cX7_most 9 = .ok (.iconst (-1), 1) := by decide +kernel
theorem dX7_most_10 : decode cX7_most 10 = .ok (.ireturn, 1) := by decide +kernel
theorem dX7_most_11 : decode cX7_most 11 = .ok (.aload_n 0, 1) := by decide +kernel
theorem dX7_most_12 : decode cX7_most 12 = .ok (.getfield 7, 3) := by decide +kernel
theorem dX7_most_15 : decode cX7_most 15 = .ok (.iconst 4, 1) := by decide +kernel
theorem dX7_most_16 : decode cX7_most 16 = .ok (.iaload, 1) := by decide +kernel
theorem dX7_most_17 : decode cX7_most 17 = .ok (.bipush 16, 2) := by decide +kernel
theorem dX7_most_19 : decode cX7_most 19 = .ok (.if_icmp .ne 6, 3) := by decide +kernel
theorem dX7_most_22 : decode cX7_most 22 = .ok (.bipush (-3), 2) := by decide +kernel
theorem dX7_most_24 : decode cX7_most 24 = .ok (.ireturn, 1) := by decide +kernel
theorem dX7_most_25 : decode cX7_most 25 = .ok (.bipush 6, 2) := by decide +kernel
theorem dX7_most_27 : decode cX7_most 27 = .ok (.istore_n 3, 1) := by decide +kernel
theorem dX7_most_28 : decode cX7_most 28 = .ok (.iload_n 3, 1) := by decide +kernel
theorem dX7_most_29 : decode cX7_most 29 = .ok (.ifCond .le 19, 3) := by decide +kernel
theorem dX7_most_32 : decode cX7_most 32 = .ok (.aload_n 0, 1) := by decide +kernel
theorem dX7_most_33 : decode cX7_most 33 = .ok (.iload_n 3, 1) := by decide +kernel
theorem dX7_most_34 : decode cX7_most 34 = .ok (.iload_n 1, 1) := by decide +kernel
theorem dX7_most_35 : decode cX7_most 35 = .ok (.iload_n 2, 1) := by decide +kernel
theorem dX7_most_36 : decode cX7_most 36 = .ok (.invokevirtual 110, 3) := by decide +kernel
theorem dX7_most_39 : decode cX7_most 39 = .ok (.ifCond .ne 9, 3) := by decide +kernel
theorem dX7_most_42 : decode cX7_most 42 = .ok (.iinc 3 (-1), 3) := by decide +kernel
theorem dX7_most_45 : decode cX7_most 45 = .ok (.goto (-17), 3) := by decide +kernel
theorem dX7_most_48 : decode cX7_most 48 = .ok (.iload_n 3, 1) := by decide +kernel
theorem dX7_most_49 : decode cX7_most 49 = .ok (.ireturn, 1) := by decide +kernel
theorem dX7_keep_0 : decode cX7_keep 0 = .ok (.iconst 0, 1) := by decide +kernel
theorem dX7_keep_1 : decode cX7_keep 1 = .ok (.istore_n 1, 1) := by decide +kernel
theorem dX7_keep_2 : decode cX7_keep 2 = .ok (.iload_n 1, 1) := by decide +kernel
theorem dX7_keep_3 : decode cX7_keep 3 = .ok (.sipush 599, 3) := by decide +kernel
theorem dX7_keep_6 : decode cX7_keep 6 = .ok (.if_icmp .ge 21, 3) := by decide +kernel
theorem dX7_keep_9 : decode cX7_keep 9 = .ok (.aload_n 0, 1) := by decide +kernel
theorem dX7_keep_10 : decode cX7_keep 10 = .ok (.getfield 16, 3) := by decide +kernel
theorem dX7_keep_13 : decode cX7_keep 13 = .ok (.iload_n 1, 1) := by decide +kernel
theorem dX7_keep_14 : decode cX7_keep 14 = .ok (.aload_n 0, 1) := by decide +kernel
theorem dX7_keep_15 : decode cX7_keep 15 = .ok (.getfield 7, 3) := by decide +kernel
theorem dX7_keep_18 : decode cX7_keep 18 = .ok (.iload_n 1, 1) := by decide +kernel
theorem dX7_keep_19 : decode cX7_keep 19 = .ok (.iaload, 1) := by decide +kernel
theorem dX7_keep_20 : decode cX7_keep 20 = .ok (.iastore, 1) := by decide +kernel
theorem dX7_keep_21 : decode cX7_keep 21 = .ok (.iinc 1 1, 3) := by decide +kernel
theorem dX7_keep_24 : decode cX7_keep 24 = .ok (.goto (-22), 3) := by decide +kernel
theorem dX7_keep_27 : decode cX7_keep 27 = .ok (.aload_n 0, 1) := by decide +kernel
theorem dX7_keep_28 : decode cX7_keep 28 = .ok (.iconst 1, 1) := by decide +kernel
theorem dX7_keep_29 : decode cX7_keep 29 = .ok (.putfield 156, 3) := by decide +kernel
theorem dX7_keep_32 : decode cX7_keep 32 = .ok (.aload_n 0, 1) := by decide +kernel
theorem dX7_keep_33 : decode cX7_keep 33 = .ok (.getfield 7, 3) := by decide +kernel
theorem dX7_keep_36 : decode cX7_keep 36 = .ok (.iconst 0, 1) := by decide +kernel
theorem dX7_keep_37 : decode cX7_keep 37 = .ok (.iaload, 1) := by decide +kernel
theorem dX7_keep_38 : decode cX7_keep 38 = .ok (.ireturn, 1) := by decide +kernel
set_option maxRecDepth 20000 in
theorem ggX7_restore_X7_begins : GoodIn wsX7_restore wsX7_begins := goodIn_r _ [8, 9, 2, 20, 21, 22, 23, 24, 25, 26, 27, 28, 29, 30, 31, 32, 33] (by decide +kernel) (by decide +kernel)
set_option maxRecDepth 20000 in
theorem gX7_restore_X7_begins : GoodIn wsX7_restore (wsV RX7 119 RX7 yX7_begins wsX7_begins) := goodIn_app (goodIn_of _ (by decide +kernel)) ggX7_restore_X7_begins
set_option maxRecDepth 20000 in
theorem ggX7_restore_X7_acted : GoodIn wsX7_restore wsX7_acted := goodIn_r _ [13, 14, 15, 9, 16, 17, 18, 7, 19, 2, 20, 21, 22, 23, 24, 25, 26, 27, 28, 29, 30, 31, 32, 33] (by decide +kernel) (by decide +kernel)
set_option maxRecDepth 20000 in
theorem gX7_restore_X7_acted : GoodIn wsX7_restore (wsV RX7 126 RX7 yX7_acted wsX7_acted) := goodIn_app (goodIn_of _ (by decide +kernel)) ggX7_restore_X7_acted
theorem dX7_restore_0 : decode cX7_restore 0 = .ok (.aload_n 0, 1) := by decide +kernel
theorem dX7_restore_1 : decode cX7_restore 1 = .ok (.invokevirtual 119, 3) := by decide +kernel
theorem dX7_restore_4 : decode cX7_restore 4 = .ok (.aload_n 0, 1) := by decide +kernel
theorem dX7_restore_5 : decode cX7_restore 5 = .ok (.getfield 156, 3) := by decide +kernel
theorem dX7_restore_8 : decode cX7_restore 8 = .ok (.ifCond .ne 6, 3) := by decide +kernel
theorem dX7_restore_11 : decode cX7_restore 11 = .ok (.bipush (-2), 2) := by decide +kernel
theorem dX7_restore_13 : decode cX7_restore 13 = .ok (.ireturn, 1) := by decide +kernel
theorem dX7_restore_14 : decode cX7_restore 14 = .ok (.iconst 0, 1) := by decide +kernel
theorem dX7_restore_15 : decode cX7_restore 15 = .ok (.istore_n 1, 1) := by decide +kernel
theorem dX7_restore_16 : decode cX7_restore 16 = .ok (.iload_n 1, 1) := by decide +kernel
theorem dX7_restore_17 : decode cX7_restore 17 = .ok (.sipush 599, 3) := by decide +kernel
theorem dX7_restore_20 : decode cX7_restore 20 = .ok (.if_icmp .ge 21, 3) := by decide +kernel
theorem dX7_restore_23 : decode cX7_restore 23 = .ok (.aload_n 0, 1) := by decide +kernel
theorem dX7_restore_24 : decode cX7_restore 24 = .ok (.getfield 7, 3) := by decide +kernel
theorem dX7_restore_27 : decode cX7_restore 27 = .ok (.iload_n 1, 1) := by decide +kernel
theorem dX7_restore_28 : decode cX7_restore 28 = .ok (.aload_n 0, 1) := by decide +kernel
theorem dX7_restore_29 : decode cX7_restore 29 = .ok (.getfield 16, 3) := by decide +kernel
theorem dX7_restore_32 : decode cX7_restore 32 = .ok (.iload_n 1, 1) := by decide +kernel
theorem dX7_restore_33 : decode cX7_restore 33 = .ok (.iaload, 1) := by decide +kernel
theorem dX7_restore_34 : decode cX7_restore 34 = .ok (.iastore, 1) := by decide +kernel
theorem dX7_restore_35 : decode cX7_restore 35 = .ok (.iinc 1 1, 3) := by decide +kernel
theorem dX7_restore_38 : decode cX7_restore 38 = .ok (.goto (-22), 3) := by decide +kernel
theorem dX7_restore_41 : decode cX7_restore 41 = .ok (.aload_n 0, 1) := by decide +kernel
theorem dX7_restore_42 : decode cX7_restore 42 = .ok (.aload_n 0, 1) := by decide +kernel
theorem dX7_restore_43 : decode cX7_restore 43 = .ok (.getfield 7, 3) := by decide +kernel
theorem dX7_restore_46 : decode cX7_restore 46 = .ok (.iconst 0, 1) := by decide +kernel
theorem dX7_restore_47 : decode cX7_restore 47 = .ok (.iaload, 1) := by decide +kernel
theorem dX7_restore_48 : decode cX7_restore 48 = .ok (.invokevirtual 126, 3) := by decide +kernel
theorem dX7_restore_51 : decode cX7_restore 51 = .ok (.ireturn, 1) := by decide +kernel
theorem dX7_undo_0 : decode cX7_undo 0 = .ok (.aload_n 0, 1) := by decide +kernel
theorem dX7_undo_1 : decode cX7_undo 1 = .ok (.getfield 34, 3) := by decide +kernel
theorem dX7_undo_4 : decode cX7_undo 4 = .ok (.ifCond .ne 6, 3) := by decide +kernel
theorem dX7_undo_7 : decode cX7_undo 7 = .ok (.bipush (-2), 2) := by decide +kernel
theorem dX7_undo_9 : decode cX7_undo 9 = .ok (.ireturn, 1) := by decide +kernel
theorem dX7_undo_10 : decode cX7_undo 10 = .ok (.aload_n 0, 1) := by decide +kernel
theorem dX7_undo_11 : decode cX7_undo 11 = .ok (.dup, 1) := by decide +kernel
theorem dX7_undo_12 : decode cX7_undo 12 = .ok (.getfield 34, 3) := by decide +kernel
theorem dX7_undo_15 : decode cX7_undo 15 = .ok (.iconst 1, 1) := by decide +kernel
theorem dX7_undo_16 : decode cX7_undo 16 = .ok (.isub, 1) := by decide +kernel
theorem dX7_undo_17 : decode cX7_undo 17 = .ok (.putfield 34, 3) := by decide +kernel
theorem dX7_undo_20 : decode cX7_undo 20 = .ok (.iconst 0, 1) := by decide +kernel
theorem dX7_undo_21 : decode cX7_undo 21 = .ok (.istore_n 1, 1) := by decide +kernel
theorem dX7_undo_22 : decode cX7_undo 22 = .ok (.iload_n 1, 1) := by decide +kernel
theorem dX7_undo_23 : decode cX7_undo 23 = .ok (.sipush 599, 3) := by decide +kernel
theorem dX7_undo_26 : decode cX7_undo 26 = .ok (.if_icmp .ge 30, 3) := by decide +kernel
theorem dX7_undo_29 : decode cX7_undo 29 = .ok (.aload_n 0, 1) := by decide +kernel
theorem dX7_undo_30 : decode cX7_undo 30 = .ok (.getfield 7, 3) := by decide +kernel
theorem dX7_undo_33 : decode cX7_undo 33 = .ok (.iload_n 1, 1) := by decide +kernel
theorem dX7_undo_34 : decode cX7_undo 34 = .ok (.aload_n 0, 1) := by decide +kernel
theorem dX7_undo_35 : decode cX7_undo 35 = .ok (.getfield 19, 3) := by decide +kernel
theorem dX7_undo_38 : decode cX7_undo 38 = .ok (.sipush 599, 3) := by decide +kernel
theorem dX7_undo_41 : decode cX7_undo 41 = .ok (.aload_n 0, 1) := by decide +kernel
theorem dX7_undo_42 : decode cX7_undo 42 = .ok (.getfield 34, 3) := by decide +kernel
theorem dX7_undo_45 : decode cX7_undo 45 = .ok (.imul, 1) := by decide +kernel
theorem dX7_undo_46 : decode cX7_undo 46 = .ok (.iload_n 1, 1) := by decide +kernel
theorem dX7_undo_47 : decode cX7_undo 47 = .ok (.iadd, 1) := by decide +kernel
theorem dX7_undo_48 : decode cX7_undo 48 = .ok (.iaload, 1) := by decide +kernel
theorem dX7_undo_49 : decode cX7_undo 49 = .ok (.iastore, 1) := by decide +kernel
theorem dX7_undo_50 : decode cX7_undo 50 = .ok (.iinc 1 1, 3) := by decide +kernel
theorem dX7_undo_53 : decode cX7_undo 53 = .ok (.goto (-31), 3) := by decide +kernel
theorem dX7_undo_56 : decode cX7_undo 56 = .ok (.aload_n 0, 1) := by decide +kernel
theorem dX7_undo_57 : decode cX7_undo 57 = .ok (.getfield 34, 3) := by decide +kernel
theorem dX7_undo_60 : decode cX7_undo 60 = .ok (.ireturn, 1) := by decide +kernel
set_option maxRecDepth 20000 in
theorem ggX7_type_X7_in : GoodIn wsX7_type wsX7_in := goodIn_r _ [6] (by decide +kernel) (by decide +kernel)
set_option maxRecDepth 20000 in
theorem gX7_type_X7_in : GoodIn wsX7_type (va_wsS RX7 50 yX7_in wsX7_in) := goodIn_app (goodIn_of _ (by decide +kernel)) ggX7_type_X7_in
theorem dX7_type_0 : decode cX7_type 0 = .ok (.iload_n 1, 1) := by decide +kernel
theorem dX7_type_1 : decode cX7_type 1 = .ok (.bipush 32, 2) := by decide +kernel
theorem dX7_type_3 : decode cX7_type 3 = .ok (.bipush 126, 2) := by decide +kernel
theorem dX7_type_5 : decode cX7_type 5 = .ok (.invokestatic 50, 3) := by decide +kernel
theorem dX7_type_8 : decode cX7_type 8 = .ok (.ifCond .ne 5, 3) := by decide +kernel
theorem dX7_type_11 : decode cX7_type 11 = .ok (.iconst (-1), 1) := by decide +kernel
theorem dX7_type_12 : decode cX7_type 12 = .ok (.ireturn, 1) := by decide +kernel
theorem dX7_type_13 : decode cX7_type 13 = .ok (.aload_n 0, 1) := by decide +kernel
theorem dX7_type_14 : decode cX7_type 14 = .ok (.getfield 153, 3) := by decide +kernel
theorem dX7_type_17 : decode cX7_type 17 = .ok (.bipush 60, 2) := by decide +kernel
theorem dX7_type_19 : decode cX7_type 19 = .ok (.if_icmp .ne 6, 3) := by decide +kernel
theorem dX7_type_22 : decode cX7_type 22 = .ok (.bipush (-3), 2) := by decide +kernel
theorem dX7_type_24 : decode cX7_type 24 = .ok (.ireturn, 1) := by decide +kernel
theorem dX7_type_25 : decode cX7_type 25 = .ok (.aload_n 0, 1) := by decide +kernel
theorem dX7_type_26 : decode cX7_type 26 = .ok (.getfield 22, 3) := by decide +kernel
theorem dX7_type_29 : decode cX7_type 29 = .ok (.aload_n 0, 1) := by decide +kernel
theorem dX7_type_30 : decode cX7_type 30 = .ok (.getfield 153, 3) := by decide +kernel
theorem dX7_type_33 : decode cX7_type 33 = .ok (.iload_n 1, 1) := by decide +kernel
theorem dX7_type_34 : decode cX7_type 34 = .ok (.iastore, 1) := by decide +kernel
theorem dX7_type_35 : decode cX7_type 35 = .ok (.aload_n 0, 1) := by decide +kernel
theorem dX7_type_36 : decode cX7_type 36 = .ok (.dup, 1) := by decide +kernel
theorem dX7_type_37 : decode cX7_type 37 = .ok (.getfield 153, 3) := by decide +kernel
theorem dX7_type_40 : decode cX7_type 40 = .ok (.iconst 1, 1) := by decide +kernel
theorem dX7_type_41 : decode cX7_type 41 = .ok (.iadd, 1) := by decide +kernel
theorem dX7_type_42 : decode cX7_type 42 = .ok (.putfield 153, 3) := by decide +kernel
theorem dX7_type_45 : decode cX7_type 45 = .ok (.aload_n 0, 1) := by decide +kernel
theorem dX7_type_46 : decode cX7_type 46 = .ok (.getfield 153, 3) := by decide +kernel
theorem dX7_type_49 : decode cX7_type 49 = .ok (.ireturn, 1) := by decide +kernel
theorem dX7_clearText_0 : decode cX7_clearText 0 = .ok (.aload_n 0, 1) := by decide +kernel
theorem dX7_clearText_1 : decode cX7_clearText 1 = .ok (.getfield 153, 3) := by decide +kernel
theorem dX7_clearText_4 : decode cX7_clearText 4 = .ok (.istore_n 1, 1) := by decide +kernel
theorem dX7_clearText_5 : decode cX7_clearText 5 = .ok (.aload_n 0, 1) := by decide +kernel
theorem dX7_clearText_6 : decode cX7_clearText 6 = .ok (.iconst 0, 1) := by decide +kernel
theorem dX7_clearText_7 : decode cX7_clearText 7 = .ok (.putfield 153, 3) := by decide +kernel
theorem dX7_clearText_10 : decode cX7_clearText 10 = .ok (.iload_n 1, 1) := by decide +kernel
theorem dX7_clearText_11 : decode cX7_clearText 11 = .ok (.ireturn, 1) := by decide +kernel
theorem dX7_here_0 : decode cX7_here 0 = .ok (.aload_n 0, 1) := by decide +kernel
theorem dX7_here_1 : decode cX7_here 1 = .ok (.getfield 160, 3) := by decide +kernel
theorem dX7_here_4 : decode cX7_here 4 = .ok (.aload_n 0, 1) := by decide +kernel
theorem dX7_here_5 : decode cX7_here 5 = .ok (.getfield 153, 3) := by decide +kernel
theorem dX7_here_8 : decode cX7_here 8 = .ok (.if_icmp .ge 15, 3) := by decide +kernel
theorem dX7_here_11 : decode cX7_here 11 = .ok (.aload_n 0, 1) := by decide +kernel
theorem dX7_here_12 : decode cX7_here 12 = .ok (.getfield 22, 3) := by decide +kernel
theorem dX7_here_15 : decode cX7_here 15 = .ok (.aload_n 0, 1) := by decide +kernel
theorem dX7_here_16 : decode cX7_here 16 = .ok (.getfield 160, 3) := by decide +kernel
theorem dX7_here_19 : decode cX7_here 19 = .ok (.iaload, 1) := by decide +kernel
theorem dX7_here_20 : decode cX7_here 20 = .ok (.goto 4, 3) := by decide +kernel
theorem dX7_here_23 : decode cX7_here 23 = .ok (.iconst (-1), 1) := by decide +kernel
theorem dX7_here_24 : decode cX7_here 24 = .ok (.ireturn, 1) := by decide +kernel
set_option maxRecDepth 20000 in
theorem ggX7_isDigit_X7_here : GoodIn wsX7_isDigit wsX7_here := goodIn_r _ [5, 6, 7, 8, 12, 13, 14, 15, 16, 17, 18, 19, 20, 21, 22, 23, 24, 25] (by decide +kernel) (by decide +kernel)
set_option maxRecDepth 20000 in
theorem gX7_isDigit_X7_here : GoodIn wsX7_isDigit (wsV RX7 163 RX7 yX7_here wsX7_here) := goodIn_app (goodIn_of _ (by decide +kernel)) ggX7_isDigit_X7_here
set_option maxRecDepth 20000 in
theorem ggX7_isDigit_X7_in : GoodIn wsX7_isDigit wsX7_in := goodIn_r _ [11] (by decide +kernel) (by decide +kernel)
set_option maxRecDepth 20000 in
theorem gX7_isDigit_X7_in : GoodIn wsX7_isDigit (va_wsS RX7 50 yX7_in wsX7_in) := goodIn_app (goodIn_of _ (by decide +kernel)) ggX7_isDigit_X7_in
theorem dX7_isDigit_0 : decode cX7_isDigit 0 = .ok (.aload_n 0, 1) := by decide +kernel
theorem dX7_isDigit_1 : decode cX7_isDigit 1 = .ok (.invokevirtual 163, 3) := by decide +kernel
theorem dX7_isDigit_4 : decode cX7_isDigit 4 = .ok (.bipush 48, 2) := by decide +kernel
theorem dX7_isDigit_6 : decode cX7_isDigit 6 = .ok (.bipush 57, 2) := by decide +kernel
theorem dX7_isDigit_8 : decode cX7_isDigit 8 = .ok (.invokestatic 50, 3) := by decide +kernel
theorem dX7_isDigit_11 : decode cX7_isDigit 11 = .ok (.ireturn, 1) := by decide +kernel
set_option maxRecDepth 20000 in
theorem ggX7_takesSign_X7_here : GoodIn wsX7_takesSign wsX7_here := goodIn_r _ [7, 2, 8, 9, 10, 11, 12, 13, 14, 15, 16, 17, 18, 19, 20, 21, 22, 23] (by decide +kernel) (by decide +kernel)
set_option maxRecDepth 20000 in
theorem gX7_takesSign_X7_here : GoodIn wsX7_takesSign (wsV RX7 163 RX7 yX7_here wsX7_here) := goodIn_app (goodIn_of _ (by decide +kernel)) ggX7_takesSign_X7_here
theorem dX7_takesSign_0 : decode cX7_takesSign 0 = .ok (.aload_n 0, 1) := by decide +kernel
theorem dX7_takesSign_1 : decode cX7_takesSign 1 = .ok (.aload_n 0, 1) := by decide +kernel
theorem dX7_takesSign_2 : decode cX7_takesSign 2 = .ok (.getfield 166, 3) := by decide +kernel
theorem dX7_takesSign_5 : decode cX7_takesSign 5 = .ok (.ifCond .eq 15, 3) := by decide +kernel
theorem dX7_takesSign_8 : decode cX7_takesSign 8 = .ok (.aload_n 0, 1) := by decide +kernel
theorem dX7_takesSign_9 : decode cX7_takesSign 9 = .ok (.invokevirtual 163, 3) := by decide +kernel
theorem dX7_takesSign_12 : decode cX7_takesSign 12 = .ok (.iload_n 1, 1) := by decide +kernel
theorem dX7_takesSign_13 : decode cX7_takesSign 13 = .ok (.if_icmp .ne 7, 3) := by decide +kernel
theorem dX7_takesSign_16 : decode cX7_takesSign 16 = .ok (.iconst 1, 1) := by decide +kernel
theorem dX7_takesSign_17 : decode cX7_takesSign 17 = .ok (.goto 4, 3) := by decide +kernel
theorem dX7_takesSign_20 : decode cX7_takesSign 20 = .ok (.iconst 0, 1) := by decide +kernel
theorem dX7_takesSign_21 : decode cX7_takesSign 21 = .ok (.putfield 166, 3) := by decide +kernel
theorem dX7_takesSign_24 : decode cX7_takesSign 24 = .ok (.aload_n 0, 1) := by decide +kernel
theorem dX7_takesSign_25 : decode cX7_takesSign 25 = .ok (.dup, 1) := by decide +kernel
theorem dX7_takesSign_26 : decode cX7_takesSign 26 = .ok (.getfield 160, 3) := by decide +kernel
theorem dX7_takesSign_29 : decode cX7_takesSign 29 = .ok (.aload_n 0, 1) := by decide +kernel
theorem dX7_takesSign_30 : decode cX7_takesSign 30 = .ok (.getfield 166, 3) := by decide +kernel
theorem dX7_takesSign_33 : decode cX7_takesSign 33 = .ok (.ifCond .eq 7, 3) := by decide +kernel
theorem dX7_takesSign_36 : decode cX7_takesSign 36 = .ok (.iconst 1, 1) := by decide +kernel
theorem dX7_takesSign_37 : decode cX7_takesSign 37 = .ok (.goto 4, 3) := by decide +kernel
theorem dX7_takesSign_40 : decode cX7_takesSign 40 = .ok (.iconst 0, 1) := by decide +kernel
theorem dX7_takesSign_41 : decode cX7_takesSign 41 = .ok (.iadd, 1) := by decide +kernel
theorem dX7_takesSign_42 : decode cX7_takesSign 42 = .ok (.putfield 160, 3) := by decide +kernel
theorem dX7_takesSign_45 : decode cX7_takesSign 45 = .ok (.return_, 1) := by decide +kernel
set_option maxRecDepth 20000 in
theorem ggX7_number_X7_isDigit : GoodIn wsX7_number wsX7_isDigit := goodIn_r _ [7, 8, 9, 10, 6, 11, 2, 12, 13, 14, 15, 16, 17, 18, 19, 20, 21, 22, 23, 24, 25, 26, 27, 28, 29, 30] (by decide +kernel) (by decide +kernel)
set_option maxRecDepth 20000 in
theorem gX7_number_X7_isDigit : GoodIn wsX7_number (wsV RX7 169 RX7 yX7_isDigit wsX7_isDigit) := goodIn_app (goodIn_of _ (by decide +kernel)) ggX7_number_X7_isDigit
set_option maxRecDepth 20000 in
theorem ggX7_number_X7_here : GoodIn wsX7_number wsX7_here := goodIn_r _ [11, 2, 12, 13, 17, 18, 19, 20, 21, 22, 23, 24, 25, 26, 27, 28, 29, 30] (by decide +kernel) (by decide +kernel)
set_option maxRecDepth 20000 in
theorem gX7_number_X7_here : GoodIn wsX7_number (wsV RX7 163 RX7 yX7_here wsX7_here) := goodIn_app (goodIn_of _ (by decide +kernel)) ggX7_number_X7_here
theorem dX7_number_0 : decode cX7_number 0 = .ok (.aload_n 0, 1) := by decide +kernel
theorem dX7_number_1 : decode cX7_number 1 = .ok (.aload_n 0, 1) := by decide +kernel
theorem dX7_number_2 : decode cX7_number 2 = .ok (.getfield 166, 3) := by decide +kernel
theorem dX7_number_5 : decode cX7_number 5 = .ok (.ifCond .eq 14, 3) := by decide +kernel
theorem dX7_number_8 : decode cX7_number 8 = .ok (.aload_n 0, 1) := by decide +kernel
theorem dX7_number_9 : decode cX7_number 9 = .ok (.invokevirtual 169, 3) := by decide +kernel
theorem dX7_number_12 : decode cX7_number 12 = .ok (.ifCond .eq 7, 3) := by decide +kernel
theorem dX7_number_15 : decode cX7_number 15 = .ok (.iconst 1, 1) := by decide +kernel
theorem dX7_number_16 : decode cX7_number 16 = .ok (.goto 4, 3) := by decide +kernel
theorem dX7_number_19 : decode cX7_number 19 = .ok (.iconst 0, 1) := by decide +kernel
theorem dX7_number_20 : decode cX7_number 20 = .ok (.putfield 166, 3) := by decide +kernel
theorem dX7_number_23 : decode cX7_number 23 = .ok (.iconst 0, 1) := by decide +kernel
theorem dX7_number_24 : decode cX7_number 24 = .ok (.istore_n 1, 1) := by decide +kernel
theorem dX7_number_25 : decode cX7_number 25 = .ok (.iconst 0, 1) := by decide +kernel
theorem dX7_number_26 : decode cX7_number 26 = .ok (.istore_n 2, 1) := by decide +kernel
theorem dX7_number_27 : decode cX7_number 27 = .ok (.iload_n 2, 1) := by decide +kernel
theorem dX7_number_28 : decode cX7_number 28 = .ok (.iconst 3, 1) := by decide +kernel
theorem dX7_number_29 : decode cX7_number 29 = .ok (.if_icmp .ge 46, 3) := by decide +kernel
theorem dX7_number_32 : decode cX7_number 32 = .ok (.aload_n 0, 1) := by decide +kernel
theorem dX7_number_33 : decode cX7_number 33 = .ok (.getfield 166, 3) := by decide +kernel
theorem dX7_number_36 : decode cX7_number 36 = .ok (.ifCond .eq 39, 3) := by decide +kernel
end
section
theorem dX7_number_39 : decode cX7_number 39 = .ok (.aload_n 0, 1) := by decide +kernel
theorem dX7_number_40 : decode cX7_number 40 = .ok (.invokevirtual 169, 3) := by decide +kernel
theorem dX7_number_43 : decode cX7_number 43 = .ok (.ifCond .eq 32, 3) := by decide +kernel
theorem dX7_number_46 : decode cX7_number 46 = .ok (.bipush 10, 2) := by decide +kernel
theorem dX7_number_48 : decode cX7_number 48 = .ok (.iload_n 1, 1) := by decide +kernel
theorem dX7_number_49 : decode cX7_number 49 = .ok (.imul, 1) := by decide +kernel
theorem dX7_number_50 : decode cX7_number 50 = .ok (.aload_n 0, 1) := by decide +kernel
theorem dX7_number_51 : decode cX7_number 51 = .ok (.invokevirtual 163, 3) := by decide +kernel
theorem dX7_number_54 : decode cX7_number 54 = .ok (.iadd, 1) := by decide +kernel
theorem dX7_number_55 : decode cX7_number 55 = .ok (.bipush 48, 2) := by decide +kernel
theorem dX7_number_57 : decode cX7_number 57 = .ok (.isub, 1) := by decide +kernel
theorem dX7_number_58 : decode cX7_number 58 = .ok (.istore_n 1, 1) := by decide +kernel
theorem dX7_number_59 : decode cX7_number 59 = .ok (.aload_n 0, 1) := by decide +kernel
theorem dX7_number_60 : decode cX7_number 60 = .ok (.dup, 1) := by decide +kernel
theorem dX7_number_61 : decode cX7_number 61 = .ok (.getfield 160, 3) := by decide +kernel
theorem dX7_number_64 : decode cX7_number 64 = .ok (.iconst 1, 1) := by decide +kernel
theorem dX7_number_65 : decode cX7_number 65 = .ok (.iadd, 1) := by decide +kernel
theorem dX7_number_66 : decode cX7_number 66 = .ok (.putfield 160, 3) := by decide +kernel
theorem dX7_number_69 : decode cX7_number 69 = .ok (.iinc 2 1, 3) := by decide +kernel
theorem dX7_number_72 : decode cX7_number 72 = .ok (.goto (-45), 3) := by decide +kernel
theorem dX7_number_75 : decode cX7_number 75 = .ok (.iload_n 1, 1) := by decide +kernel
theorem dX7_number_76 : decode cX7_number 76 = .ok (.ireturn, 1) := by decide +kernel
theorem dX7_wants_0 : decode cX7_wants 0 = .ok (.iload_n 0, 1) := by decide +kernel
theorem dX7_wants_1 : decode cX7_wants 1 = .ok (.lookupswitch 57 #[(98, 51), (108, 51), (110, 55), (115, 53), (120, 55)], 51) := by decide +kernel
theorem dX7_wants_52 : decode cX7_wants 52 = .ok (.iconst 3, 1) := by decide +kernel
theorem dX7_wants_53 : decode cX7_wants 53 = .ok (.ireturn, 1) := by decide +kernel
theorem dX7_wants_54 : decode cX7_wants 54 = .ok (.iconst 2, 1) := by decide +kernel
theorem dX7_wants_55 : decode cX7_wants 55 = .ok (.ireturn, 1) := by decide +kernel
theorem dX7_wants_56 : decode cX7_wants 56 = .ok (.iconst 1, 1) := by decide +kernel
theorem dX7_wants_57 : decode cX7_wants 57 = .ok (.ireturn, 1) := by decide +kernel
theorem dX7_wants_58 : decode cX7_wants 58 = .ok (.iload_n 0, 1) := by decide +kernel
theorem dX7_wants_59 : decode cX7_wants 59 = .ok (.bipush 102, 2) := by decide +kernel
theorem dX7_wants_61 : decode cX7_wants 61 = .ok (.if_icmp .ne 7, 3) := by decide +kernel
theorem dX7_wants_64 : decode cX7_wants 64 = .ok (.iconst 0, 1) := by decide +kernel
theorem dX7_wants_65 : decode cX7_wants 65 = .ok (.goto 4, 3) := by decide +kernel
theorem dX7_wants_68 : decode cX7_wants 68 = .ok (.iconst (-1), 1) := by decide +kernel
theorem dX7_wants_69 : decode cX7_wants 69 = .ok (.ireturn, 1) := by decide +kernel
set_option maxRecDepth 20000 in
theorem ggX7_called_X7_loads : GoodIn wsX7_called wsX7_loads := goodIn_r _ [6, 7, 8, 9, 5, 10, 124, 125, 126, 127, 128, 129, 130, 131, 132, 133, 134, 135, 136, 137] (by decide +kernel) (by decide +kernel)
set_option maxRecDepth 20000 in
theorem gX7_called_X7_loads : GoodIn wsX7_called (wsV RX7 122 RX7 yX7_loads wsX7_loads) := goodIn_app (goodIn_of _ (by decide +kernel)) ggX7_called_X7_loads
set_option maxRecDepth 20000 in
theorem ggX7_called_X7_books : GoodIn wsX7_called wsX7_books := goodIn_r _ [14, 7, 8, 9, 5, 10, 15, 16, 17, 18, 19, 20, 21, 22, 23, 24, 25, 26, 27, 28, 29, 30, 31, 32, 33, 34, 35, 36, 37, 38, 39, 40, 41, 42, 43, 44, 45, 46, 47, 48, 49, 50, 51, 52, 53, 54, 55, 56, 57, 58, 59, 60, 61, 62, 63, 64, 65, 66, 67, 68, 69, 70, 71, 72, 73, 74, 75, 76, 77, 78, 79, 80, 81, 82, 83, 84, 85, 86, 87, 88, 89, 90, 91, 92, 93, 94, 95, 124, 125, 126, 127, 128, 129, 130, 131, 132, 133, 134, 135, 136, 137] (by decide +kernel) (by decide +kernel)
set_option maxRecDepth 20000 in
theorem gX7_called_X7_books : GoodIn wsX7_called (wsV RX7 132 RX7 yX7_books wsX7_books) := goodIn_app (goodIn_of _ (by decide +kernel)) ggX7_called_X7_books
set_option maxRecDepth 20000 in
theorem ggX7_called_X7_storms : GoodIn wsX7_called wsX7_storms := goodIn_r _ [99, 7, 8, 9, 5, 10, 100, 101, 102, 103, 124, 125, 126, 127, 128, 129, 130, 131, 132, 133, 134, 135, 136, 137] (by decide +kernel) (by decide +kernel)
set_option maxRecDepth 20000 in
theorem gX7_called_X7_storms : GoodIn wsX7_called (wsV RX7 138 RX7 yX7_storms wsX7_storms) := goodIn_app (goodIn_of _ (by decide +kernel)) ggX7_called_X7_storms
set_option maxRecDepth 20000 in
theorem ggX7_called_X7_cancels : GoodIn wsX7_called wsX7_cancels := goodIn_r _ [107, 108, 109, 110, 5, 111, 7, 8, 9, 10, 40, 41, 42, 43, 28, 29, 30, 31, 36, 37, 38, 39, 124, 125, 126, 127, 128, 129, 130, 131, 132, 133, 134, 135, 136, 137] (by decide +kernel) (by decide +kernel)
set_option maxRecDepth 20000 in
theorem gX7_called_X7_cancels : GoodIn wsX7_called (wsV RX7 135 RX7 yX7_cancels wsX7_cancels) := goodIn_app (goodIn_of _ (by decide +kernel)) ggX7_called_X7_cancels
set_option maxRecDepth 20000 in
theorem ggX7_called_X7_sleeps : GoodIn wsX7_called wsX7_sleeps := goodIn_r _ [115, 7, 8, 9, 5, 10, 44, 45, 46, 47, 48, 49, 50, 51, 52, 53, 54, 55, 40, 41, 42, 43, 28, 29, 30, 31, 56, 57, 58, 59, 60, 61, 62, 63, 64, 65, 66, 67, 68, 69, 70, 71, 72, 73, 74, 75, 76, 77, 78, 79, 80, 81, 82, 83, 84, 85, 86, 87, 88, 89, 90, 91, 92, 93, 94, 95, 124, 125, 126, 127, 128, 129, 130, 131, 132, 133, 134, 135, 136, 137] (by decide +kernel) (by decide +kernel)
set_option maxRecDepth 20000 in
theorem gX7_called_X7_sleeps : GoodIn wsX7_called (wsV RX7 141 RX7 yX7_sleeps wsX7_sleeps) := goodIn_app (goodIn_of _ (by decide +kernel)) ggX7_called_X7_sleeps
set_option maxRecDepth 20000 in
theorem ggX7_called_X7_flies : GoodIn wsX7_called wsX7_flies := goodIn_r _ [119, 7, 48, 49, 50, 5, 51, 120, 121, 122, 123, 72, 73, 74, 75, 124, 125, 126, 127, 128, 129, 130, 131, 132, 133, 134, 135, 136, 137] (by decide +kernel) (by decide +kernel)
set_option maxRecDepth 20000 in
theorem gX7_called_X7_flies : GoodIn wsX7_called (wsV RX7 129 RX7 yX7_flies wsX7_flies) := goodIn_app (goodIn_of _ (by decide +kernel)) ggX7_called_X7_flies
theorem dX7_called_0 : decode cX7_called 0 = .ok (.iload_n 1, 1) := by decide +kernel
theorem dX7_called_1 : decode cX7_called 1 = .ok (.lookupswitch 136 #[(98, 74), (108, 51), (110, 125), (115, 97), (120, 114)], 51) := by decide +kernel
theorem dX7_called_52 : decode cX7_called 52 = .ok (.aload_n 0, 1) := by decide +kernel
theorem dX7_called_53 : decode cX7_called 53 = .ok (.aload_n 0, 1) := by decide +kernel
theorem dX7_called_54 : decode cX7_called 54 = .ok (.getfield 28, 3) := by decide +kernel
theorem dX7_called_57 : decode cX7_called 57 = .ok (.iconst 0, 1) := by decide +kernel
theorem dX7_called_58 : decode cX7_called 58 = .ok (.iaload, 1) := by decide +kernel
theorem dX7_called_59 : decode cX7_called 59 = .ok (.aload_n 0, 1) := by decide +kernel
theorem dX7_called_60 : decode cX7_called 60 = .ok (.getfield 28, 3) := by decide +kernel
theorem dX7_called_63 : decode cX7_called 63 = .ok (.iconst 1, 1) := by decide +kernel
theorem dX7_called_64 : decode cX7_called 64 = .ok (.iaload, 1) := by decide +kernel
theorem dX7_called_65 : decode cX7_called 65 = .ok (.aload_n 0, 1) := by decide +kernel
theorem dX7_called_66 : decode cX7_called 66 = .ok (.getfield 28, 3) := by decide +kernel
theorem dX7_called_69 : decode cX7_called 69 = .ok (.iconst 2, 1) := by decide +kernel
theorem dX7_called_70 : decode cX7_called 70 = .ok (.iaload, 1) := by decide +kernel
theorem dX7_called_71 : decode cX7_called 71 = .ok (.invokevirtual 122, 3) := by decide +kernel
theorem dX7_called_74 : decode cX7_called 74 = .ok (.ireturn, 1) := by decide +kernel
theorem dX7_called_75 : decode cX7_called 75 = .ok (.aload_n 0, 1) := by decide +kernel
theorem dX7_called_76 : decode cX7_called 76 = .ok (.aload_n 0, 1) := by decide +kernel
theorem dX7_called_77 : decode cX7_called 77 = .ok (.getfield 28, 3) := by decide +kernel
theorem dX7_called_80 : decode cX7_called 80 = .ok (.iconst 0, 1) := by decide +kernel
theorem dX7_called_81 : decode cX7_called 81 = .ok (.iaload, 1) := by decide +kernel
theorem dX7_called_82 : decode cX7_called 82 = .ok (.aload_n 0, 1) := by decide +kernel
theorem dX7_called_83 : decode cX7_called 83 = .ok (.getfield 28, 3) := by decide +kernel
theorem dX7_called_86 : decode cX7_called 86 = .ok (.iconst 1, 1) := by decide +kernel
theorem dX7_called_87 : decode cX7_called 87 = .ok (.iaload, 1) := by decide +kernel
theorem dX7_called_88 : decode cX7_called 88 = .ok (.aload_n 0, 1) := by decide +kernel
theorem dX7_called_89 : decode cX7_called 89 = .ok (.getfield 28, 3) := by decide +kernel
theorem dX7_called_92 : decode cX7_called 92 = .ok (.iconst 2, 1) := by decide +kernel
theorem dX7_called_93 : decode cX7_called 93 = .ok (.iaload, 1) := by decide +kernel
theorem dX7_called_94 : decode cX7_called 94 = .ok (.invokevirtual 132, 3) := by decide +kernel
theorem dX7_called_97 : decode cX7_called 97 = .ok (.ireturn, 1) := by decide +kernel
theorem dX7_called_98 : decode cX7_called 98 = .ok (.aload_n 0, 1) := by decide +kernel
theorem dX7_called_99 : decode cX7_called 99 = .ok (.aload_n 0, 1) := by decide +kernel
theorem dX7_called_100 : decode cX7_called 100 = .ok (.getfield 28, 3) := by decide +kernel
theorem dX7_called_103 : decode cX7_called 103 = .ok (.iconst 0, 1) := by decide +kernel
theorem dX7_called_104 : decode cX7_called 104 = .ok (.iaload, 1) := by decide +kernel
theorem dX7_called_105 : decode cX7_called 105 = .ok (.aload_n 0, 1) := by decide +kernel
theorem dX7_called_106 : decode cX7_called 106 = .ok (.getfield 28, 3) := by decide +kernel
theorem dX7_called_109 : decode cX7_called 109 = .ok (.iconst 1, 1) := by decide +kernel
theorem dX7_called_110 : decode cX7_called 110 = .ok (.iaload, 1) := by decide +kernel
theorem dX7_called_111 : decode cX7_called 111 = .ok (.invokevirtual 138, 3) := by decide +kernel
theorem dX7_called_114 : decode cX7_called 114 = .ok (.ireturn, 1) := by decide +kernel
theorem dX7_called_115 : decode cX7_called 115 = .ok (.aload_n 0, 1) := by decide +kernel
theorem dX7_called_116 : decode cX7_called 116 = .ok (.aload_n 0, 1) := by decide +kernel
theorem dX7_called_117 : decode cX7_called 117 = .ok (.getfield 28, 3) := by decide +kernel
theorem dX7_called_120 : decode cX7_called 120 = .ok (.iconst 0, 1) := by decide +kernel
theorem dX7_called_121 : decode cX7_called 121 = .ok (.iaload, 1) := by decide +kernel
theorem dX7_called_122 : decode cX7_called 122 = .ok (.invokevirtual 135, 3) := by decide +kernel
theorem dX7_called_125 : decode cX7_called 125 = .ok (.ireturn, 1) := by decide +kernel
theorem dX7_called_126 : decode cX7_called 126 = .ok (.aload_n 0, 1) := by decide +kernel
theorem dX7_called_127 : decode cX7_called 127 = .ok (.aload_n 0, 1) := by decide +kernel
theorem dX7_called_128 : decode cX7_called 128 = .ok (.getfield 28, 3) := by decide +kernel
theorem dX7_called_131 : decode cX7_called 131 = .ok (.iconst 0, 1) := by decide +kernel
theorem dX7_called_132 : decode cX7_called 132 = .ok (.iaload, 1) := by decide +kernel
theorem dX7_called_133 : decode cX7_called 133 = .ok (.invokevirtual 141, 3) := by decide +kernel
theorem dX7_called_136 : decode cX7_called 136 = .ok (.ireturn, 1) := by decide +kernel
theorem dX7_called_137 : decode cX7_called 137 = .ok (.aload_n 0, 1) := by decide +kernel
theorem dX7_called_138 : decode cX7_called 138 = .ok (.invokevirtual 129, 3) := by decide +kernel
theorem dX7_called_141 : decode cX7_called 141 = .ok (.ireturn, 1) := by decide +kernel
set_option maxRecDepth 20000 in
theorem ggX7_does_X7_here : GoodIn wsX7_does wsX7_here := goodIn_r _ [11, 1, 3, 12, 153, 154, 155, 156, 157, 158, 159, 160, 161, 162, 163, 164, 165, 166] (by decide +kernel) (by decide +kernel)
set_option maxRecDepth 20000 in
theorem gX7_does_X7_here : GoodIn wsX7_does (wsV RX7 163 RX7 yX7_here wsX7_here) := goodIn_app (goodIn_of _ (by decide +kernel)) ggX7_does_X7_here
set_option maxRecDepth 20000 in
theorem ggX7_does_X7_wants : GoodIn wsX7_does wsX7_wants := goodIn_r _ [15] (by decide +kernel) (by decide +kernel)
set_option maxRecDepth 20000 in
theorem gX7_does_X7_wants : GoodIn wsX7_does (va_wsS RX7 175 yX7_wants wsX7_wants) := goodIn_app (goodIn_of _ (by decide +kernel)) ggX7_does_X7_wants
set_option maxRecDepth 20000 in
theorem ggX7_does_X7_takesSign : GoodIn wsX7_does wsX7_takesSign := goodIn_r _ [19, 4, 1, 7, 8, 9, 10, 11, 3, 12, 153, 154, 155, 156, 157, 158, 159, 160, 161, 162, 163, 164, 165, 166] (by decide +kernel) (by decide +kernel)
set_option maxRecDepth 20000 in
theorem gX7_does_X7_takesSign : GoodIn wsX7_does (wsV RX7 178 RX7 yX7_takesSign wsX7_takesSign) := goodIn_app (goodIn_of _ (by decide +kernel)) ggX7_does_X7_takesSign
set_option maxRecDepth 20000 in
theorem ggX7_does_X7_number : GoodIn wsX7_does wsX7_number := goodIn_r _ [23, 4, 1, 24, 25, 26, 10, 27, 7, 8, 9, 11, 3, 12, 28, 29, 30, 153, 154, 155, 156, 157, 158, 159, 160, 161, 162, 163, 164, 165, 166] (by decide +kernel) (by decide +kernel)
set_option maxRecDepth 20000 in
theorem gX7_does_X7_number : GoodIn wsX7_does (wsV RX7 181 RX7 yX7_number wsX7_number) := goodIn_app (goodIn_of _ (by decide +kernel)) ggX7_does_X7_number
set_option maxRecDepth 20000 in
theorem ggX7_does_X7_called : GoodIn wsX7_does wsX7_called := goodIn_r _ [34, 5, 35, 36, 37, 10, 38, 39, 28, 29, 30, 40, 41, 42, 43, 44, 45, 46, 47, 48, 49, 50, 51, 52, 53, 54, 55, 56, 57, 58, 59, 60, 61, 62, 63, 64, 65, 66, 67, 68, 69, 70, 71, 72, 73, 74, 75, 76, 77, 78, 79, 80, 81, 82, 83, 84, 85, 86, 87, 88, 89, 90, 91, 92, 93, 94, 95, 96, 97, 98, 99, 100, 101, 102, 103, 104, 105, 106, 107, 108, 109, 110, 111, 112, 113, 114, 115, 116, 117, 118, 119, 120, 121, 122, 123, 124, 125, 126, 127, 128, 129, 130, 131, 132, 133, 134, 135, 136, 137, 138, 139, 140, 141, 142, 143, 144, 145, 146, 147, 148, 149, 150, 151, 152, 153, 154, 155, 156, 157, 158, 159, 160, 161, 162, 163, 164, 165, 166] (by decide +kernel) (by decide +kernel)
set_option maxRecDepth 20000 in
theorem gX7_does_X7_called : GoodIn wsX7_does (wsV RX7 184 RX7 yX7_called wsX7_called) := goodIn_app (goodIn_of _ (by decide +kernel)) ggX7_does_X7_called
theorem dX7_does_0 : decode cX7_does 0 = .ok (.aload_n 0, 1) := by decide +kernel
theorem dX7_does_1 : decode cX7_does 1 = .ok (.iconst 0, 1) := by decide +kernel
theorem dX7_does_2 : decode cX7_does 2 = .ok (.putfield 160, 3) := by decide +kernel
theorem dX7_does_5 : decode cX7_does 5 = .ok (.aload_n 0, 1) := by decide +kernel
theorem dX7_does_6 : decode cX7_does 6 = .ok (.iconst 0, 1) := by decide +kernel
theorem dX7_does_7 : decode cX7_does 7 = .ok (.putfield 172, 3) := by decide +kernel
theorem dX7_does_10 : decode cX7_does 10 = .ok (.aload_n 0, 1) := by decide +kernel
theorem dX7_does_11 : decode cX7_does 11 = .ok (.getfield 160, 3) := by decide +kernel
theorem dX7_does_14 : decode cX7_does 14 = .ok (.aload_n 0, 1) := by decide +kernel
theorem dX7_does_15 : decode cX7_does 15 = .ok (.getfield 153, 3) := by decide +kernel
theorem dX7_does_18 : decode cX7_does 18 = .ok (.if_icmp .ge 141, 3) := by decide +kernel
theorem dX7_does_21 : decode cX7_does 21 = .ok (.aload_n 0, 1) := by decide +kernel
theorem dX7_does_22 : decode cX7_does 22 = .ok (.getfield 160, 3) := by decide +kernel
theorem dX7_does_25 : decode cX7_does 25 = .ok (.istore_n 1, 1) := by decide +kernel
theorem dX7_does_26 : decode cX7_does 26 = .ok (.aload_n 0, 1) := by decide +kernel
theorem dX7_does_27 : decode cX7_does 27 = .ok (.invokevirtual 163, 3) := by decide +kernel
theorem dX7_does_30 : decode cX7_does 30 = .ok (.istore_n 2, 1) := by decide +kernel
theorem dX7_does_31 : decode cX7_does 31 = .ok (.aload_n 0, 1) := by decide +kernel
theorem dX7_does_32 : decode cX7_does 32 = .ok (.iload_n 2, 1) := by decide +kernel
theorem dX7_does_33 : decode cX7_does 33 = .ok (.invokestatic 175, 3) := by decide +kernel
theorem dX7_does_36 : decode cX7_does 36 = .ok (.ifCond .lt 7, 3) := by decide +kernel
theorem dX7_does_39 : decode cX7_does 39 = .ok (.iconst 1, 1) := by decide +kernel
theorem dX7_does_40 : decode cX7_does 40 = .ok (.goto 4, 3) := by decide +kernel
theorem dX7_does_43 : decode cX7_does 43 = .ok (.iconst 0, 1) := by decide +kernel
theorem dX7_does_44 : decode cX7_does 44 = .ok (.putfield 166, 3) := by decide +kernel
theorem dX7_does_47 : decode cX7_does 47 = .ok (.aload_n 0, 1) := by decide +kernel
theorem dX7_does_48 : decode cX7_does 48 = .ok (.dup, 1) := by decide +kernel
theorem dX7_does_49 : decode cX7_does 49 = .ok (.getfield 160, 3) := by decide +kernel
theorem dX7_does_52 : decode cX7_does 52 = .ok (.aload_n 0, 1) := by decide +kernel
theorem dX7_does_53 : decode cX7_does 53 = .ok (.getfield 166, 3) := by decide +kernel
theorem dX7_does_56 : decode cX7_does 56 = .ok (.ifCond .eq 7, 3) := by decide +kernel
theorem dX7_does_59 : decode cX7_does 59 = .ok (.iconst 1, 1) := by decide +kernel
theorem dX7_does_60 : decode cX7_does 60 = .ok (.goto 4, 3) := by decide +kernel
theorem dX7_does_63 : decode cX7_does 63 = .ok (.iconst 0, 1) := by decide +kernel
theorem dX7_does_64 : decode cX7_does 64 = .ok (.iadd, 1) := by decide +kernel
theorem dX7_does_65 : decode cX7_does 65 = .ok (.putfield 160, 3) := by decide +kernel
theorem dX7_does_68 : decode cX7_does 68 = .ok (.iconst 0, 1) := by decide +kernel
theorem dX7_does_69 : decode cX7_does 69 = .ok (.istore_n 3, 1) := by decide +kernel
theorem dX7_does_70 : decode cX7_does 70 = .ok (.iload_n 3, 1) := by decide +kernel
theorem dX7_does_71 : decode cX7_does 71 = .ok (.iload_n 2, 1) := by decide +kernel
theorem dX7_does_72 : decode cX7_does 72 = .ok (.invokestatic 175, 3) := by decide +kernel
theorem dX7_does_75 : decode cX7_does 75 = .ok (.if_icmp .ge 29, 3) := by decide +kernel
theorem dX7_does_78 : decode cX7_does 78 = .ok (.iload_n 3, 1) := by decide +kernel
theorem dX7_does_79 : decode cX7_does 79 = .ok (.ifCond .le 9, 3) := by decide +kernel
theorem dX7_does_82 : decode cX7_does 82 = .ok (.aload_n 0, 1) := by decide +kernel
theorem dX7_does_83 : decode cX7_does 83 = .ok (.bipush 44, 2) := by decide +kernel
theorem dX7_does_85 : decode cX7_does 85 = .ok (.invokevirtual 178, 3) := by decide +kernel
theorem dX7_does_88 : decode cX7_does 88 = .ok (.aload_n 0, 1) := by decide +kernel
theorem dX7_does_89 : decode cX7_does 89 = .ok (.getfield 28, 3) := by decide +kernel
theorem dX7_does_92 : decode cX7_does 92 = .ok (.iload_n 3, 1) := by decide +kernel
theorem dX7_does_93 : decode cX7_does 93 = .ok (.aload_n 0, 1) := by decide +kernel
theorem dX7_does_94 : decode cX7_does 94 = .ok (.invokevirtual 181, 3) := by decide +kernel
theorem dX7_does_97 : decode cX7_does 97 = .ok (.iastore, 1) := by decide +kernel
theorem dX7_does_98 : decode cX7_does 98 = .ok (.iinc 3 1, 3) := by decide +kernel
theorem dX7_does_101 : decode cX7_does 101 = .ok (.goto (-31), 3) := by decide +kernel
theorem dX7_does_104 : decode cX7_does 104 = .ok (.aload_n 0, 1) := by decide +kernel
theorem dX7_does_105 : decode cX7_does 105 = .ok (.bipush 59, 2) := by decide +kernel
theorem dX7_does_107 : decode cX7_does 107 = .ok (.invokevirtual 178, 3) := by decide +kernel
theorem dX7_does_110 : decode cX7_does 110 = .ok (.aload_n 0, 1) := by decide +kernel
theorem dX7_does_111 : decode cX7_does 111 = .ok (.aload_n 0, 1) := by decide +kernel
theorem dX7_does_112 : decode cX7_does 112 = .ok (.getfield 166, 3) := by decide +kernel
theorem dX7_does_115 : decode cX7_does 115 = .ok (.ifCond .eq 11, 3) := by decide +kernel
theorem dX7_does_118 : decode cX7_does 118 = .ok (.aload_n 0, 1) := by decide +kernel
theorem dX7_does_119 : decode cX7_does 119 = .ok (.iload_n 2, 1) := by decide +kernel
theorem dX7_does_120 : decode cX7_does 120 = .ok (.invokevirtual 184, 3) := by decide +kernel
theorem dX7_does_123 : decode cX7_does 123 = .ok (.goto 4, 3) := by decide +kernel
theorem dX7_does_126 : decode cX7_does 126 = .ok (.iconst 0, 1) := by decide +kernel
theorem dX7_does_127 : decode cX7_does 127 = .ok (.putfield 187, 3) := by decide +kernel
theorem dX7_does_130 : decode cX7_does 130 = .ok (.aload_n 0, 1) := by decide +kernel
theorem dX7_does_131 : decode cX7_does 131 = .ok (.getfield 166, 3) := by decide +kernel
theorem dX7_does_134 : decode cX7_does 134 = .ok (.ifCond .eq 10, 3) := by decide +kernel
theorem dX7_does_137 : decode cX7_does 137 = .ok (.aload_n 0, 1) := by decide +kernel
theorem dX7_does_138 : decode cX7_does 138 = .ok (.getfield 187, 3) := by decide +kernel
theorem dX7_does_141 : decode cX7_does 141 = .ok (.ifCond .ge 5, 3) := by decide +kernel
theorem dX7_does_144 : decode cX7_does 144 = .ok (.iload_n 1, 1) := by decide +kernel
theorem dX7_does_145 : decode cX7_does 145 = .ok (.ireturn, 1) := by decide +kernel
theorem dX7_does_146 : decode cX7_does 146 = .ok (.aload_n 0, 1) := by decide +kernel
theorem dX7_does_147 : decode cX7_does 147 = .ok (.dup, 1) := by decide +kernel
theorem dX7_does_148 : decode cX7_does 148 = .ok (.getfield 172, 3) := by decide +kernel
theorem dX7_does_151 : decode cX7_does 151 = .ok (.iconst 1, 1) := by decide +kernel
theorem dX7_does_152 : decode cX7_does 152 = .ok (.iadd, 1) := by decide +kernel
theorem dX7_does_153 : decode cX7_does 153 = .ok (.putfield 172, 3) := by decide +kernel
theorem dX7_does_156 : decode cX7_does 156 = .ok (.goto (-146), 3) := by decide +kernel
theorem dX7_does_159 : decode cX7_does 159 = .ok (.iconst (-1), 1) := by decide +kernel
theorem dX7_does_160 : decode cX7_does 160 = .ok (.ireturn, 1) := by decide +kernel
set_option maxRecDepth 20000 in
theorem ggX7_fault_X7_in : GoodIn wsX7_fault wsX7_in := goodIn_r _ [6] (by decide +kernel) (by decide +kernel)
set_option maxRecDepth 20000 in
theorem gX7_fault_X7_in : GoodIn wsX7_fault (va_wsS RX7 50 yX7_in wsX7_in) := goodIn_app (goodIn_of _ (by decide +kernel)) ggX7_fault_X7_in
set_option maxRecDepth 20000 in
theorem ggX7_fault_X7_begins : GoodIn wsX7_fault wsX7_begins := goodIn_r _ [10, 11, 12, 166, 167, 168, 169, 170, 171, 172, 173, 174, 175, 176, 177, 178, 179] (by decide +kernel) (by decide +kernel)
set_option maxRecDepth 20000 in
theorem gX7_fault_X7_begins : GoodIn wsX7_fault (wsV RX7 119 RX7 yX7_begins wsX7_begins) := goodIn_app (goodIn_of _ (by decide +kernel)) ggX7_fault_X7_begins
set_option maxRecDepth 20000 in
theorem ggX7_fault_X7_does : GoodIn wsX7_fault wsX7_does := goodIn_r _ [16, 17, 18, 19, 1, 20, 2, 21, 22, 23, 5, 24, 25, 26, 27, 28, 29, 30, 31, 32, 33, 34, 35, 36, 37, 38, 39, 40, 3, 4, 6, 41, 42, 43, 44, 45, 46, 47, 48, 12, 49, 50, 51, 52, 53, 54, 55, 56, 57, 58, 59, 60, 61, 62, 63, 64, 65, 66, 67, 68, 69, 70, 71, 72, 73, 74, 75, 76, 77, 78, 79, 80, 81, 82, 83, 84, 85, 86, 87, 88, 89, 90, 91, 92, 93, 94, 95, 96, 97, 98, 99, 100, 101, 102, 103, 104, 105, 106, 107, 108, 109, 110, 111, 112, 113, 114, 115, 116, 117, 118, 119, 120, 121, 122, 123, 124, 125, 126, 127, 128, 129, 130, 131, 132, 133, 134, 135, 136, 137, 138, 139, 140, 141, 142, 143, 144, 145, 146, 147, 148, 149, 150, 151, 152, 153, 154, 155, 156, 157, 158, 159, 160, 161, 166, 167, 168, 169, 170, 171, 172, 173, 174, 175, 176, 177, 178, 179] (by decide +kernel) (by decide +kernel)
set_option maxRecDepth 20000 in
theorem gX7_fault_X7_does : GoodIn wsX7_fault (wsV RX7 190 RX7 yX7_does wsX7_does) := goodIn_app (goodIn_of _ (by decide +kernel)) ggX7_fault_X7_does
set_option maxRecDepth 20000 in
theorem ggX7_fault_X7_returns : GoodIn wsX7_fault wsX7_returns := goodIn_r _ [165, 12, 11, 166, 167, 168, 169, 170, 171, 172, 173, 174, 175, 176, 177, 178, 179] (by decide +kernel) (by decide +kernel)
set_option maxRecDepth 20000 in
theorem gX7_fault_X7_returns : GoodIn wsX7_fault (wsV RX7 31 RX7 yX7_returns wsX7_returns) := goodIn_app (goodIn_of _ (by decide +kernel)) ggX7_fault_X7_returns
theorem dX7_fault_0 : decode cX7_fault 0 = .ok (.iload_n 1, 1) := by decide +kernel
theorem dX7_fault_1 : decode cX7_fault 1 = .ok (.iconst 0, 1) := by decide +kernel
theorem dX7_fault_2 : decode cX7_fault 2 = .ok (.iconst 2, 1) := by decide +kernel
theorem dX7_fault_3 : decode cX7_fault 3 = .ok (.invokestatic 50, 3) := by decide +kernel
theorem dX7_fault_6 : decode cX7_fault 6 = .ok (.ifCond .ne 5, 3) := by decide +kernel
theorem dX7_fault_9 : decode cX7_fault 9 = .ok (.iconst (-1), 1) := by decide +kernel
theorem dX7_fault_10 : decode cX7_fault 10 = .ok (.ireturn, 1) := by decide +kernel
theorem dX7_fault_11 : decode cX7_fault 11 = .ok (.aload_n 0, 1) := by decide +kernel
theorem dX7_fault_12 : decode cX7_fault 12 = .ok (.invokevirtual 119, 3) := by decide +kernel
theorem dX7_fault_15 : decode cX7_fault 15 = .ok (.aload_n 0, 1) := by decide +kernel
theorem dX7_fault_16 : decode cX7_fault 16 = .ok (.invokevirtual 190, 3) := by decide +kernel
theorem dX7_fault_19 : decode cX7_fault 19 = .ok (.istore_n 2, 1) := by decide +kernel
theorem dX7_fault_20 : decode cX7_fault 20 = .ok (.aload_n 0, 1) := by decide +kernel
theorem dX7_fault_21 : decode cX7_fault 21 = .ok (.invokevirtual 31, 3) := by decide +kernel
theorem dX7_fault_24 : decode cX7_fault 24 = .ok (.iload_n 2, 1) := by decide +kernel
theorem dX7_fault_25 : decode cX7_fault 25 = .ok (.ifCond .lt 19, 3) := by decide +kernel
theorem dX7_fault_28 : decode cX7_fault 28 = .ok (.iload_n 1, 1) := by decide +kernel
theorem dX7_fault_29 : decode cX7_fault 29 = .ok (.iconst 2, 1) := by decide +kernel
theorem dX7_fault_30 : decode cX7_fault 30 = .ok (.if_icmp .lt 10, 3) := by decide +kernel
theorem dX7_fault_33 : decode cX7_fault 33 = .ok (.aload_n 0, 1) := by decide +kernel
theorem dX7_fault_34 : decode cX7_fault 34 = .ok (.getfield 166, 3) := by decide +kernel
theorem dX7_fault_37 : decode cX7_fault 37 = .ok (.ifCond .eq 7, 3) := by decide +kernel
theorem dX7_fault_40 : decode cX7_fault 40 = .ok (.iconst 1, 1) := by decide +kernel
theorem dX7_fault_41 : decode cX7_fault 41 = .ok (.goto 4, 3) := by decide +kernel
theorem dX7_fault_44 : decode cX7_fault 44 = .ok (.iconst 0, 1) := by decide +kernel
theorem dX7_fault_45 : decode cX7_fault 45 = .ok (.istore_n 3, 1) := by decide +kernel
theorem dX7_fault_46 : decode cX7_fault 46 = .ok (.iload_n 3, 1) := by decide +kernel
theorem dX7_fault_47 : decode cX7_fault 47 = .ok (.ifCond .ne 8, 3) := by decide +kernel
theorem dX7_fault_50 : decode cX7_fault 50 = .ok (.bipush (-4), 2) := by decide +kernel
theorem dX7_fault_52 : decode cX7_fault 52 = .ok (.goto 35, 3) := by decide +kernel
theorem dX7_fault_55 : decode cX7_fault 55 = .ok (.iload_n 1, 1) := by decide +kernel
theorem dX7_fault_56 : decode cX7_fault 56 = .ok (.ifCond .ne 7, 3) := by decide +kernel
theorem dX7_fault_59 : decode cX7_fault 59 = .ok (.iload_n 2, 1) := by decide +kernel
theorem dX7_fault_60 : decode cX7_fault 60 = .ok (.goto 27, 3) := by decide +kernel
theorem dX7_fault_63 : decode cX7_fault 63 = .ok (.iload_n 1, 1) := by decide +kernel
theorem dX7_fault_64 : decode cX7_fault 64 = .ok (.iconst 1, 1) := by decide +kernel
theorem dX7_fault_65 : decode cX7_fault 65 = .ok (.if_icmp .ne 18, 3) := by decide +kernel
theorem dX7_fault_68 : decode cX7_fault 68 = .ok (.aload_n 0, 1) := by decide +kernel
theorem dX7_fault_69 : decode cX7_fault 69 = .ok (.getfield 166, 3) := by decide +kernel
theorem dX7_fault_72 : decode cX7_fault 72 = .ok (.ifCond .eq 7, 3) := by decide +kernel
theorem dX7_fault_75 : decode cX7_fault 75 = .ok (.iconst 2, 1) := by decide +kernel
theorem dX7_fault_76 : decode cX7_fault 76 = .ok (.goto 11, 3) := by decide +kernel
theorem dX7_fault_79 : decode cX7_fault 79 = .ok (.iconst 1, 1) := by decide +kernel
theorem dX7_fault_80 : decode cX7_fault 80 = .ok (.goto 7, 3) := by decide +kernel
theorem dX7_fault_83 : decode cX7_fault 83 = .ok (.aload_n 0, 1) := by decide +kernel
theorem dX7_fault_84 : decode cX7_fault 84 = .ok (.getfield 187, 3) := by decide +kernel
theorem dX7_fault_87 : decode cX7_fault 87 = .ok (.ireturn, 1) := by decide +kernel
set_option maxRecDepth 20000 in
theorem ggX7_play_X7_begins : GoodIn wsX7_play wsX7_begins := goodIn_r _ [6, 7, 8, 172, 173, 174, 175, 176, 177, 178, 179, 180, 181, 182, 183, 184, 185] (by decide +kernel) (by decide +kernel)
set_option maxRecDepth 20000 in
theorem gX7_play_X7_begins : GoodIn wsX7_play (wsV RX7 119 RX7 yX7_begins wsX7_begins) := goodIn_app (goodIn_of _ (by decide +kernel)) ggX7_play_X7_begins
set_option maxRecDepth 20000 in
theorem ggX7_play_X7_does : GoodIn wsX7_play wsX7_does := goodIn_r _ [12, 13, 1, 14, 15, 16, 17, 18, 19, 20, 5, 21, 22, 23, 24, 25, 26, 27, 28, 29, 30, 31, 32, 33, 34, 35, 36, 37, 38, 39, 40, 41, 42, 43, 44, 45, 46, 47, 48, 8, 49, 50, 51, 52, 53, 54, 55, 56, 57, 58, 59, 60, 61, 62, 63, 64, 65, 66, 67, 68, 69, 70, 71, 72, 73, 74, 75, 76, 77, 78, 79, 80, 81, 82, 83, 84, 85, 86, 87, 88, 89, 90, 91, 92, 93, 94, 95, 96, 97, 98, 99, 100, 101, 102, 103, 104, 105, 106, 107, 108, 109, 110, 111, 112, 113, 114, 115, 116, 117, 118, 119, 120, 121, 122, 123, 124, 125, 126, 127, 128, 129, 130, 131, 132, 133, 134, 135, 136, 137, 138, 139, 140, 141, 142, 143, 144, 145, 146, 147, 148, 149, 150, 151, 152, 153, 154, 155, 156, 157, 158, 159, 160, 161, 172, 173, 174, 175, 176, 177, 178, 179, 180, 181, 182, 183, 184, 185] (by decide +kernel) (by decide +kernel)
set_option maxRecDepth 20000 in
theorem gX7_play_X7_does : GoodIn wsX7_play (wsV RX7 190 RX7 yX7_does wsX7_does) := goodIn_app (goodIn_of _ (by decide +kernel)) ggX7_play_X7_does
set_option maxRecDepth 20000 in
theorem ggX7_play_X7_acted : GoodIn wsX7_play wsX7_acted := goodIn_r _ [165, 166, 167, 7, 168, 169, 170, 5, 171, 8, 172, 173, 174, 175, 176, 177, 178, 179, 180, 181, 182, 183, 184, 185] (by decide +kernel) (by decide +kernel)
set_option maxRecDepth 20000 in
theorem gX7_play_X7_acted : GoodIn wsX7_play (wsV RX7 126 RX7 yX7_acted wsX7_acted) := goodIn_app (goodIn_of _ (by decide +kernel)) ggX7_play_X7_acted
theorem dX7_play_0 : decode cX7_play 0 = .ok (.aload_n 0, 1) := by decide +kernel
theorem dX7_play_1 : decode cX7_play 1 = .ok (.invokevirtual 119, 3) := by decide +kernel
theorem dX7_play_4 : decode cX7_play 4 = .ok (.aload_n 0, 1) := by decide +kernel
theorem dX7_play_5 : decode cX7_play 5 = .ok (.aload_n 0, 1) := by decide +kernel
theorem dX7_play_6 : decode cX7_play 6 = .ok (.invokevirtual 190, 3) := by decide +kernel
theorem dX7_play_9 : decode cX7_play 9 = .ok (.ifCond .ge 10, 3) := by decide +kernel
theorem dX7_play_12 : decode cX7_play 12 = .ok (.aload_n 0, 1) := by decide +kernel
theorem dX7_play_13 : decode cX7_play 13 = .ok (.getfield 172, 3) := by decide +kernel
theorem dX7_play_16 : decode cX7_play 16 = .ok (.goto 5, 3) := by decide +kernel
theorem dX7_play_19 : decode cX7_play 19 = .ok (.bipush (-2), 2) := by decide +kernel
theorem dX7_play_21 : decode cX7_play 21 = .ok (.invokevirtual 126, 3) := by decide +kernel
theorem dX7_play_24 : decode cX7_play 24 = .ok (.ireturn, 1) := by decide +kernel
theorem dJ9_max_7cf53_0 : decode cJ9_max_7cf53 0 = .ok (.iload_n 0, 1) := by decide +kernel
theorem dJ9_max_7cf53_1 : decode cJ9_max_7cf53 1 = .ok (.iload_n 1, 1) := by decide +kernel
theorem dJ9_max_7cf53_2 : decode cJ9_max_7cf53 2 = .ok (.if_icmp .lt 7, 3) := by decide +kernel
theorem dJ9_max_7cf53_5 : decode cJ9_max_7cf53 5 = .ok (.iload_n 0, 1) := by decide +kernel
theorem dJ9_max_7cf53_6 : decode cJ9_max_7cf53 6 = .ok (.goto 4, 3) := by decide +kernel
theorem dJ9_max_7cf53_9 : decode cJ9_max_7cf53 9 = .ok (.iload_n 1, 1) := by decide +kernel
theorem dJ9_max_7cf53_10 : decode cJ9_max_7cf53 10 = .ok (.ireturn, 1) := by decide +kernel
theorem dJ9_min_7cf53_0 : decode cJ9_min_7cf53 0 = .ok (.iload_n 0, 1) := by decide +kernel
theorem dJ9_min_7cf53_1 : decode cJ9_min_7cf53 1 = .ok (.iload_n 1, 1) := by decide +kernel
theorem dJ9_min_7cf53_2 : decode cJ9_min_7cf53 2 = .ok (.if_icmp .gt 7, 3) := by decide +kernel
theorem dJ9_min_7cf53_5 : decode cJ9_min_7cf53 5 = .ok (.iload_n 0, 1) := by decide +kernel
theorem dJ9_min_7cf53_6 : decode cJ9_min_7cf53 6 = .ok (.goto 4, 3) := by decide +kernel
theorem dJ9_min_7cf53_9 : decode cJ9_min_7cf53 9 = .ok (.iload_n 1, 1) := by decide +kernel
theorem dJ9_min_7cf53_10 : decode cJ9_min_7cf53 10 = .ok (.ireturn, 1) := by decide +kernel
set_option maxRecDepth 20000 in
theorem ggL_law_X6_init : GoodIn wsL_law wsX6_init := goodIn_r _ [8, 9, 10, 11, 12, 13, 14, 15, 16, 17, 18, 19, 20, 21, 22, 23, 24, 25, 26, 27, 28, 29, 30, 31, 32, 33, 34, 35, 36, 37, 38, 39, 40, 41, 42, 43, 44, 45, 46, 47, 48, 49, 50, 51, 52, 53, 54, 55, 56, 57, 58, 59, 60, 61, 62, 63, 64, 65, 66, 67, 68, 69, 70, 71, 72, 73, 74, 75, 76, 77, 78, 79, 80, 81, 82, 83, 84, 85, 86, 87, 88, 89, 90, 91, 92, 777, 778, 779, 780, 781, 782, 783, 784, 785, 786, 756, 757, 758, 759, 760, 761, 762, 787, 788, 789, 790, 791, 792, 793, 794, 795, 796, 797, 798, 799, 800, 801, 802, 803, 804, 805, 806, 807, 808, 809, 810, 811, 812, 813, 814, 815, 816, 817] (by decide +kernel) (by decide +kernel)
set_option maxRecDepth 20000 in
theorem gL_law_X6_init : GoodIn wsL_law (wsX6_init) := ggL_law_X6_init
set_option maxRecDepth 20000 in
theorem ggL_law_X7_init : GoodIn wsL_law wsX7_init := goodIn_r _ [95, 96, 10, 11, 45, 97, 98, 99, 100, 101, 102, 103, 763, 764, 765, 766, 767, 768, 769, 770, 771, 772, 773, 774, 775, 776] (by decide +kernel) (by decide +kernel)
set_option maxRecDepth 20000 in
theorem gL_law_X7_init : GoodIn wsL_law (wsX7_init) := ggL_law_X7_init
set_option maxRecDepth 20000 in
theorem ggL_law_X6_load : GoodIn wsL_law wsX6_load := goodIn_r _ [107, 21, 15, 108, 109, 110, 20, 111, 112, 76, 113, 114, 115, 14, 116, 38, 42, 44, 117, 118, 119, 120, 46, 121, 122, 123, 124, 125, 126, 127, 128, 129, 37, 130, 52, 131, 53, 54, 55, 56, 57, 58, 59, 60, 132, 133, 134, 135, 136, 41, 137, 65, 138, 66, 67, 68, 69, 70, 139, 140, 141, 142, 143, 144, 145, 146, 147, 148, 149, 150, 151, 152, 153, 154, 2, 155, 156, 157, 158, 159, 756, 757, 758, 759, 760, 761, 762, 787, 788, 777, 778, 779, 780, 781, 782, 783, 784, 785, 786, 800, 801, 802, 803, 804, 805, 806, 807, 808, 809, 810, 811, 812, 813, 814, 815, 816, 817] (by decide +kernel) (by decide +kernel)
set_option maxRecDepth 20000 in
theorem gL_law_X6_load : GoodIn wsL_law (wsV RL 13 RX6 yX6_load wsX6_load) := goodIn_app (goodIn_of _ (by decide +kernel)) ggL_law_X6_load
set_option maxRecDepth 20000 in
theorem ggL_law_X7_load : GoodIn wsL_law wsX7_load := goodIn_r _ [163, 164, 165, 166, 5, 167, 98, 97, 168, 169, 170, 171, 172, 173, 174, 175, 176, 177, 178, 179, 100, 180, 181, 182, 183, 763, 764, 765, 766, 767, 768, 769, 770, 771, 772, 773, 774, 775, 776] (by decide +kernel) (by decide +kernel)
set_option maxRecDepth 20000 in
theorem gL_law_X7_load : GoodIn wsL_law (wsV RL 17 RX7 yX7_load wsX7_load) := goodIn_app (goodIn_of _ (by decide +kernel)) ggL_law_X7_load
set_option maxRecDepth 20000 in
theorem ggL_law_X6_fly : GoodIn wsL_law wsX6_fly := goodIn_r _ [187, 21, 15, 108, 109, 110, 20, 111, 112, 76, 113, 114, 115, 14, 116, 38, 42, 44, 117, 118, 119, 120, 46, 121, 122, 123, 124, 125, 126, 127, 128, 129, 37, 130, 52, 131, 53, 54, 55, 56, 57, 58, 59, 60, 132, 133, 134, 135, 136, 41, 137, 65, 138, 66, 67, 68, 69, 70, 139, 188, 189, 190, 191, 144, 192, 193, 194, 195, 196, 197, 198, 199, 200, 201, 202, 203, 204, 205, 146, 147, 152, 153, 154, 2, 155, 156, 157, 158, 159, 756, 757, 758, 759, 760, 761, 762, 787, 788, 777, 778, 779, 780, 781, 782, 783, 784, 785, 786, 800, 801, 802, 803, 804, 805, 806, 807, 808, 809, 810, 811, 812, 813, 814, 815, 816, 817] (by decide +kernel) (by decide +kernel)
set_option maxRecDepth 20000 in
theorem gL_law_X6_fly : GoodIn wsL_law (wsV RL 18 RX6 yX6_fly wsX6_fly) := goodIn_app (goodIn_of _ (by decide +kernel)) ggL_law_X6_fly
set_option maxRecDepth 20000 in
theorem ggL_law_X7_fly : GoodIn wsL_law wsX7_fly := goodIn_r _ [209, 164, 165, 166, 5, 167, 98, 97, 210, 211, 212, 213, 214, 215, 216, 217, 218, 219, 220, 221, 222, 223, 224, 225, 175, 176, 177, 178, 179, 100, 180, 181, 182, 183, 763, 764, 765, 766, 767, 768, 769, 770, 771, 772, 773, 774, 775, 776] (by decide +kernel) (by decide +kernel)
set_option maxRecDepth 20000 in
theorem gL_law_X7_fly : GoodIn wsL_law (wsV RL 22 RX7 yX7_fly wsX7_fly) := goodIn_app (goodIn_of _ (by decide +kernel)) ggL_law_X7_fly
set_option maxRecDepth 20000 in
theorem ggL_law_X6_book : GoodIn wsL_law wsX6_book := goodIn_r _ [229, 21, 15, 16, 108, 109, 110, 20, 111, 112, 76, 113, 114, 115, 14, 116, 38, 42, 44, 117, 118, 119, 120, 46, 121, 122, 123, 124, 125, 126, 127, 128, 129, 37, 130, 52, 131, 53, 54, 55, 56, 57, 58, 59, 60, 132, 133, 134, 135, 136, 41, 137, 65, 138, 66, 67, 68, 69, 70, 139, 230, 231, 232, 233, 234, 235, 236, 237, 238, 239, 240, 241, 242, 243, 244, 245, 246, 247, 248, 249, 250, 251, 252, 253, 254, 255, 256, 257, 258, 259, 193, 194, 195, 196, 260, 261, 262, 263, 264, 265, 266, 267, 268, 269, 270, 271, 272, 273, 274, 275, 276, 277, 278, 279, 280, 281, 282, 283, 284, 285, 286, 287, 288, 289, 290, 291, 292, 293, 294, 295, 296, 297, 298, 299, 152, 153, 154, 2, 155, 156, 157, 158, 159, 756, 757, 758, 759, 760, 761, 762, 787, 788, 777, 778, 779, 780, 781, 782, 783, 784, 785, 786, 800, 801, 802, 803, 804, 805, 806, 807, 808, 809, 810, 811, 812, 813, 814, 815, 816, 817] (by decide +kernel) (by decide +kernel)
set_option maxRecDepth 20000 in
theorem gL_law_X6_book : GoodIn wsL_law (wsV RL 23 RX6 yX6_book wsX6_book) := goodIn_app (goodIn_of _ (by decide +kernel)) ggL_law_X6_book
set_option maxRecDepth 20000 in
theorem ggL_law_X7_book : GoodIn wsL_law wsX7_book := goodIn_r _ [303, 164, 165, 166, 5, 167, 98, 97, 304, 305, 306, 307, 172, 173, 174, 308, 309, 310, 311, 312, 313, 314, 315, 102, 316, 317, 318, 319, 320, 321, 322, 323, 324, 325, 326, 327, 328, 329, 330, 331, 332, 333, 334, 335, 336, 337, 338, 339, 214, 215, 216, 217, 340, 341, 342, 343, 344, 345, 346, 347, 348, 349, 350, 351, 352, 353, 354, 355, 356, 357, 358, 359, 222, 223, 224, 225, 360, 361, 362, 363, 364, 365, 366, 367, 368, 369, 370, 371, 372, 373, 374, 375, 376, 377, 378, 379, 175, 176, 177, 178, 179, 100, 180, 181, 182, 183, 763, 764, 765, 766, 767, 768, 769, 770, 771, 772, 773, 774, 775, 776] (by decide +kernel) (by decide +kernel)
set_option maxRecDepth 20000 in
theorem gL_law_X7_book : GoodIn wsL_law (wsV RL 26 RX7 yX7_book wsX7_book) := goodIn_app (goodIn_of _ (by decide +kernel)) ggL_law_X7_book
set_option maxRecDepth 20000 in
theorem ggL_law_X6_cancel : GoodIn wsL_law wsX6_cancel := goodIn_r _ [383, 21, 15, 108, 109, 110, 20, 111, 112, 76, 113, 114, 115, 14, 116, 38, 42, 44, 117, 118, 119, 120, 46, 121, 122, 123, 124, 125, 126, 127, 128, 129, 37, 130, 52, 131, 53, 54, 55, 56, 57, 58, 59, 60, 132, 133, 134, 135, 136, 41, 137, 65, 138, 66, 67, 68, 69, 70, 139, 384, 385, 386, 387, 388, 389, 390, 391, 392, 393, 394, 395, 396, 152, 153, 154, 2, 155, 156, 157, 158, 159, 756, 757, 758, 759, 760, 761, 762, 787, 788, 777, 778, 779, 780, 781, 782, 783, 784, 785, 786, 800, 801, 802, 803, 804, 805, 806, 807, 808, 809, 810, 811, 812, 813, 814, 815, 816, 817] (by decide +kernel) (by decide +kernel)
set_option maxRecDepth 20000 in
theorem gL_law_X6_cancel : GoodIn wsL_law (wsV RL 27 RX6 yX6_cancel wsX6_cancel) := goodIn_app (goodIn_of _ (by decide +kernel)) ggL_law_X6_cancel
set_option maxRecDepth 20000 in
theorem ggL_law_X7_cancel : GoodIn wsL_law wsX7_cancel := goodIn_r _ [400, 164, 165, 166, 5, 167, 98, 97, 401, 402, 403, 404, 405, 406, 407, 408, 172, 173, 174, 332, 333, 334, 335, 320, 321, 322, 323, 328, 329, 330, 331, 175, 176, 177, 178, 179, 100, 180, 181, 182, 183, 763, 764, 765, 766, 767, 768, 769, 770, 771, 772, 773, 774, 775, 776] (by decide +kernel) (by decide +kernel)
set_option maxRecDepth 20000 in
theorem gL_law_X7_cancel : GoodIn wsL_law (wsV RL 31 RX7 yX7_cancel wsX7_cancel) := goodIn_app (goodIn_of _ (by decide +kernel)) ggL_law_X7_cancel
set_option maxRecDepth 20000 in
theorem ggL_law_X6_storm : GoodIn wsL_law wsX6_storm := goodIn_r _ [412, 21, 15, 108, 109, 110, 20, 111, 112, 76, 113, 114, 115, 14, 116, 38, 42, 44, 117, 118, 119, 120, 46, 121, 122, 123, 124, 125, 126, 127, 128, 129, 37, 130, 52, 131, 53, 54, 55, 56, 57, 58, 59, 60, 132, 133, 134, 135, 136, 41, 137, 65, 138, 66, 67, 68, 69, 70, 139, 413, 414, 415, 416, 152, 153, 154, 2, 155, 156, 157, 158, 159, 756, 757, 758, 759, 760, 761, 762, 787, 788, 777, 778, 779, 780, 781, 782, 783, 784, 785, 786, 800, 801, 802, 803, 804, 805, 806, 807, 808, 809, 810, 811, 812, 813, 814, 815, 816, 817] (by decide +kernel) (by decide +kernel)
set_option maxRecDepth 20000 in
theorem gL_law_X6_storm : GoodIn wsL_law (wsV RL 32 RX6 yX6_storm wsX6_storm) := goodIn_app (goodIn_of _ (by decide +kernel)) ggL_law_X6_storm
set_option maxRecDepth 20000 in
theorem ggL_law_X7_storm : GoodIn wsL_law wsX7_storm := goodIn_r _ [420, 164, 165, 166, 5, 167, 98, 97, 421, 422, 423, 424, 172, 173, 174, 425, 426, 427, 428, 175, 176, 177, 178, 179, 100, 180, 181, 182, 183, 763, 764, 765, 766, 767, 768, 769, 770, 771, 772, 773, 774, 775, 776] (by decide +kernel) (by decide +kernel)
set_option maxRecDepth 20000 in
theorem gL_law_X7_storm : GoodIn wsL_law (wsV RL 36 RX7 yX7_storm wsX7_storm) := goodIn_app (goodIn_of _ (by decide +kernel)) ggL_law_X7_storm
set_option maxRecDepth 20000 in
theorem ggL_law_X6_clear : GoodIn wsL_law wsX6_clear := goodIn_r _ [432, 21, 15, 108, 109, 110, 20, 111, 112, 76, 113, 114, 115, 14, 116, 38, 42, 44, 117, 118, 119, 120, 46, 121, 122, 123, 124, 125, 126, 127, 128, 129, 37, 130, 52, 131, 53, 54, 55, 56, 57, 58, 59, 60, 132, 133, 134, 135, 136, 41, 137, 65, 138, 66, 67, 68, 69, 70, 139, 433, 434, 435, 436, 152, 153, 154, 2, 155, 156, 157, 158, 159, 756, 757, 758, 759, 760, 761, 762, 787, 788, 777, 778, 779, 780, 781, 782, 783, 784, 785, 786, 800, 801, 802, 803, 804, 805, 806, 807, 808, 809, 810, 811, 812, 813, 814, 815, 816, 817] (by decide +kernel) (by decide +kernel)
set_option maxRecDepth 20000 in
theorem gL_law_X6_clear : GoodIn wsL_law (wsV RL 37 RX6 yX6_clear wsX6_clear) := goodIn_app (goodIn_of _ (by decide +kernel)) ggL_law_X6_clear
set_option maxRecDepth 20000 in
theorem ggL_law_X7_clear : GoodIn wsL_law wsX7_clear := goodIn_r _ [440, 97, 164, 165, 166, 5, 167, 98, 172, 173, 174, 175, 176, 177, 178, 179, 100, 180, 181, 182, 183, 763, 764, 765, 766, 767, 768, 769, 770, 771, 772, 773, 774, 775, 776] (by decide +kernel) (by decide +kernel)
set_option maxRecDepth 20000 in
theorem gL_law_X7_clear : GoodIn wsL_law (wsV RL 40 RX7 yX7_clear wsX7_clear) := goodIn_app (goodIn_of _ (by decide +kernel)) ggL_law_X7_clear
set_option maxRecDepth 20000 in
theorem ggL_law_X6_sleep : GoodIn wsL_law wsX6_sleep := goodIn_r _ [444, 21, 15, 108, 109, 110, 20, 111, 112, 76, 113, 114, 115, 14, 116, 38, 42, 44, 117, 118, 119, 120, 46, 121, 122, 123, 124, 125, 126, 127, 128, 129, 37, 130, 52, 131, 53, 54, 55, 56, 57, 58, 59, 60, 132, 133, 134, 135, 136, 41, 137, 65, 138, 66, 67, 68, 69, 70, 139, 445, 446, 447, 448, 252, 253, 254, 255, 256, 257, 258, 259, 193, 194, 195, 196, 260, 261, 262, 263, 264, 265, 266, 267, 268, 269, 270, 271, 272, 273, 274, 275, 276, 277, 278, 279, 280, 281, 282, 283, 284, 285, 286, 287, 288, 289, 290, 291, 292, 293, 294, 295, 296, 297, 298, 299, 152, 153, 154, 2, 155, 156, 157, 158, 159, 756, 757, 758, 759, 760, 761, 762, 787, 788, 777, 778, 779, 780, 781, 782, 783, 784, 785, 786, 800, 801, 802, 803, 804, 805, 806, 807, 808, 809, 810, 811, 812, 813, 814, 815, 816, 817] (by decide +kernel) (by decide +kernel)
set_option maxRecDepth 20000 in
theorem gL_law_X6_sleep : GoodIn wsL_law (wsV RL 41 RX6 yX6_sleep wsX6_sleep) := goodIn_app (goodIn_of _ (by decide +kernel)) ggL_law_X6_sleep
set_option maxRecDepth 20000 in
theorem ggL_law_X7_sleep : GoodIn wsL_law wsX7_sleep := goodIn_r _ [452, 164, 165, 166, 5, 167, 98, 97, 453, 454, 455, 456, 172, 173, 174, 336, 337, 338, 339, 214, 215, 216, 217, 340, 341, 342, 343, 332, 333, 334, 335, 320, 321, 322, 323, 344, 345, 346, 347, 348, 349, 350, 351, 352, 353, 354, 355, 356, 357, 358, 359, 222, 223, 224, 225, 360, 361, 362, 363, 364, 365, 366, 367, 368, 369, 370, 371, 372, 373, 374, 375, 376, 377, 378, 379, 175, 176, 177, 178, 179, 100, 180, 181, 182, 183, 763, 764, 765, 766, 767, 768, 769, 770, 771, 772, 773, 774, 775, 776] (by decide +kernel) (by decide +kernel)
set_option maxRecDepth 20000 in
theorem gL_law_X7_sleep : GoodIn wsL_law (wsV RL 44 RX7 yX7_sleep wsX7_sleep) := goodIn_app (goodIn_of _ (by decide +kernel)) ggL_law_X7_sleep
set_option maxRecDepth 20000 in
theorem ggL_law_X6_set : GoodIn wsL_law wsX6_set := goodIn_r _ [460, 21, 15, 108, 109, 110, 20, 111, 112, 76, 113, 114, 115, 14, 116, 38, 42, 44, 117, 118, 119, 120, 46, 121, 122, 123, 124, 125, 126, 127, 128, 129, 37, 130, 52, 131, 53, 54, 55, 56, 57, 58, 59, 60, 132, 133, 134, 135, 136, 41, 137, 65, 138, 66, 67, 68, 69, 70, 139, 461, 462, 463, 464, 465, 466, 152, 153, 154, 2, 155, 156, 157, 158, 159, 756, 757, 758, 759, 760, 761, 762, 787, 788, 777, 778, 779, 780, 781, 782, 783, 784, 785, 786, 800, 801, 802, 803, 804, 805, 806, 807, 808, 809, 810, 811, 812, 813, 814, 815, 816, 817] (by decide +kernel) (by decide +kernel)
set_option maxRecDepth 20000 in
theorem gL_law_X6_set : GoodIn wsL_law (wsV RL 45 RX6 yX6_set wsX6_set) := goodIn_app (goodIn_of _ (by decide +kernel)) ggL_law_X6_set
set_option maxRecDepth 20000 in
theorem ggL_law_X7_set : GoodIn wsL_law wsX7_set := goodIn_r _ [470, 97, 164, 165, 166, 5, 167, 98, 471, 472, 473, 172, 173, 174, 175, 176, 177, 178, 179, 100, 180, 181, 182, 183, 763, 764, 765, 766, 767, 768, 769, 770, 771, 772, 773, 774, 775, 776] (by decide +kernel) (by decide +kernel)
set_option maxRecDepth 20000 in
theorem gL_law_X7_set : GoodIn wsL_law (wsV RL 48 RX7 yX7_set wsX7_set) := goodIn_app (goodIn_of _ (by decide +kernel)) ggL_law_X7_set
set_option maxRecDepth 20000 in
theorem ggL_law_X6_lotOf : GoodIn wsL_law wsX6_lotOf := goodIn_r _ [477, 15, 478, 479, 480, 481, 146, 37, 147, 482, 483, 484, 485, 132, 52, 756, 757, 758, 759, 760, 761, 762, 777, 778, 779, 780, 781, 782, 783, 784, 785, 786, 800, 801, 802, 803, 804, 805, 806, 807, 808, 809, 810] (by decide +kernel) (by decide +kernel)
set_option maxRecDepth 20000 in
theorem gL_law_X6_lotOf : GoodIn wsL_law (wsV RL 49 RX6 yX6_lotOf wsX6_lotOf) := goodIn_app (goodIn_of _ (by decide +kernel)) ggL_law_X6_lotOf
set_option maxRecDepth 20000 in
theorem ggL_law_X7_lotOf : GoodIn wsL_law wsX7_lotOf := goodIn_r _ [489, 97, 172, 173, 5, 174, 222, 223, 224, 225, 763, 764, 765, 766, 767, 768, 769, 770, 771, 772, 773, 774, 775, 776] (by decide +kernel) (by decide +kernel)
set_option maxRecDepth 20000 in
theorem gL_law_X7_lotOf : GoodIn wsL_law (wsV RL 52 RX7 yX7_lotOf wsX7_lotOf) := goodIn_app (goodIn_of _ (by decide +kernel)) ggL_law_X7_lotOf
set_option maxRecDepth 20000 in
theorem ggL_law_X6_storeOf : GoodIn wsL_law wsX6_storeOf := goodIn_r _ [493, 15, 478, 494, 495, 496, 481, 146, 37, 147, 497, 273, 274, 275, 132, 52, 53, 498, 499, 500, 501, 502, 503, 504, 505, 133, 55, 56, 756, 757, 758, 759, 760, 761, 762, 777, 778, 779, 780, 781, 782, 783, 784, 785, 786, 800, 801, 802, 803, 804, 805, 806, 807, 808, 809, 810] (by decide +kernel) (by decide +kernel)
set_option maxRecDepth 20000 in
theorem gL_law_X6_storeOf : GoodIn wsL_law (wsV RL 53 RX6 yX6_storeOf wsX6_storeOf) := goodIn_app (goodIn_of _ (by decide +kernel)) ggL_law_X6_storeOf
set_option maxRecDepth 20000 in
theorem ggL_law_X7_storeOf : GoodIn wsL_law wsX7_storeOf := goodIn_r _ [509, 97, 172, 173, 5, 174, 356, 357, 358, 359, 222, 223, 224, 225, 510, 511, 512, 513, 514, 515, 516, 517, 763, 764, 765, 766, 767, 768, 769, 770, 771, 772, 773, 774, 775, 776] (by decide +kernel) (by decide +kernel)
set_option maxRecDepth 20000 in
theorem gL_law_X7_storeOf : GoodIn wsL_law (wsV RL 56 RX7 yX7_storeOf wsX7_storeOf) := goodIn_app (goodIn_of _ (by decide +kernel)) ggL_law_X7_storeOf
set_option maxRecDepth 20000 in
theorem ggL_law_X6_partyOf : GoodIn wsL_law wsX6_partyOf := goodIn_r _ [521, 15, 522, 523, 524, 525, 526, 527, 528, 529, 530, 258, 531, 532, 390, 391, 41, 392, 139, 756, 757, 758, 759, 760, 761, 762, 777, 778, 779, 780, 781, 782, 783, 784, 785, 786, 811, 812, 813, 814, 815, 816, 817] (by decide +kernel) (by decide +kernel)
set_option maxRecDepth 20000 in
theorem gL_law_X6_partyOf : GoodIn wsL_law (wsV RL 57 RX6 yX6_partyOf wsX6_partyOf) := goodIn_app (goodIn_of _ (by decide +kernel)) ggL_law_X6_partyOf
set_option maxRecDepth 20000 in
theorem ggL_law_X7_partyOf : GoodIn wsL_law wsX7_partyOf := goodIn_r _ [536, 405, 406, 407, 5, 408, 97, 172, 173, 174, 332, 333, 334, 335, 763, 764, 765, 766, 767, 768, 769, 770, 771, 772, 773, 774, 775, 776] (by decide +kernel) (by decide +kernel)
set_option maxRecDepth 20000 in
theorem gL_law_X7_partyOf : GoodIn wsL_law (wsV RL 60 RX7 yX7_partyOf wsX7_partyOf) := goodIn_app (goodIn_of _ (by decide +kernel)) ggL_law_X7_partyOf
set_option maxRecDepth 20000 in
theorem ggL_law_X6_count : GoodIn wsL_law wsX6_count := goodIn_r _ [540, 15, 522, 541, 542, 543, 478, 544, 545, 546, 547, 548, 21, 549, 25, 550, 30, 551, 394, 395, 41, 396, 139, 68, 552, 265, 266, 267, 65, 553, 194, 195, 14, 196, 121, 44, 554, 555, 556, 557, 46, 756, 757, 758, 759, 760, 761, 762, 777, 778, 779, 780, 781, 782, 783, 784, 785, 786, 811, 812, 813, 814, 815, 816, 817, 800, 801, 802, 803, 804, 805, 806, 807, 808, 809, 810, 787, 788, 789, 790, 791, 792, 793] (by decide +kernel) (by decide +kernel)
set_option maxRecDepth 20000 in
theorem gL_law_X6_count : GoodIn wsL_law (wsV RL 61 RX6 yX6_count wsX6_count) := goodIn_app (goodIn_of _ (by decide +kernel)) ggL_law_X6_count
set_option maxRecDepth 20000 in
theorem ggL_law_X7_count : GoodIn wsL_law wsX7_count := goodIn_r _ [561, 97, 179, 562, 563, 328, 329, 330, 5, 331, 332, 333, 334, 335, 348, 349, 350, 351, 214, 215, 216, 217, 172, 173, 174, 763, 764, 765, 766, 767, 768, 769, 770, 771, 772, 773, 774, 775, 776] (by decide +kernel) (by decide +kernel)
set_option maxRecDepth 20000 in
theorem gL_law_X7_count : GoodIn wsL_law (wsV RL 64 RX7 yX7_count wsX7_count) := goodIn_app (goodIn_of _ (by decide +kernel)) ggL_law_X7_count
set_option maxRecDepth 20000 in
theorem ggL_law_X6_goneOn : GoodIn wsL_law wsX6_goneOn := goodIn_r _ [567, 15, 522, 16, 532, 390, 391, 41, 392, 139, 568, 569, 570, 571, 68, 572, 573, 114, 115, 14, 116, 38, 42, 44, 117, 118, 119, 120, 46, 121, 122, 123, 124, 125, 126, 127, 128, 129, 37, 130, 52, 131, 53, 54, 55, 56, 57, 58, 59, 60, 132, 133, 134, 135, 136, 137, 65, 138, 66, 67, 69, 70, 574, 575, 576, 577, 578, 252, 253, 254, 255, 256, 257, 258, 259, 193, 194, 195, 196, 260, 261, 262, 263, 264, 265, 266, 267, 268, 269, 270, 271, 272, 273, 274, 275, 276, 277, 278, 279, 280, 281, 282, 283, 284, 285, 286, 287, 288, 289, 290, 291, 292, 293, 294, 295, 296, 297, 298, 299, 579, 580, 581, 582, 756, 757, 758, 759, 760, 761, 762, 777, 778, 779, 780, 781, 782, 783, 784, 785, 786, 811, 812, 813, 814, 815, 816, 817, 800, 801, 802, 803, 804, 805, 806, 807, 808, 809, 810] (by decide +kernel) (by decide +kernel)
set_option maxRecDepth 20000 in
theorem gL_law_X6_goneOn : GoodIn wsL_law (wsV RL 65 RX6 yX6_goneOn wsX6_goneOn) := goodIn_app (goodIn_of _ (by decide +kernel)) ggL_law_X6_goneOn
set_option maxRecDepth 20000 in
theorem ggL_law_X7_goneOn : GoodIn wsL_law wsX7_goneOn := goodIn_r _ [586, 97, 405, 406, 407, 5, 408, 172, 173, 174, 332, 333, 334, 335, 164, 165, 166, 167, 98, 336, 337, 338, 339, 214, 215, 216, 217, 340, 341, 342, 343, 320, 321, 322, 323, 344, 345, 346, 347, 348, 349, 350, 351, 352, 353, 354, 355, 356, 357, 358, 359, 222, 223, 224, 225, 360, 361, 362, 363, 364, 365, 366, 367, 368, 369, 370, 371, 372, 373, 374, 375, 376, 377, 378, 379, 180, 181, 182, 183, 763, 764, 765, 766, 767, 768, 769, 770, 771, 772, 773, 774, 775, 776] (by decide +kernel) (by decide +kernel)
set_option maxRecDepth 20000 in
theorem gL_law_X7_goneOn : GoodIn wsL_law (wsV RL 68 RX7 yX7_goneOn wsX7_goneOn) := goodIn_app (goodIn_of _ (by decide +kernel)) ggL_law_X7_goneOn
set_option maxRecDepth 20000 in
theorem ggL_law_X6_outOn : GoodIn wsL_law wsX6_outOn := goodIn_r _ [590, 16, 15, 481, 146, 37, 147, 573, 114, 115, 14, 116, 38, 42, 44, 117, 118, 119, 120, 46, 121, 122, 123, 124, 125, 126, 127, 128, 129, 130, 52, 131, 53, 54, 55, 56, 57, 58, 59, 60, 132, 133, 134, 135, 136, 41, 137, 65, 138, 66, 67, 68, 69, 70, 139, 591, 592, 593, 594, 248, 249, 250, 251, 252, 253, 254, 255, 256, 257, 258, 259, 193, 194, 195, 196, 260, 261, 262, 263, 264, 265, 266, 267, 268, 269, 270, 271, 272, 273, 274, 275, 276, 277, 278, 279, 280, 281, 282, 283, 284, 285, 286, 287, 288, 289, 290, 291, 292, 293, 294, 295, 296, 297, 298, 299, 756, 757, 758, 759, 760, 761, 762, 777, 778, 779, 780, 781, 782, 783, 784, 785, 786, 800, 801, 802, 803, 804, 805, 806, 807, 808, 809, 810, 811, 812, 813, 814, 815, 816, 817] (by decide +kernel) (by decide +kernel)
set_option maxRecDepth 20000 in
theorem gL_law_X6_outOn : GoodIn wsL_law (wsV RL 69 RX6 yX6_outOn wsX6_outOn) := goodIn_app (goodIn_of _ (by decide +kernel)) ggL_law_X6_outOn
set_option maxRecDepth 20000 in
theorem ggL_law_X7_outOn : GoodIn wsL_law wsX7_outOn := goodIn_r _ [598, 97, 172, 173, 5, 174, 164, 165, 166, 167, 98, 324, 325, 326, 327, 328, 329, 330, 331, 332, 333, 334, 335, 336, 337, 338, 339, 214, 215, 216, 217, 340, 341, 342, 343, 320, 321, 322, 323, 344, 345, 346, 347, 348, 349, 350, 351, 352, 353, 354, 355, 356, 357, 358, 359, 222, 223, 224, 225, 360, 361, 362, 363, 364, 365, 366, 367, 368, 369, 370, 371, 372, 373, 374, 375, 376, 377, 378, 379, 180, 181, 182, 183, 763, 764, 765, 766, 767, 768, 769, 770, 771, 772, 773, 774, 775, 776] (by decide +kernel) (by decide +kernel)
set_option maxRecDepth 20000 in
theorem gL_law_X7_outOn : GoodIn wsL_law (wsV RL 72 RX7 yX7_outOn wsX7_outOn) := goodIn_app (goodIn_of _ (by decide +kernel)) ggL_law_X7_outOn
set_option maxRecDepth 20000 in
theorem ggL_law_X6_most : GoodIn wsL_law wsX6_most := goodIn_r _ [602, 15, 522, 541, 16, 603, 236, 237, 14, 238, 121, 604, 240, 241, 242, 42, 243, 114, 115, 116, 38, 44, 117, 118, 119, 120, 46, 122, 123, 124, 125, 126, 127, 128, 129, 37, 130, 52, 131, 53, 54, 55, 56, 57, 58, 59, 60, 132, 133, 134, 135, 136, 41, 137, 65, 138, 66, 67, 68, 69, 70, 139, 244, 245, 246, 247, 248, 249, 250, 251, 252, 253, 254, 255, 256, 257, 258, 259, 193, 194, 195, 196, 260, 261, 262, 263, 264, 265, 266, 267, 268, 269, 270, 271, 272, 273, 274, 275, 276, 277, 278, 279, 280, 281, 282, 283, 284, 285, 286, 287, 288, 289, 290, 291, 292, 293, 294, 295, 296, 297, 298, 299, 756, 757, 758, 759, 760, 761, 762, 777, 778, 779, 780, 781, 782, 783, 784, 785, 786, 811, 812, 813, 814, 815, 816, 817, 800, 801, 802, 803, 804, 805, 806, 807, 808, 809, 810] (by decide +kernel) (by decide +kernel)
set_option maxRecDepth 20000 in
theorem gL_law_X6_most : GoodIn wsL_law (wsV RL 73 RX6 yX6_most wsX6_most) := goodIn_app (goodIn_of _ (by decide +kernel)) ggL_law_X6_most
set_option maxRecDepth 20000 in
theorem ggL_law_X7_most : GoodIn wsL_law wsX7_most := goodIn_r _ [608, 97, 308, 309, 310, 5, 311, 172, 173, 174, 312, 313, 314, 315, 102, 316, 317, 318, 319, 320, 321, 322, 323, 324, 325, 326, 327, 328, 329, 330, 331, 332, 333, 334, 335, 336, 337, 338, 339, 214, 215, 216, 217, 340, 341, 342, 343, 344, 345, 346, 347, 348, 349, 350, 351, 352, 353, 354, 355, 356, 357, 358, 359, 222, 223, 224, 225, 360, 361, 362, 363, 364, 365, 366, 367, 368, 369, 370, 371, 372, 373, 374, 375, 376, 377, 378, 379, 763, 764, 765, 766, 767, 768, 769, 770, 771, 772, 773, 774, 775, 776] (by decide +kernel) (by decide +kernel)
set_option maxRecDepth 20000 in
theorem gL_law_X7_most : GoodIn wsL_law (wsV RL 76 RX7 yX7_most wsX7_most) := goodIn_app (goodIn_of _ (by decide +kernel)) ggL_law_X7_most
set_option maxRecDepth 20000 in
theorem ggL_law_X6_keep : GoodIn wsL_law wsX6_keep := goodIn_r _ [612, 17, 15, 30, 542, 573, 114, 115, 14, 116, 38, 42, 44, 117, 118, 119, 120, 46, 121, 122, 123, 124, 125, 126, 127, 128, 129, 37, 130, 52, 131, 53, 54, 55, 56, 57, 58, 59, 60, 132, 133, 134, 135, 136, 41, 137, 65, 138, 66, 67, 68, 69, 70, 139, 756, 757, 758, 759, 760, 761, 762, 777, 778, 779, 780, 781, 782, 783, 784, 785, 786, 800, 801, 802, 803, 804, 805, 806, 807, 808, 809, 810, 811, 812, 813, 814, 815, 816, 817] (by decide +kernel) (by decide +kernel)
set_option maxRecDepth 20000 in
theorem gL_law_X6_keep : GoodIn wsL_law (wsV RL 77 RX6 yX6_keep wsX6_keep) := goodIn_app (goodIn_of _ (by decide +kernel)) ggL_law_X6_keep
set_option maxRecDepth 20000 in
theorem ggL_law_X7_keep : GoodIn wsL_law wsX7_keep := goodIn_r _ [616, 99, 97, 563, 763, 764, 765, 766, 767, 768, 769, 770, 771, 772, 773, 774, 775, 776] (by decide +kernel) (by decide +kernel)
set_option maxRecDepth 20000 in
theorem gL_law_X7_keep : GoodIn wsL_law (wsV RL 80 RX7 yX7_keep wsX7_keep) := goodIn_app (goodIn_of _ (by decide +kernel)) ggL_law_X7_keep
set_option maxRecDepth 20000 in
theorem ggL_law_X6_restore : GoodIn wsL_law wsX6_restore := goodIn_r _ [620, 30, 21, 15, 17, 542, 108, 109, 110, 20, 111, 112, 76, 113, 114, 115, 14, 116, 38, 42, 44, 117, 118, 119, 120, 46, 121, 122, 123, 124, 125, 126, 127, 128, 129, 37, 130, 52, 131, 53, 54, 55, 56, 57, 58, 59, 60, 132, 133, 134, 135, 136, 41, 137, 65, 138, 66, 67, 68, 69, 70, 139, 573, 152, 153, 154, 2, 155, 156, 157, 158, 159, 756, 757, 758, 759, 760, 761, 762, 777, 778, 779, 780, 781, 782, 783, 784, 785, 786, 787, 788, 800, 801, 802, 803, 804, 805, 806, 807, 808, 809, 810, 811, 812, 813, 814, 815, 816, 817] (by decide +kernel) (by decide +kernel)
set_option maxRecDepth 20000 in
theorem gL_law_X6_restore : GoodIn wsL_law (wsV RL 81 RX6 yX6_restore wsX6_restore) := goodIn_app (goodIn_of _ (by decide +kernel)) ggL_law_X6_restore
set_option maxRecDepth 20000 in
theorem ggL_law_X7_restore : GoodIn wsL_law wsX7_restore := goodIn_r _ [624, 563, 97, 99, 164, 165, 166, 5, 167, 98, 175, 176, 177, 178, 179, 100, 180, 181, 182, 183, 763, 764, 765, 766, 767, 768, 769, 770, 771, 772, 773, 774, 775, 776] (by decide +kernel) (by decide +kernel)
set_option maxRecDepth 20000 in
theorem gL_law_X7_restore : GoodIn wsL_law (wsV RL 84 RX7 yX7_restore wsX7_restore) := goodIn_app (goodIn_of _ (by decide +kernel)) ggL_law_X7_restore
set_option maxRecDepth 20000 in
theorem ggL_law_X6_undo : GoodIn wsL_law wsX6_undo := goodIn_r _ [628, 21, 549, 15, 629, 630, 631, 20, 632, 112, 76, 113, 114, 115, 14, 116, 38, 42, 44, 117, 118, 119, 120, 46, 121, 122, 123, 124, 125, 126, 127, 128, 129, 37, 130, 52, 131, 53, 54, 55, 56, 57, 58, 59, 60, 132, 133, 134, 135, 136, 41, 137, 65, 138, 66, 67, 68, 69, 70, 139, 756, 757, 758, 759, 760, 761, 762, 787, 788, 777, 778, 779, 780, 781, 782, 783, 784, 785, 786, 800, 801, 802, 803, 804, 805, 806, 807, 808, 809, 810, 811, 812, 813, 814, 815, 816, 817] (by decide +kernel) (by decide +kernel)
set_option maxRecDepth 20000 in
theorem gL_law_X6_undo : GoodIn wsL_law (wsV RL 85 RX6 yX6_undo wsX6_undo) := goodIn_app (goodIn_of _ (by decide +kernel)) ggL_law_X6_undo
set_option maxRecDepth 20000 in
theorem ggL_law_X7_undo : GoodIn wsL_law wsX7_undo := goodIn_r _ [636, 179, 97, 100, 763, 764, 765, 766, 767, 768, 769, 770, 771, 772, 773, 774, 775, 776] (by decide +kernel) (by decide +kernel)
set_option maxRecDepth 20000 in
theorem gL_law_X7_undo : GoodIn wsL_law (wsV RL 88 RX7 yX7_undo wsX7_undo) := goodIn_app (goodIn_of _ (by decide +kernel)) ggL_law_X7_undo
set_option maxRecDepth 20000 in
theorem ggL_law_X6_type : GoodIn wsL_law wsX6_type := goodIn_r _ [640, 25, 550, 641, 642, 643, 24, 644, 645, 83, 756, 757, 758, 759, 760, 761, 762, 789, 790, 791, 792, 793] (by decide +kernel) (by decide +kernel)
set_option maxRecDepth 20000 in
theorem gL_law_X6_type : GoodIn wsL_law (wsV RL 89 RX6 yX6_type wsX6_type) := goodIn_app (goodIn_of _ (by decide +kernel)) ggL_law_X6_type
set_option maxRecDepth 20000 in
theorem ggL_law_X7_type : GoodIn wsL_law wsX7_type := goodIn_r _ [649, 562, 101, 172, 173, 5, 174, 763, 764, 765, 766, 767, 768, 769, 770, 771, 772, 773, 774, 775, 776] (by decide +kernel) (by decide +kernel)
set_option maxRecDepth 20000 in
theorem gL_law_X7_type : GoodIn wsL_law (wsV RL 92 RX7 yX7_type wsX7_type) := goodIn_app (goodIn_of _ (by decide +kernel)) ggL_law_X7_type
set_option maxRecDepth 20000 in
theorem ggL_law_X6_clearText : GoodIn wsL_law wsX6_clearText := goodIn_r _ [653, 25, 550, 756, 757, 758, 759, 760, 761, 762, 789, 790, 791, 792, 793] (by decide +kernel) (by decide +kernel)
set_option maxRecDepth 20000 in
theorem gL_law_X6_clearText : GoodIn wsL_law (wsV RL 93 RX6 yX6_clearText wsX6_clearText) := goodIn_app (goodIn_of _ (by decide +kernel)) ggL_law_X6_clearText
set_option maxRecDepth 20000 in
theorem ggL_law_X7_clearText : GoodIn wsL_law wsX7_clearText := goodIn_r _ [657, 562, 763, 764, 765, 766, 767, 768, 769, 770, 771, 772, 773, 774, 775, 776] (by decide +kernel) (by decide +kernel)
set_option maxRecDepth 20000 in
theorem gL_law_X7_clearText : GoodIn wsL_law (wsV RL 96 RX7 yX7_clearText wsX7_clearText) := goodIn_app (goodIn_of _ (by decide +kernel)) ggL_law_X7_clearText
set_option maxRecDepth 20000 in
theorem ggL_law_X6_fault : GoodIn wsL_law wsX6_fault := goodIn_r _ [661, 29, 25, 15, 662, 663, 664, 665, 666, 667, 28, 668, 90, 669, 670, 671, 672, 673, 674, 675, 676, 677, 114, 115, 14, 116, 38, 42, 44, 117, 118, 119, 120, 46, 121, 122, 123, 124, 125, 126, 127, 128, 129, 37, 130, 52, 131, 53, 54, 55, 56, 57, 58, 59, 60, 132, 133, 134, 135, 136, 41, 137, 65, 138, 66, 67, 68, 69, 70, 139, 678, 679, 680, 24, 681, 682, 683, 84, 684, 685, 686, 687, 645, 83, 688, 689, 690, 691, 692, 693, 694, 695, 696, 697, 698, 699, 700, 530, 258, 531, 701, 702, 703, 704, 91, 705, 141, 142, 143, 144, 145, 146, 147, 148, 149, 150, 151, 706, 189, 190, 191, 192, 193, 194, 195, 196, 197, 198, 199, 200, 201, 202, 203, 204, 205, 707, 231, 232, 233, 234, 235, 236, 237, 238, 239, 240, 241, 242, 243, 244, 245, 246, 247, 248, 249, 250, 251, 252, 253, 254, 255, 256, 257, 259, 260, 261, 262, 263, 264, 265, 266, 267, 268, 269, 270, 271, 272, 273, 274, 275, 276, 277, 278, 279, 280, 281, 282, 283, 284, 285, 286, 287, 288, 289, 290, 291, 292, 293, 294, 295, 296, 297, 298, 299, 708, 385, 386, 387, 388, 389, 390, 391, 392, 393, 394, 395, 396, 709, 414, 415, 416, 710, 446, 447, 448, 756, 757, 758, 759, 760, 761, 762, 794, 795, 796, 797, 798, 799, 789, 790, 791, 792, 793, 777, 778, 779, 780, 781, 782, 783, 784, 785, 786, 800, 801, 802, 803, 804, 805, 806, 807, 808, 809, 810, 811, 812, 813, 814, 815, 816, 817] (by decide +kernel) (by decide +kernel)
set_option maxRecDepth 20000 in
theorem gL_law_X6_fault : GoodIn wsL_law (wsV RL 97 RX6 yX6_fault wsX6_fault) := goodIn_app (goodIn_of _ (by decide +kernel)) ggL_law_X6_fault
set_option maxRecDepth 20000 in
theorem ggL_law_X7_fault : GoodIn wsL_law wsX7_fault := goodIn_r _ [714, 715, 716, 172, 173, 5, 174, 164, 165, 166, 167, 98, 97, 717, 718, 719, 720, 721, 722, 562, 103, 723, 724, 725, 726, 101, 727, 728, 729, 730, 731, 732, 733, 734, 735, 736, 737, 738, 739, 740, 741, 742, 743, 744, 745, 168, 169, 170, 171, 304, 305, 306, 307, 308, 309, 310, 311, 312, 313, 314, 315, 102, 316, 317, 318, 319, 320, 321, 322, 323, 324, 325, 326, 327, 328, 329, 330, 331, 332, 333, 334, 335, 336, 337, 338, 339, 214, 215, 216, 217, 340, 341, 342, 343, 344, 345, 346, 347, 348, 349, 350, 351, 352, 353, 354, 355, 356, 357, 358, 359, 222, 223, 224, 225, 360, 361, 362, 363, 364, 365, 366, 367, 368, 369, 370, 371, 372, 373, 374, 375, 376, 377, 378, 379, 421, 422, 423, 424, 425, 426, 427, 428, 401, 402, 403, 404, 405, 406, 407, 408, 453, 454, 455, 456, 210, 211, 212, 213, 218, 219, 220, 221, 180, 181, 182, 183, 763, 764, 765, 766, 767, 768, 769, 770, 771, 772, 773, 774, 775, 776] (by decide +kernel) (by decide +kernel)
set_option maxRecDepth 20000 in
theorem gL_law_X7_fault : GoodIn wsL_law (wsV RL 100 RX7 yX7_fault wsX7_fault) := goodIn_app (goodIn_of _ (by decide +kernel)) ggL_law_X7_fault
set_option maxRecDepth 20000 in
theorem ggL_law_X6_play : GoodIn wsL_law wsX6_play := goodIn_r _ [749, 29, 25, 15, 662, 21, 750, 751, 665, 666, 667, 28, 668, 90, 669, 670, 671, 672, 673, 674, 675, 676, 677, 114, 115, 14, 116, 38, 42, 44, 117, 118, 119, 120, 46, 121, 122, 123, 124, 125, 126, 127, 128, 129, 37, 130, 52, 131, 53, 54, 55, 56, 57, 58, 59, 60, 132, 133, 134, 135, 136, 41, 137, 65, 138, 66, 67, 68, 69, 70, 139, 678, 679, 680, 24, 681, 682, 683, 84, 684, 685, 686, 687, 645, 83, 688, 689, 690, 691, 692, 693, 694, 695, 696, 697, 698, 699, 700, 530, 258, 531, 701, 702, 703, 704, 91, 705, 141, 142, 143, 144, 145, 146, 147, 148, 149, 150, 151, 706, 189, 190, 191, 192, 193, 194, 195, 196, 197, 198, 199, 200, 201, 202, 203, 204, 205, 707, 231, 232, 233, 234, 235, 236, 237, 238, 239, 240, 241, 242, 243, 244, 245, 246, 247, 248, 249, 250, 251, 252, 253, 254, 255, 256, 257, 259, 260, 261, 262, 263, 264, 265, 266, 267, 268, 269, 270, 271, 272, 273, 274, 275, 276, 277, 278, 279, 280, 281, 282, 283, 284, 285, 286, 287, 288, 289, 290, 291, 292, 293, 294, 295, 296, 297, 298, 299, 708, 385, 386, 387, 388, 389, 390, 391, 392, 393, 394, 395, 396, 709, 414, 415, 416, 710, 446, 447, 448, 108, 109, 110, 20, 111, 112, 76, 113, 573, 152, 153, 154, 2, 155, 156, 157, 158, 159, 756, 757, 758, 759, 760, 761, 762, 794, 795, 796, 797, 798, 799, 789, 790, 791, 792, 793, 777, 778, 779, 780, 781, 782, 783, 784, 785, 786, 800, 801, 802, 803, 804, 805, 806, 807, 808, 809, 810, 811, 812, 813, 814, 815, 816, 817, 787, 788] (by decide +kernel) (by decide +kernel)
set_option maxRecDepth 20000 in
theorem gL_law_X6_play : GoodIn wsL_law (wsV RL 101 RX6 yX6_play wsX6_play) := goodIn_app (goodIn_of _ (by decide +kernel)) ggL_law_X6_play
set_option maxRecDepth 20000 in
theorem ggL_law_X7_play : GoodIn wsL_law wsX7_play := goodIn_r _ [755, 722, 164, 165, 166, 5, 167, 98, 97, 717, 718, 719, 720, 721, 562, 715, 103, 716, 723, 724, 725, 726, 101, 727, 728, 729, 730, 731, 732, 733, 734, 735, 736, 737, 738, 739, 740, 741, 172, 173, 174, 742, 743, 744, 745, 168, 169, 170, 171, 304, 305, 306, 307, 308, 309, 310, 311, 312, 313, 314, 315, 102, 316, 317, 318, 319, 320, 321, 322, 323, 324, 325, 326, 327, 328, 329, 330, 331, 332, 333, 334, 335, 336, 337, 338, 339, 214, 215, 216, 217, 340, 341, 342, 343, 344, 345, 346, 347, 348, 349, 350, 351, 352, 353, 354, 355, 356, 357, 358, 359, 222, 223, 224, 225, 360, 361, 362, 363, 364, 365, 366, 367, 368, 369, 370, 371, 372, 373, 374, 375, 376, 377, 378, 379, 421, 422, 423, 424, 425, 426, 427, 428, 401, 402, 403, 404, 405, 406, 407, 408, 453, 454, 455, 456, 210, 211, 212, 213, 218, 219, 220, 221, 175, 176, 177, 178, 179, 100, 180, 181, 182, 183, 763, 764, 765, 766, 767, 768, 769, 770, 771, 772, 773, 774, 775, 776] (by decide +kernel) (by decide +kernel)
set_option maxRecDepth 20000 in
theorem gL_law_X7_play : GoodIn wsL_law (wsV RL 104 RX7 yX7_play wsX7_play) := goodIn_app (goodIn_of _ (by decide +kernel)) ggL_law_X7_play
end
section
theorem dL_law_0 : decode cL_law 0 = .ok (.new 7, 3) := by decide +kernel
theorem dL_law_3 : decode cL_law 3 = .ok (.dup, 1) := by decide +kernel
theorem dL_law_4 : decode cL_law 4 = .ok (.invokespecial 9, 3) := by decide +kernel
theorem dL_law_7 : decode cL_law 7 = .ok (.astore_n 1, 1) := by decide +kernel
theorem dL_law_8 : decode cL_law 8 = .ok (.new 10, 3) := by decide +kernel
theorem dL_law_11 : decode cL_law 11 = .ok (.dup, 1) := by decide +kernel
theorem dL_law_12 : decode cL_law 12 = .ok (.invokespecial 12, 3) := by decide +kernel
theorem dL_law_15 : decode cL_law 15 = .ok (.astore_n 2, 1) := by decide +kernel
theorem dL_law_16 : decode cL_law 16 = .ok (.iconst 0, 1) := by decide +kernel
theorem dL_law_17 : decode cL_law 17 = .ok (.istore_n 3, 1) := by decide +kernel
theorem dL_law_18 : decode cL_law 18 = .ok (.iload_n 3, 1) := by decide +kernel
theorem dL_law_19 : decode cL_law 19 = .ok (.aload_n 0, 1) := by decide +kernel
theorem dL_law_20 : decode cL_law 20 = .ok (.arraylength, 1) := by decide +kernel
theorem dL_law_21 : decode cL_law 21 = .ok (.iconst 4, 1) := by decide +kernel
theorem dL_law_22 : decode cL_law 22 = .ok (.isub, 1) := by decide +kernel
theorem dL_law_23 : decode cL_law 23 = .ok (.if_icmp .gt 675, 3) := by decide +kernel
theorem dL_law_26 : decode cL_law 26 = .ok (.aload_n 0, 1) := by decide +kernel
theorem dL_law_27 : decode cL_law 27 = .ok (.iload_n 3, 1) := by decide +kernel
theorem dL_law_28 : decode cL_law 28 = .ok (.iaload, 1) := by decide +kernel
theorem dL_law_29 : decode cL_law 29 = .ok (.bipush 31, 2) := by decide +kernel
theorem dL_law_31 : decode cL_law 31 = .ok (.iand, 1) := by decide +kernel
theorem dL_law_32 : decode cL_law 32 = .ok (.tableswitch 660 0 21 #[104, 147, 160, 203, 226, 259, 282, 305, 338, 381, 414, 447, 470, 493, 516, 549, 562, 575, 588, 611, 624, 647], 104) := by decide +kernel
theorem dL_law_136 : decode cL_law 136 = .ok (.aload_n 1, 1) := by decide +kernel
theorem dL_law_137 : decode cL_law 137 = .ok (.aload_n 0, 1) := by decide +kernel
theorem dL_law_138 : decode cL_law 138 = .ok (.iload_n 3, 1) := by decide +kernel
theorem dL_law_139 : decode cL_law 139 = .ok (.iconst 1, 1) := by decide +kernel
theorem dL_law_140 : decode cL_law 140 = .ok (.iadd, 1) := by decide +kernel
theorem dL_law_141 : decode cL_law 141 = .ok (.iaload, 1) := by decide +kernel
theorem dL_law_142 : decode cL_law 142 = .ok (.aload_n 0, 1) := by decide +kernel
theorem dL_law_143 : decode cL_law 143 = .ok (.iload_n 3, 1) := by decide +kernel
theorem dL_law_144 : decode cL_law 144 = .ok (.iconst 2, 1) := by decide +kernel
theorem dL_law_145 : decode cL_law 145 = .ok (.iadd, 1) := by decide +kernel
theorem dL_law_146 : decode cL_law 146 = .ok (.iaload, 1) := by decide +kernel
theorem dL_law_147 : decode cL_law 147 = .ok (.aload_n 0, 1) := by decide +kernel
theorem dL_law_148 : decode cL_law 148 = .ok (.iload_n 3, 1) := by decide +kernel
theorem dL_law_149 : decode cL_law 149 = .ok (.iconst 3, 1) := by decide +kernel
theorem dL_law_150 : decode cL_law 150 = .ok (.iadd, 1) := by decide +kernel
theorem dL_law_151 : decode cL_law 151 = .ok (.iaload, 1) := by decide +kernel
theorem dL_law_152 : decode cL_law 152 = .ok (.invokevirtual 13, 3) := by decide +kernel
theorem dL_law_155 : decode cL_law 155 = .ok (.aload_n 2, 1) := by decide +kernel
theorem dL_law_156 : decode cL_law 156 = .ok (.aload_n 0, 1) := by decide +kernel
theorem dL_law_157 : decode cL_law 157 = .ok (.iload_n 3, 1) := by decide +kernel
theorem dL_law_158 : decode cL_law 158 = .ok (.iconst 1, 1) := by decide +kernel
theorem dL_law_159 : decode cL_law 159 = .ok (.iadd, 1) := by decide +kernel
theorem dL_law_160 : decode cL_law 160 = .ok (.iaload, 1) := by decide +kernel
theorem dL_law_161 : decode cL_law 161 = .ok (.aload_n 0, 1) := by decide +kernel
theorem dL_law_162 : decode cL_law 162 = .ok (.iload_n 3, 1) := by decide +kernel
theorem dL_law_163 : decode cL_law 163 = .ok (.iconst 2, 1) := by decide +kernel
theorem dL_law_164 : decode cL_law 164 = .ok (.iadd, 1) := by decide +kernel
theorem dL_law_165 : decode cL_law 165 = .ok (.iaload, 1) := by decide +kernel
theorem dL_law_166 : decode cL_law 166 = .ok (.aload_n 0, 1) := by decide +kernel
theorem dL_law_167 : decode cL_law 167 = .ok (.iload_n 3, 1) := by decide +kernel
theorem dL_law_168 : decode cL_law 168 = .ok (.iconst 3, 1) := by decide +kernel
theorem dL_law_169 : decode cL_law 169 = .ok (.iadd, 1) := by decide +kernel
theorem dL_law_170 : decode cL_law 170 = .ok (.iaload, 1) := by decide +kernel
theorem dL_law_171 : decode cL_law 171 = .ok (.invokevirtual 17, 3) := by decide +kernel
theorem dL_law_174 : decode cL_law 174 = .ok (.if_icmp .eq 518, 3) := by decide +kernel
theorem dL_law_177 : decode cL_law 177 = .ok (.iconst 0, 1) := by decide +kernel
theorem dL_law_178 : decode cL_law 178 = .ok (.ireturn, 1) := by decide +kernel
theorem dL_law_179 : decode cL_law 179 = .ok (.aload_n 1, 1) := by decide +kernel
theorem dL_law_180 : decode cL_law 180 = .ok (.invokevirtual 18, 3) := by decide +kernel
theorem dL_law_183 : decode cL_law 183 = .ok (.aload_n 2, 1) := by decide +kernel
theorem dL_law_184 : decode cL_law 184 = .ok (.invokevirtual 22, 3) := by decide +kernel
theorem dL_law_187 : decode cL_law 187 = .ok (.if_icmp .eq 505, 3) := by decide +kernel
theorem dL_law_190 : decode cL_law 190 = .ok (.iconst 0, 1) := by decide +kernel
theorem dL_law_191 : decode cL_law 191 = .ok (.ireturn, 1) := by decide +kernel
theorem dL_law_192 : decode cL_law 192 = .ok (.aload_n 1, 1) := by decide +kernel
theorem dL_law_193 : decode cL_law 193 = .ok (.aload_n 0, 1) := by decide +kernel
theorem dL_law_194 : decode cL_law 194 = .ok (.iload_n 3, 1) := by decide +kernel
theorem dL_law_195 : decode cL_law 195 = .ok (.iconst 1, 1) := by decide +kernel
theorem dL_law_196 : decode cL_law 196 = .ok (.iadd, 1) := by decide +kernel
theorem dL_law_197 : decode cL_law 197 = .ok (.iaload, 1) := by decide +kernel
theorem dL_law_198 : decode cL_law 198 = .ok (.aload_n 0, 1) := by decide +kernel
theorem dL_law_199 : decode cL_law 199 = .ok (.iload_n 3, 1) := by decide +kernel
theorem dL_law_200 : decode cL_law 200 = .ok (.iconst 2, 1) := by decide +kernel
theorem dL_law_201 : decode cL_law 201 = .ok (.iadd, 1) := by decide +kernel
theorem dL_law_202 : decode cL_law 202 = .ok (.iaload, 1) := by decide +kernel
theorem dL_law_203 : decode cL_law 203 = .ok (.aload_n 0, 1) := by decide +kernel
theorem dL_law_204 : decode cL_law 204 = .ok (.iload_n 3, 1) := by decide +kernel
theorem dL_law_205 : decode cL_law 205 = .ok (.iconst 3, 1) := by decide +kernel
theorem dL_law_206 : decode cL_law 206 = .ok (.iadd, 1) := by decide +kernel
theorem dL_law_207 : decode cL_law 207 = .ok (.iaload, 1) := by decide +kernel
theorem dL_law_208 : decode cL_law 208 = .ok (.invokevirtual 23, 3) := by decide +kernel
theorem dL_law_211 : decode cL_law 211 = .ok (.aload_n 2, 1) := by decide +kernel
theorem dL_law_212 : decode cL_law 212 = .ok (.aload_n 0, 1) := by decide +kernel
theorem dL_law_213 : decode cL_law 213 = .ok (.iload_n 3, 1) := by decide +kernel
theorem dL_law_214 : decode cL_law 214 = .ok (.iconst 1, 1) := by decide +kernel
theorem dL_law_215 : decode cL_law 215 = .ok (.iadd, 1) := by decide +kernel
theorem dL_law_216 : decode cL_law 216 = .ok (.iaload, 1) := by decide +kernel
theorem dL_law_217 : decode cL_law 217 = .ok (.aload_n 0, 1) := by decide +kernel
theorem dL_law_218 : decode cL_law 218 = .ok (.iload_n 3, 1) := by decide +kernel
theorem dL_law_219 : decode cL_law 219 = .ok (.iconst 2, 1) := by decide +kernel
theorem dL_law_220 : decode cL_law 220 = .ok (.iadd, 1) := by decide +kernel
theorem dL_law_221 : decode cL_law 221 = .ok (.iaload, 1) := by decide +kernel
theorem dL_law_222 : decode cL_law 222 = .ok (.aload_n 0, 1) := by decide +kernel
theorem dL_law_223 : decode cL_law 223 = .ok (.iload_n 3, 1) := by decide +kernel
theorem dL_law_224 : decode cL_law 224 = .ok (.iconst 3, 1) := by decide +kernel
theorem dL_law_225 : decode cL_law 225 = .ok (.iadd, 1) := by decide +kernel
theorem dL_law_226 : decode cL_law 226 = .ok (.iaload, 1) := by decide +kernel
theorem dL_law_227 : decode cL_law 227 = .ok (.invokevirtual 26, 3) := by decide +kernel
theorem dL_law_230 : decode cL_law 230 = .ok (.if_icmp .eq 462, 3) := by decide +kernel
theorem dL_law_233 : decode cL_law 233 = .ok (.iconst 0, 1) := by decide +kernel
theorem dL_law_234 : decode cL_law 234 = .ok (.ireturn, 1) := by decide +kernel
theorem dL_law_235 : decode cL_law 235 = .ok (.aload_n 1, 1) := by decide +kernel
theorem dL_law_236 : decode cL_law 236 = .ok (.aload_n 0, 1) := by decide +kernel
theorem dL_law_237 : decode cL_law 237 = .ok (.iload_n 3, 1) := by decide +kernel
theorem dL_law_238 : decode cL_law 238 = .ok (.iconst 1, 1) := by decide +kernel
theorem dL_law_239 : decode cL_law 239 = .ok (.iadd, 1) := by decide +kernel
theorem dL_law_240 : decode cL_law 240 = .ok (.iaload, 1) := by decide +kernel
theorem dL_law_241 : decode cL_law 241 = .ok (.invokevirtual 27, 3) := by decide +kernel
theorem dL_law_244 : decode cL_law 244 = .ok (.aload_n 2, 1) := by decide +kernel
theorem dL_law_245 : decode cL_law 245 = .ok (.aload_n 0, 1) := by decide +kernel
theorem dL_law_246 : decode cL_law 246 = .ok (.iload_n 3, 1) := by decide +kernel
theorem dL_law_247 : decode cL_law 247 = .ok (.iconst 1, 1) := by decide +kernel
theorem dL_law_248 : decode cL_law 248 = .ok (.iadd, 1) := by decide +kernel
theorem dL_law_249 : decode cL_law 249 = .ok (.iaload, 1) := by decide +kernel
theorem dL_law_250 : decode cL_law 250 = .ok (.invokevirtual 31, 3) := by decide +kernel
theorem dL_law_253 : decode cL_law 253 = .ok (.if_icmp .eq 439, 3) := by decide +kernel
theorem dL_law_256 : decode cL_law 256 = .ok (.iconst 0, 1) := by decide +kernel
theorem dL_law_257 : decode cL_law 257 = .ok (.ireturn, 1) := by decide +kernel
theorem dL_law_258 : decode cL_law 258 = .ok (.aload_n 1, 1) := by decide +kernel
theorem dL_law_259 : decode cL_law 259 = .ok (.aload_n 0, 1) := by decide +kernel
theorem dL_law_260 : decode cL_law 260 = .ok (.iload_n 3, 1) := by decide +kernel
theorem dL_law_261 : decode cL_law 261 = .ok (.iconst 1, 1) := by decide +kernel
theorem dL_law_262 : decode cL_law 262 = .ok (.iadd, 1) := by decide +kernel
theorem dL_law_263 : decode cL_law 263 = .ok (.iaload, 1) := by decide +kernel
theorem dL_law_264 : decode cL_law 264 = .ok (.aload_n 0, 1) := by decide +kernel
theorem dL_law_265 : decode cL_law 265 = .ok (.iload_n 3, 1) := by decide +kernel
theorem dL_law_266 : decode cL_law 266 = .ok (.iconst 2, 1) := by decide +kernel
theorem dL_law_267 : decode cL_law 267 = .ok (.iadd, 1) := by decide +kernel
theorem dL_law_268 : decode cL_law 268 = .ok (.iaload, 1) := by decide +kernel
theorem dL_law_269 : decode cL_law 269 = .ok (.invokevirtual 32, 3) := by decide +kernel
theorem dL_law_272 : decode cL_law 272 = .ok (.aload_n 2, 1) := by decide +kernel
theorem dL_law_273 : decode cL_law 273 = .ok (.aload_n 0, 1) := by decide +kernel
theorem dL_law_274 : decode cL_law 274 = .ok (.iload_n 3, 1) := by decide +kernel
theorem dL_law_275 : decode cL_law 275 = .ok (.iconst 1, 1) := by decide +kernel
theorem dL_law_276 : decode cL_law 276 = .ok (.iadd, 1) := by decide +kernel
theorem dL_law_277 : decode cL_law 277 = .ok (.iaload, 1) := by decide +kernel
theorem dL_law_278 : decode cL_law 278 = .ok (.aload_n 0, 1) := by decide +kernel
theorem dL_law_279 : decode cL_law 279 = .ok (.iload_n 3, 1) := by decide +kernel
theorem dL_law_280 : decode cL_law 280 = .ok (.iconst 2, 1) := by decide +kernel
theorem dL_law_281 : decode cL_law 281 = .ok (.iadd, 1) := by decide +kernel
theorem dL_law_282 : decode cL_law 282 = .ok (.iaload, 1) := by decide +kernel
theorem dL_law_283 : decode cL_law 283 = .ok (.invokevirtual 36, 3) := by decide +kernel
theorem dL_law_286 : decode cL_law 286 = .ok (.if_icmp .eq 406, 3) := by decide +kernel
theorem dL_law_289 : decode cL_law 289 = .ok (.iconst 0, 1) := by decide +kernel
theorem dL_law_290 : decode cL_law 290 = .ok (.ireturn, 1) := by decide +kernel
theorem dL_law_291 : decode cL_law 291 = .ok (.aload_n 1, 1) := by decide +kernel
theorem dL_law_292 : decode cL_law 292 = .ok (.aload_n 0, 1) := by decide +kernel
theorem dL_law_293 : decode cL_law 293 = .ok (.iload_n 3, 1) := by decide +kernel
theorem dL_law_294 : decode cL_law 294 = .ok (.iconst 1, 1) := by decide +kernel
theorem dL_law_295 : decode cL_law 295 = .ok (.iadd, 1) := by decide +kernel
theorem dL_law_296 : decode cL_law 296 = .ok (.iaload, 1) := by decide +kernel
theorem dL_law_297 : decode cL_law 297 = .ok (.invokevirtual 37, 3) := by decide +kernel
theorem dL_law_300 : decode cL_law 300 = .ok (.aload_n 2, 1) := by decide +kernel
theorem dL_law_301 : decode cL_law 301 = .ok (.aload_n 0, 1) := by decide +kernel
theorem dL_law_302 : decode cL_law 302 = .ok (.iload_n 3, 1) := by decide +kernel
theorem dL_law_303 : decode cL_law 303 = .ok (.iconst 1, 1) := by decide +kernel
theorem dL_law_304 : decode cL_law 304 = .ok (.iadd, 1) := by decide +kernel
theorem dL_law_305 : decode cL_law 305 = .ok (.iaload, 1) := by decide +kernel
theorem dL_law_306 : decode cL_law 306 = .ok (.invokevirtual 40, 3) := by decide +kernel
theorem dL_law_309 : decode cL_law 309 = .ok (.if_icmp .eq 383, 3) := by decide +kernel
theorem dL_law_312 : decode cL_law 312 = .ok (.iconst 0, 1) := by decide +kernel
theorem dL_law_313 : decode cL_law 313 = .ok (.ireturn, 1) := by decide +kernel
theorem dL_law_314 : decode cL_law 314 = .ok (.aload_n 1, 1) := by decide +kernel
theorem dL_law_315 : decode cL_law 315 = .ok (.aload_n 0, 1) := by decide +kernel
theorem dL_law_316 : decode cL_law 316 = .ok (.iload_n 3, 1) := by decide +kernel
theorem dL_law_317 : decode cL_law 317 = .ok (.iconst 1, 1) := by decide +kernel
theorem dL_law_318 : decode cL_law 318 = .ok (.iadd, 1) := by decide +kernel
theorem dL_law_319 : decode cL_law 319 = .ok (.iaload, 1) := by decide +kernel
theorem dL_law_320 : decode cL_law 320 = .ok (.invokevirtual 41, 3) := by decide +kernel
theorem dL_law_323 : decode cL_law 323 = .ok (.aload_n 2, 1) := by decide +kernel
theorem dL_law_324 : decode cL_law 324 = .ok (.aload_n 0, 1) := by decide +kernel
theorem dL_law_325 : decode cL_law 325 = .ok (.iload_n 3, 1) := by decide +kernel
theorem dL_law_326 : decode cL_law 326 = .ok (.iconst 1, 1) := by decide +kernel
theorem dL_law_327 : decode cL_law 327 = .ok (.iadd, 1) := by decide +kernel
theorem dL_law_328 : decode cL_law 328 = .ok (.iaload, 1) := by decide +kernel
theorem dL_law_329 : decode cL_law 329 = .ok (.invokevirtual 44, 3) := by decide +kernel
theorem dL_law_332 : decode cL_law 332 = .ok (.if_icmp .eq 360, 3) := by decide +kernel
theorem dL_law_335 : decode cL_law 335 = .ok (.iconst 0, 1) := by decide +kernel
theorem dL_law_336 : decode cL_law 336 = .ok (.ireturn, 1) := by decide +kernel
theorem dL_law_337 : decode cL_law 337 = .ok (.aload_n 1, 1) := by decide +kernel
theorem dL_law_338 : decode cL_law 338 = .ok (.aload_n 0, 1) := by decide +kernel
theorem dL_law_339 : decode cL_law 339 = .ok (.iload_n 3, 1) := by decide +kernel
theorem dL_law_340 : decode cL_law 340 = .ok (.iconst 1, 1) := by decide +kernel
theorem dL_law_341 : decode cL_law 341 = .ok (.iadd, 1) := by decide +kernel
theorem dL_law_342 : decode cL_law 342 = .ok (.iaload, 1) := by decide +kernel
theorem dL_law_343 : decode cL_law 343 = .ok (.aload_n 0, 1) := by decide +kernel
theorem dL_law_344 : decode cL_law 344 = .ok (.iload_n 3, 1) := by decide +kernel
theorem dL_law_345 : decode cL_law 345 = .ok (.iconst 2, 1) := by decide +kernel
theorem dL_law_346 : decode cL_law 346 = .ok (.iadd, 1) := by decide +kernel
theorem dL_law_347 : decode cL_law 347 = .ok (.iaload, 1) := by decide +kernel
theorem dL_law_348 : decode cL_law 348 = .ok (.invokevirtual 45, 3) := by decide +kernel
theorem dL_law_351 : decode cL_law 351 = .ok (.aload_n 2, 1) := by decide +kernel
theorem dL_law_352 : decode cL_law 352 = .ok (.aload_n 0, 1) := by decide +kernel
theorem dL_law_353 : decode cL_law 353 = .ok (.iload_n 3, 1) := by decide +kernel
theorem dL_law_354 : decode cL_law 354 = .ok (.iconst 1, 1) := by decide +kernel
theorem dL_law_355 : decode cL_law 355 = .ok (.iadd, 1) := by decide +kernel
theorem dL_law_356 : decode cL_law 356 = .ok (.iaload, 1) := by decide +kernel
theorem dL_law_357 : decode cL_law 357 = .ok (.aload_n 0, 1) := by decide +kernel
theorem dL_law_358 : decode cL_law 358 = .ok (.iload_n 3, 1) := by decide +kernel
theorem dL_law_359 : decode cL_law 359 = .ok (.iconst 2, 1) := by decide +kernel
theorem dL_law_360 : decode cL_law 360 = .ok (.iadd, 1) := by decide +kernel
theorem dL_law_361 : decode cL_law 361 = .ok (.iaload, 1) := by decide +kernel
theorem dL_law_362 : decode cL_law 362 = .ok (.invokevirtual 48, 3) := by decide +kernel
theorem dL_law_365 : decode cL_law 365 = .ok (.if_icmp .eq 327, 3) := by decide +kernel
theorem dL_law_368 : decode cL_law 368 = .ok (.iconst 0, 1) := by decide +kernel
theorem dL_law_369 : decode cL_law 369 = .ok (.ireturn, 1) := by decide +kernel
theorem dL_law_370 : decode cL_law 370 = .ok (.aload_n 1, 1) := by decide +kernel
theorem dL_law_371 : decode cL_law 371 = .ok (.aload_n 0, 1) := by decide +kernel
theorem dL_law_372 : decode cL_law 372 = .ok (.iload_n 3, 1) := by decide +kernel
theorem dL_law_373 : decode cL_law 373 = .ok (.iconst 1, 1) := by decide +kernel
theorem dL_law_374 : decode cL_law 374 = .ok (.iadd, 1) := by decide +kernel
theorem dL_law_375 : decode cL_law 375 = .ok (.iaload, 1) := by decide +kernel
theorem dL_law_376 : decode cL_law 376 = .ok (.aload_n 0, 1) := by decide +kernel
theorem dL_law_377 : decode cL_law 377 = .ok (.iload_n 3, 1) := by decide +kernel
theorem dL_law_378 : decode cL_law 378 = .ok (.iconst 2, 1) := by decide +kernel
theorem dL_law_379 : decode cL_law 379 = .ok (.iadd, 1) := by decide +kernel
theorem dL_law_380 : decode cL_law 380 = .ok (.iaload, 1) := by decide +kernel
theorem dL_law_381 : decode cL_law 381 = .ok (.aload_n 0, 1) := by decide +kernel
theorem dL_law_382 : decode cL_law 382 = .ok (.iload_n 3, 1) := by decide +kernel
theorem dL_law_383 : decode cL_law 383 = .ok (.iconst 3, 1) := by decide +kernel
theorem dL_law_384 : decode cL_law 384 = .ok (.iadd, 1) := by decide +kernel
theorem dL_law_385 : decode cL_law 385 = .ok (.iaload, 1) := by decide +kernel
theorem dL_law_386 : decode cL_law 386 = .ok (.invokevirtual 49, 3) := by decide +kernel
theorem dL_law_389 : decode cL_law 389 = .ok (.aload_n 2, 1) := by decide +kernel
theorem dL_law_390 : decode cL_law 390 = .ok (.aload_n 0, 1) := by decide +kernel
theorem dL_law_391 : decode cL_law 391 = .ok (.iload_n 3, 1) := by decide +kernel
theorem dL_law_392 : decode cL_law 392 = .ok (.iconst 1, 1) := by decide +kernel
theorem dL_law_393 : decode cL_law 393 = .ok (.iadd, 1) := by decide +kernel
theorem dL_law_394 : decode cL_law 394 = .ok (.iaload, 1) := by decide +kernel
theorem dL_law_395 : decode cL_law 395 = .ok (.aload_n 0, 1) := by decide +kernel
theorem dL_law_396 : decode cL_law 396 = .ok (.iload_n 3, 1) := by decide +kernel
theorem dL_law_397 : decode cL_law 397 = .ok (.iconst 2, 1) := by decide +kernel
theorem dL_law_398 : decode cL_law 398 = .ok (.iadd, 1) := by decide +kernel
theorem dL_law_399 : decode cL_law 399 = .ok (.iaload, 1) := by decide +kernel
theorem dL_law_400 : decode cL_law 400 = .ok (.aload_n 0, 1) := by decide +kernel
theorem dL_law_401 : decode cL_law 401 = .ok (.iload_n 3, 1) := by decide +kernel
theorem dL_law_402 : decode cL_law 402 = .ok (.iconst 3, 1) := by decide +kernel
theorem dL_law_403 : decode cL_law 403 = .ok (.iadd, 1) := by decide +kernel
theorem dL_law_404 : decode cL_law 404 = .ok (.iaload, 1) := by decide +kernel
theorem dL_law_405 : decode cL_law 405 = .ok (.invokevirtual 52, 3) := by decide +kernel
theorem dL_law_408 : decode cL_law 408 = .ok (.if_icmp .eq 284, 3) := by decide +kernel
theorem dL_law_411 : decode cL_law 411 = .ok (.iconst 0, 1) := by decide +kernel
theorem dL_law_412 : decode cL_law 412 = .ok (.ireturn, 1) := by decide +kernel
theorem dL_law_413 : decode cL_law 413 = .ok (.aload_n 1, 1) := by decide +kernel
theorem dL_law_414 : decode cL_law 414 = .ok (.aload_n 0, 1) := by decide +kernel
theorem dL_law_415 : decode cL_law 415 = .ok (.iload_n 3, 1) := by decide +kernel
theorem dL_law_416 : decode cL_law 416 = .ok (.iconst 1, 1) := by decide +kernel
theorem dL_law_417 : decode cL_law 417 = .ok (.iadd, 1) := by decide +kernel
theorem dL_law_418 : decode cL_law 418 = .ok (.iaload, 1) := by decide +kernel
theorem dL_law_419 : decode cL_law 419 = .ok (.aload_n 0, 1) := by decide +kernel
theorem dL_law_420 : decode cL_law 420 = .ok (.iload_n 3, 1) := by decide +kernel
theorem dL_law_421 : decode cL_law 421 = .ok (.iconst 2, 1) := by decide +kernel
theorem dL_law_422 : decode cL_law 422 = .ok (.iadd, 1) := by decide +kernel
theorem dL_law_423 : decode cL_law 423 = .ok (.iaload, 1) := by decide +kernel
theorem dL_law_424 : decode cL_law 424 = .ok (.invokevirtual 53, 3) := by decide +kernel
theorem dL_law_427 : decode cL_law 427 = .ok (.aload_n 2, 1) := by decide +kernel
theorem dL_law_428 : decode cL_law 428 = .ok (.aload_n 0, 1) := by decide +kernel
theorem dL_law_429 : decode cL_law 429 = .ok (.iload_n 3, 1) := by decide +kernel
theorem dL_law_430 : decode cL_law 430 = .ok (.iconst 1, 1) := by decide +kernel
theorem dL_law_431 : decode cL_law 431 = .ok (.iadd, 1) := by decide +kernel
theorem dL_law_432 : decode cL_law 432 = .ok (.iaload, 1) := by decide +kernel
theorem dL_law_433 : decode cL_law 433 = .ok (.aload_n 0, 1) := by decide +kernel
theorem dL_law_434 : decode cL_law 434 = .ok (.iload_n 3, 1) := by decide +kernel
theorem dL_law_435 : decode cL_law 435 = .ok (.iconst 2, 1) := by decide +kernel
theorem dL_law_436 : decode cL_law 436 = .ok (.iadd, 1) := by decide +kernel
theorem dL_law_437 : decode cL_law 437 = .ok (.iaload, 1) := by decide +kernel
theorem dL_law_438 : decode cL_law 438 = .ok (.invokevirtual 56, 3) := by decide +kernel
theorem dL_law_441 : decode cL_law 441 = .ok (.if_icmp .eq 251, 3) := by decide +kernel
theorem dL_law_444 : decode cL_law 444 = .ok (.iconst 0, 1) := by decide +kernel
theorem dL_law_445 : decode cL_law 445 = .ok (.ireturn, 1) := by decide +kernel
theorem dL_law_446 : decode cL_law 446 = .ok (.aload_n 1, 1) := by decide +kernel
theorem dL_law_447 : decode cL_law 447 = .ok (.aload_n 0, 1) := by decide +kernel
theorem dL_law_448 : decode cL_law 448 = .ok (.iload_n 3, 1) := by decide +kernel
theorem dL_law_449 : decode cL_law 449 = .ok (.iconst 1, 1) := by decide +kernel
theorem dL_law_450 : decode cL_law 450 = .ok (.iadd, 1) := by decide +kernel
theorem dL_law_451 : decode cL_law 451 = .ok (.iaload, 1) := by decide +kernel
theorem dL_law_452 : decode cL_law 452 = .ok (.aload_n 0, 1) := by decide +kernel
theorem dL_law_453 : decode cL_law 453 = .ok (.iload_n 3, 1) := by decide +kernel
theorem dL_law_454 : decode cL_law 454 = .ok (.iconst 2, 1) := by decide +kernel
theorem dL_law_455 : decode cL_law 455 = .ok (.iadd, 1) := by decide +kernel
theorem dL_law_456 : decode cL_law 456 = .ok (.iaload, 1) := by decide +kernel
theorem dL_law_457 : decode cL_law 457 = .ok (.invokevirtual 57, 3) := by decide +kernel
theorem dL_law_460 : decode cL_law 460 = .ok (.aload_n 2, 1) := by decide +kernel
theorem dL_law_461 : decode cL_law 461 = .ok (.aload_n 0, 1) := by decide +kernel
theorem dL_law_462 : decode cL_law 462 = .ok (.iload_n 3, 1) := by decide +kernel
theorem dL_law_463 : decode cL_law 463 = .ok (.iconst 1, 1) := by decide +kernel
theorem dL_law_464 : decode cL_law 464 = .ok (.iadd, 1) := by decide +kernel
theorem dL_law_465 : decode cL_law 465 = .ok (.iaload, 1) := by decide +kernel
theorem dL_law_466 : decode cL_law 466 = .ok (.aload_n 0, 1) := by decide +kernel
theorem dL_law_467 : decode cL_law 467 = .ok (.iload_n 3, 1) := by decide +kernel
theorem dL_law_468 : decode cL_law 468 = .ok (.iconst 2, 1) := by decide +kernel
theorem dL_law_469 : decode cL_law 469 = .ok (.iadd, 1) := by decide +kernel
theorem dL_law_470 : decode cL_law 470 = .ok (.iaload, 1) := by decide +kernel
theorem dL_law_471 : decode cL_law 471 = .ok (.invokevirtual 60, 3) := by decide +kernel
theorem dL_law_474 : decode cL_law 474 = .ok (.if_icmp .eq 218, 3) := by decide +kernel
theorem dL_law_477 : decode cL_law 477 = .ok (.iconst 0, 1) := by decide +kernel
theorem dL_law_478 : decode cL_law 478 = .ok (.ireturn, 1) := by decide +kernel
theorem dL_law_479 : decode cL_law 479 = .ok (.aload_n 1, 1) := by decide +kernel
theorem dL_law_480 : decode cL_law 480 = .ok (.aload_n 0, 1) := by decide +kernel
theorem dL_law_481 : decode cL_law 481 = .ok (.iload_n 3, 1) := by decide +kernel
theorem dL_law_482 : decode cL_law 482 = .ok (.iconst 1, 1) := by decide +kernel
theorem dL_law_483 : decode cL_law 483 = .ok (.iadd, 1) := by decide +kernel
theorem dL_law_484 : decode cL_law 484 = .ok (.iaload, 1) := by decide +kernel
theorem dL_law_485 : decode cL_law 485 = .ok (.invokevirtual 61, 3) := by decide +kernel
theorem dL_law_488 : decode cL_law 488 = .ok (.aload_n 2, 1) := by decide +kernel
theorem dL_law_489 : decode cL_law 489 = .ok (.aload_n 0, 1) := by decide +kernel
theorem dL_law_490 : decode cL_law 490 = .ok (.iload_n 3, 1) := by decide +kernel
theorem dL_law_491 : decode cL_law 491 = .ok (.iconst 1, 1) := by decide +kernel
theorem dL_law_492 : decode cL_law 492 = .ok (.iadd, 1) := by decide +kernel
theorem dL_law_493 : decode cL_law 493 = .ok (.iaload, 1) := by decide +kernel
theorem dL_law_494 : decode cL_law 494 = .ok (.invokevirtual 64, 3) := by decide +kernel
theorem dL_law_497 : decode cL_law 497 = .ok (.if_icmp .eq 195, 3) := by decide +kernel
theorem dL_law_500 : decode cL_law 500 = .ok (.iconst 0, 1) := by decide +kernel
theorem dL_law_501 : decode cL_law 501 = .ok (.ireturn, 1) := by decide +kernel
theorem dL_law_502 : decode cL_law 502 = .ok (.aload_n 1, 1) := by decide +kernel
theorem dL_law_503 : decode cL_law 503 = .ok (.aload_n 0, 1) := by decide +kernel
theorem dL_law_504 : decode cL_law 504 = .ok (.iload_n 3, 1) := by decide +kernel
theorem dL_law_505 : decode cL_law 505 = .ok (.iconst 1, 1) := by decide +kernel
theorem dL_law_506 : decode cL_law 506 = .ok (.iadd, 1) := by decide +kernel
theorem dL_law_507 : decode cL_law 507 = .ok (.iaload, 1) := by decide +kernel
theorem dL_law_508 : decode cL_law 508 = .ok (.invokevirtual 65, 3) := by decide +kernel
theorem dL_law_511 : decode cL_law 511 = .ok (.aload_n 2, 1) := by decide +kernel
theorem dL_law_512 : decode cL_law 512 = .ok (.aload_n 0, 1) := by decide +kernel
theorem dL_law_513 : decode cL_law 513 = .ok (.iload_n 3, 1) := by decide +kernel
theorem dL_law_514 : decode cL_law 514 = .ok (.iconst 1, 1) := by decide +kernel
theorem dL_law_515 : decode cL_law 515 = .ok (.iadd, 1) := by decide +kernel
theorem dL_law_516 : decode cL_law 516 = .ok (.iaload, 1) := by decide +kernel
theorem dL_law_517 : decode cL_law 517 = .ok (.invokevirtual 68, 3) := by decide +kernel
theorem dL_law_520 : decode cL_law 520 = .ok (.if_icmp .eq 172, 3) := by decide +kernel
theorem dL_law_523 : decode cL_law 523 = .ok (.iconst 0, 1) := by decide +kernel
theorem dL_law_524 : decode cL_law 524 = .ok (.ireturn, 1) := by decide +kernel
theorem dL_law_525 : decode cL_law 525 = .ok (.aload_n 1, 1) := by decide +kernel
theorem dL_law_526 : decode cL_law 526 = .ok (.aload_n 0, 1) := by decide +kernel
theorem dL_law_527 : decode cL_law 527 = .ok (.iload_n 3, 1) := by decide +kernel
theorem dL_law_528 : decode cL_law 528 = .ok (.iconst 1, 1) := by decide +kernel
theorem dL_law_529 : decode cL_law 529 = .ok (.iadd, 1) := by decide +kernel
theorem dL_law_530 : decode cL_law 530 = .ok (.iaload, 1) := by decide +kernel
theorem dL_law_531 : decode cL_law 531 = .ok (.invokevirtual 69, 3) := by decide +kernel
theorem dL_law_534 : decode cL_law 534 = .ok (.aload_n 2, 1) := by decide +kernel
theorem dL_law_535 : decode cL_law 535 = .ok (.aload_n 0, 1) := by decide +kernel
theorem dL_law_536 : decode cL_law 536 = .ok (.iload_n 3, 1) := by decide +kernel
theorem dL_law_537 : decode cL_law 537 = .ok (.iconst 1, 1) := by decide +kernel
theorem dL_law_538 : decode cL_law 538 = .ok (.iadd, 1) := by decide +kernel
theorem dL_law_539 : decode cL_law 539 = .ok (.iaload, 1) := by decide +kernel
theorem dL_law_540 : decode cL_law 540 = .ok (.invokevirtual 72, 3) := by decide +kernel
theorem dL_law_543 : decode cL_law 543 = .ok (.if_icmp .eq 149, 3) := by decide +kernel
theorem dL_law_546 : decode cL_law 546 = .ok (.iconst 0, 1) := by decide +kernel
theorem dL_law_547 : decode cL_law 547 = .ok (.ireturn, 1) := by decide +kernel
theorem dL_law_548 : decode cL_law 548 = .ok (.aload_n 1, 1) := by decide +kernel
theorem dL_law_549 : decode cL_law 549 = .ok (.aload_n 0, 1) := by decide +kernel
theorem dL_law_550 : decode cL_law 550 = .ok (.iload_n 3, 1) := by decide +kernel
theorem dL_law_551 : decode cL_law 551 = .ok (.iconst 1, 1) := by decide +kernel
theorem dL_law_552 : decode cL_law 552 = .ok (.iadd, 1) := by decide +kernel
theorem dL_law_553 : decode cL_law 553 = .ok (.iaload, 1) := by decide +kernel
theorem dL_law_554 : decode cL_law 554 = .ok (.aload_n 0, 1) := by decide +kernel
theorem dL_law_555 : decode cL_law 555 = .ok (.iload_n 3, 1) := by decide +kernel
theorem dL_law_556 : decode cL_law 556 = .ok (.iconst 2, 1) := by decide +kernel
theorem dL_law_557 : decode cL_law 557 = .ok (.iadd, 1) := by decide +kernel
theorem dL_law_558 : decode cL_law 558 = .ok (.iaload, 1) := by decide +kernel
theorem dL_law_559 : decode cL_law 559 = .ok (.invokevirtual 73, 3) := by decide +kernel
theorem dL_law_562 : decode cL_law 562 = .ok (.aload_n 2, 1) := by decide +kernel
theorem dL_law_563 : decode cL_law 563 = .ok (.aload_n 0, 1) := by decide +kernel
theorem dL_law_564 : decode cL_law 564 = .ok (.iload_n 3, 1) := by decide +kernel
theorem dL_law_565 : decode cL_law 565 = .ok (.iconst 1, 1) := by decide +kernel
theorem dL_law_566 : decode cL_law 566 = .ok (.iadd, 1) := by decide +kernel
theorem dL_law_567 : decode cL_law 567 = .ok (.iaload, 1) := by decide +kernel
theorem dL_law_568 : decode cL_law 568 = .ok (.aload_n 0, 1) := by decide +kernel
theorem dL_law_569 : decode cL_law 569 = .ok (.iload_n 3, 1) := by decide +kernel
theorem dL_law_570 : decode cL_law 570 = .ok (.iconst 2, 1) := by decide +kernel
theorem dL_law_571 : decode cL_law 571 = .ok (.iadd, 1) := by decide +kernel
theorem dL_law_572 : decode cL_law 572 = .ok (.iaload, 1) := by decide +kernel
theorem dL_law_573 : decode cL_law 573 = .ok (.invokevirtual 76, 3) := by decide +kernel
theorem dL_law_576 : decode cL_law 576 = .ok (.if_icmp .eq 116, 3) := by decide +kernel
theorem dL_law_579 : decode cL_law 579 = .ok (.iconst 0, 1) := by decide +kernel
theorem dL_law_580 : decode cL_law 580 = .ok (.ireturn, 1) := by decide +kernel
theorem dL_law_581 : decode cL_law 581 = .ok (.aload_n 1, 1) := by decide +kernel
theorem dL_law_582 : decode cL_law 582 = .ok (.invokevirtual 77, 3) := by decide +kernel
theorem dL_law_585 : decode cL_law 585 = .ok (.aload_n 2, 1) := by decide +kernel
theorem dL_law_586 : decode cL_law 586 = .ok (.invokevirtual 80, 3) := by decide +kernel
theorem dL_law_589 : decode cL_law 589 = .ok (.if_icmp .eq 103, 3) := by decide +kernel
theorem dL_law_592 : decode cL_law 592 = .ok (.iconst 0, 1) := by decide +kernel
theorem dL_law_593 : decode cL_law 593 = .ok (.ireturn, 1) := by decide +kernel
theorem dL_law_594 : decode cL_law 594 = .ok (.aload_n 1, 1) := by decide +kernel
theorem dL_law_595 : decode cL_law 595 = .ok (.invokevirtual 81, 3) := by decide +kernel
theorem dL_law_598 : decode cL_law 598 = .ok (.aload_n 2, 1) := by decide +kernel
theorem dL_law_599 : decode cL_law 599 = .ok (.invokevirtual 84, 3) := by decide +kernel
theorem dL_law_602 : decode cL_law 602 = .ok (.if_icmp .eq 90, 3) := by decide +kernel
theorem dL_law_605 : decode cL_law 605 = .ok (.iconst 0, 1) := by decide +kernel
theorem dL_law_606 : decode cL_law 606 = .ok (.ireturn, 1) := by decide +kernel
theorem dL_law_607 : decode cL_law 607 = .ok (.aload_n 1, 1) := by decide +kernel
theorem dL_law_608 : decode cL_law 608 = .ok (.invokevirtual 85, 3) := by decide +kernel
theorem dL_law_611 : decode cL_law 611 = .ok (.aload_n 2, 1) := by decide +kernel
theorem dL_law_612 : decode cL_law 612 = .ok (.invokevirtual 88, 3) := by decide +kernel
theorem dL_law_615 : decode cL_law 615 = .ok (.if_icmp .eq 77, 3) := by decide +kernel
theorem dL_law_618 : decode cL_law 618 = .ok (.iconst 0, 1) := by decide +kernel
theorem dL_law_619 : decode cL_law 619 = .ok (.ireturn, 1) := by decide +kernel
theorem dL_law_620 : decode cL_law 620 = .ok (.aload_n 1, 1) := by decide +kernel
theorem dL_law_621 : decode cL_law 621 = .ok (.aload_n 0, 1) := by decide +kernel
theorem dL_law_622 : decode cL_law 622 = .ok (.iload_n 3, 1) := by decide +kernel
theorem dL_law_623 : decode cL_law 623 = .ok (.iconst 1, 1) := by decide +kernel
theorem dL_law_624 : decode cL_law 624 = .ok (.iadd, 1) := by decide +kernel
theorem dL_law_625 : decode cL_law 625 = .ok (.iaload, 1) := by decide +kernel
theorem dL_law_626 : decode cL_law 626 = .ok (.invokevirtual 89, 3) := by decide +kernel
theorem dL_law_629 : decode cL_law 629 = .ok (.aload_n 2, 1) := by decide +kernel
theorem dL_law_630 : decode cL_law 630 = .ok (.aload_n 0, 1) := by decide +kernel
theorem dL_law_631 : decode cL_law 631 = .ok (.iload_n 3, 1) := by decide +kernel
theorem dL_law_632 : decode cL_law 632 = .ok (.iconst 1, 1) := by decide +kernel
theorem dL_law_633 : decode cL_law 633 = .ok (.iadd, 1) := by decide +kernel
theorem dL_law_634 : decode cL_law 634 = .ok (.iaload, 1) := by decide +kernel
theorem dL_law_635 : decode cL_law 635 = .ok (.invokevirtual 92, 3) := by decide +kernel
theorem dL_law_638 : decode cL_law 638 = .ok (.if_icmp .eq 54, 3) := by decide +kernel
theorem dL_law_641 : decode cL_law 641 = .ok (.iconst 0, 1) := by decide +kernel
theorem dL_law_642 : decode cL_law 642 = .ok (.ireturn, 1) := by decide +kernel
theorem dL_law_643 : decode cL_law 643 = .ok (.aload_n 1, 1) := by decide +kernel
theorem dL_law_644 : decode cL_law 644 = .ok (.invokevirtual 93, 3) := by decide +kernel
theorem dL_law_647 : decode cL_law 647 = .ok (.aload_n 2, 1) := by decide +kernel
theorem dL_law_648 : decode cL_law 648 = .ok (.invokevirtual 96, 3) := by decide +kernel
theorem dL_law_651 : decode cL_law 651 = .ok (.if_icmp .eq 41, 3) := by decide +kernel
theorem dL_law_654 : decode cL_law 654 = .ok (.iconst 0, 1) := by decide +kernel
theorem dL_law_655 : decode cL_law 655 = .ok (.ireturn, 1) := by decide +kernel
theorem dL_law_656 : decode cL_law 656 = .ok (.aload_n 1, 1) := by decide +kernel
theorem dL_law_657 : decode cL_law 657 = .ok (.aload_n 0, 1) := by decide +kernel
theorem dL_law_658 : decode cL_law 658 = .ok (.iload_n 3, 1) := by decide +kernel
theorem dL_law_659 : decode cL_law 659 = .ok (.iconst 1, 1) := by decide +kernel
theorem dL_law_660 : decode cL_law 660 = .ok (.iadd, 1) := by decide +kernel
theorem dL_law_661 : decode cL_law 661 = .ok (.iaload, 1) := by decide +kernel
theorem dL_law_662 : decode cL_law 662 = .ok (.invokevirtual 97, 3) := by decide +kernel
theorem dL_law_665 : decode cL_law 665 = .ok (.aload_n 2, 1) := by decide +kernel
theorem dL_law_666 : decode cL_law 666 = .ok (.aload_n 0, 1) := by decide +kernel
theorem dL_law_667 : decode cL_law 667 = .ok (.iload_n 3, 1) := by decide +kernel
theorem dL_law_668 : decode cL_law 668 = .ok (.iconst 1, 1) := by decide +kernel
theorem dL_law_669 : decode cL_law 669 = .ok (.iadd, 1) := by decide +kernel
theorem dL_law_670 : decode cL_law 670 = .ok (.iaload, 1) := by decide +kernel
theorem dL_law_671 : decode cL_law 671 = .ok (.invokevirtual 100, 3) := by decide +kernel
theorem dL_law_674 : decode cL_law 674 = .ok (.if_icmp .eq 18, 3) := by decide +kernel
theorem dL_law_677 : decode cL_law 677 = .ok (.iconst 0, 1) := by decide +kernel
theorem dL_law_678 : decode cL_law 678 = .ok (.ireturn, 1) := by decide +kernel
theorem dL_law_679 : decode cL_law 679 = .ok (.aload_n 1, 1) := by decide +kernel
theorem dL_law_680 : decode cL_law 680 = .ok (.invokevirtual 101, 3) := by decide +kernel
theorem dL_law_683 : decode cL_law 683 = .ok (.aload_n 2, 1) := by decide +kernel
theorem dL_law_684 : decode cL_law 684 = .ok (.invokevirtual 104, 3) := by decide +kernel
theorem dL_law_687 : decode cL_law 687 = .ok (.if_icmp .eq 5, 3) := by decide +kernel
theorem dL_law_690 : decode cL_law 690 = .ok (.iconst 0, 1) := by decide +kernel
theorem dL_law_691 : decode cL_law 691 = .ok (.ireturn, 1) := by decide +kernel
theorem dL_law_692 : decode cL_law 692 = .ok (.iinc 3 4, 3) := by decide +kernel
theorem dL_law_695 : decode cL_law 695 = .ok (.goto (-677), 3) := by decide +kernel
theorem dL_law_698 : decode cL_law 698 = .ok (.iconst 1, 1) := by decide +kernel
theorem dL_law_699 : decode cL_law 699 = .ok (.ireturn, 1) := by decide +kernel
abbrev vwCl : List vw_C := [(RX0, TX0, 2), (RX1, TX1, 10), (RX2, TX2, 7), (RX3, TX3, 6), (RX4, TX4, 11), (RX5, TX5, 5), (RX6, TX6, 7), (RX7, TX7, 14)]
end

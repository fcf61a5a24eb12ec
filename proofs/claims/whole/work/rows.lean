section
-- ===== PART A: goes FIRST, ahead of the names: the tables' words, and 'selects' of the private methods out of them =====
/-- a private method of a class that the tables say can be made, by its rows of tables_1 -/
def lw_okq (q : MethodName × Nat) : Prop := (q.1.cls ≠ "java/lang/invoke/MethodHandle" ∧ q.1.cls ≠ "java/lang/invoke/VarHandle") ∧ Cond.instantiable q.1.cls q.2 ∈ tables_1 ∧ Cond.privateMethod q.1 ∈ tables_1 ∧ Cond.instanceMethod q.1 ∈ tables_1
theorem lw_p0 : lw_okq (⟨"UnsaidRound", "tell", "(I)I"⟩, 7) := ⟨⟨by decide +kernel, by decide +kernel⟩, List.mem_of_getElem? (i := 15) (by decide +kernel), List.mem_of_getElem? (i := 164) (by decide +kernel), List.mem_of_getElem? (i := 165) (by decide +kernel)⟩
theorem lw_p1 : lw_okq (⟨"UnsaidRound$Green", "tryGrips", "()V"⟩, 14) := ⟨⟨by decide +kernel, by decide +kernel⟩, List.mem_of_getElem? (i := 23) (by decide +kernel), List.mem_of_getElem? (i := 329) (by decide +kernel), List.mem_of_getElem? (i := 330) (by decide +kernel)⟩
theorem lw_p2 : lw_okq (⟨"UnsaidRound$Green", "letSpeak", "()V"⟩, 14) := ⟨⟨by decide +kernel, by decide +kernel⟩, List.mem_of_getElem? (i := 23) (by decide +kernel), List.mem_of_getElem? (i := 333) (by decide +kernel), List.mem_of_getElem? (i := 334) (by decide +kernel)⟩
theorem lw_p3 : lw_okq (⟨"UnsaidRound", "holdsWith", "(III)Z"⟩, 7) := ⟨⟨by decide +kernel, by decide +kernel⟩, List.mem_of_getElem? (i := 15) (by decide +kernel), List.mem_of_getElem? (i := 383) (by decide +kernel), List.mem_of_getElem? (i := 384) (by decide +kernel)⟩
theorem lw_p4 : lw_okq (⟨"UnsaidRound", "pushWith", "(I)I"⟩, 7) := ⟨⟨by decide +kernel, by decide +kernel⟩, List.mem_of_getElem? (i := 15) (by decide +kernel), List.mem_of_getElem? (i := 405) (by decide +kernel), List.mem_of_getElem? (i := 406) (by decide +kernel)⟩
theorem lw_p5 : lw_okq (⟨"UnsaidRound$Tape", "advance", "()V"⟩, 6) := ⟨⟨by decide +kernel, by decide +kernel⟩, List.mem_of_getElem? (i := 91) (by decide +kernel), List.mem_of_getElem? (i := 436) (by decide +kernel), List.mem_of_getElem? (i := 437) (by decide +kernel)⟩
theorem lw_p6 : lw_okq (⟨"UnsaidRound$Tape", "byteAt", "(I)I"⟩, 6) := ⟨⟨by decide +kernel, by decide +kernel⟩, List.mem_of_getElem? (i := 91) (by decide +kernel), List.mem_of_getElem? (i := 440) (by decide +kernel), List.mem_of_getElem? (i := 441) (by decide +kernel)⟩
theorem lw_p7 : lw_okq (⟨"UnsaidRound$Tape", "takeItem", "(LUnsaidRound$Green;)Z"⟩, 6) := ⟨⟨by decide +kernel, by decide +kernel⟩, List.mem_of_getElem? (i := 91) (by decide +kernel), List.mem_of_getElem? (i := 448) (by decide +kernel), List.mem_of_getElem? (i := 449) (by decide +kernel)⟩
theorem lw_p8 : lw_okq (⟨"UnsaidRound$Tape", "kindNamed", "()I"⟩, 6) := ⟨⟨by decide +kernel, by decide +kernel⟩, List.mem_of_getElem? (i := 91) (by decide +kernel), List.mem_of_getElem? (i := 452) (by decide +kernel), List.mem_of_getElem? (i := 453) (by decide +kernel)⟩
theorem lw_p9 : lw_okq (⟨"UnsaidRound$Tape", "isWord", "(Ljava/lang/String;)Z"⟩, 6) := ⟨⟨by decide +kernel, by decide +kernel⟩, List.mem_of_getElem? (i := 91) (by decide +kernel), List.mem_of_getElem? (i := 457) (by decide +kernel), List.mem_of_getElem? (i := 458) (by decide +kernel)⟩
theorem lw_p10 : lw_okq (⟨"UnsaidRound$Tape", "takeMother", "(LUnsaidRound$Green;I)Z"⟩, 6) := ⟨⟨by decide +kernel, by decide +kernel⟩, List.mem_of_getElem? (i := 91) (by decide +kernel), List.mem_of_getElem? (i := 514) (by decide +kernel), List.mem_of_getElem? (i := 515) (by decide +kernel)⟩
theorem lw_p11 : lw_okq (⟨"UnsaidRound$Tape", "takeNumber", "(II)Z"⟩, 6) := ⟨⟨by decide +kernel, by decide +kernel⟩, List.mem_of_getElem? (i := 91) (by decide +kernel), List.mem_of_getElem? (i := 519) (by decide +kernel), List.mem_of_getElem? (i := 520) (by decide +kernel)⟩
theorem lw_p12 : lw_okq (⟨"UnsaidRound$Tape", "takeChild", "(LUnsaidRound$Green;)Z"⟩, 6) := ⟨⟨by decide +kernel, by decide +kernel⟩, List.mem_of_getElem? (i := 91) (by decide +kernel), List.mem_of_getElem? (i := 526) (by decide +kernel), List.mem_of_getElem? (i := 527) (by decide +kernel)⟩
theorem lw_p13 : lw_okq (⟨"UnsaidRound$Tape", "takeWet", "(LUnsaidRound$Green;)Z"⟩, 6) := ⟨⟨by decide +kernel, by decide +kernel⟩, List.mem_of_getElem? (i := 91) (by decide +kernel), List.mem_of_getElem? (i := 533) (by decide +kernel), List.mem_of_getElem? (i := 534) (by decide +kernel)⟩
theorem lw_p14 : lw_okq (⟨"UnsaidRound$Tape", "takeDry", "(LUnsaidRound$Green;)Z"⟩, 6) := ⟨⟨by decide +kernel, by decide +kernel⟩, List.mem_of_getElem? (i := 91) (by decide +kernel), List.mem_of_getElem? (i := 538) (by decide +kernel), List.mem_of_getElem? (i := 539) (by decide +kernel)⟩
theorem lw_p15 : lw_okq (⟨"UnsaidRound$Tape", "takeHeavy", "(LUnsaidRound$Green;)Z"⟩, 6) := ⟨⟨by decide +kernel, by decide +kernel⟩, List.mem_of_getElem? (i := 91) (by decide +kernel), List.mem_of_getElem? (i := 543) (by decide +kernel), List.mem_of_getElem? (i := 544) (by decide +kernel)⟩
def lw_privs_1 : List (MethodName × Nat) := [(⟨"UnsaidRound", "tell", "(I)I"⟩, 7), (⟨"UnsaidRound$Green", "tryGrips", "()V"⟩, 14), (⟨"UnsaidRound$Green", "letSpeak", "()V"⟩, 14), (⟨"UnsaidRound", "holdsWith", "(III)Z"⟩, 7), (⟨"UnsaidRound", "pushWith", "(I)I"⟩, 7), (⟨"UnsaidRound$Tape", "advance", "()V"⟩, 6), (⟨"UnsaidRound$Tape", "byteAt", "(I)I"⟩, 6), (⟨"UnsaidRound$Tape", "takeItem", "(LUnsaidRound$Green;)Z"⟩, 6), (⟨"UnsaidRound$Tape", "kindNamed", "()I"⟩, 6), (⟨"UnsaidRound$Tape", "isWord", "(Ljava/lang/String;)Z"⟩, 6), (⟨"UnsaidRound$Tape", "takeMother", "(LUnsaidRound$Green;I)Z"⟩, 6), (⟨"UnsaidRound$Tape", "takeNumber", "(II)Z"⟩, 6), (⟨"UnsaidRound$Tape", "takeChild", "(LUnsaidRound$Green;)Z"⟩, 6), (⟨"UnsaidRound$Tape", "takeWet", "(LUnsaidRound$Green;)Z"⟩, 6), (⟨"UnsaidRound$Tape", "takeDry", "(LUnsaidRound$Green;)Z"⟩, 6), (⟨"UnsaidRound$Tape", "takeHeavy", "(LUnsaidRound$Green;)Z"⟩, 6)]
theorem lw_r1 : ∀ q ∈ lw_privs_1, lw_okq q := List.forall_mem_cons.mpr ⟨lw_p0, List.forall_mem_cons.mpr ⟨lw_p1, List.forall_mem_cons.mpr ⟨lw_p2, List.forall_mem_cons.mpr ⟨lw_p3, List.forall_mem_cons.mpr ⟨lw_p4, List.forall_mem_cons.mpr ⟨lw_p5, List.forall_mem_cons.mpr ⟨lw_p6, List.forall_mem_cons.mpr ⟨lw_p7, List.forall_mem_cons.mpr ⟨lw_p8, List.forall_mem_cons.mpr ⟨lw_p9, List.forall_mem_cons.mpr ⟨lw_p10, List.forall_mem_cons.mpr ⟨lw_p11, List.forall_mem_cons.mpr ⟨lw_p12, List.forall_mem_cons.mpr ⟨lw_p13, List.forall_mem_cons.mpr ⟨lw_p14, List.forall_mem_cons.mpr ⟨lw_p15, fun _ h => absurd h List.not_mem_nil⟩⟩⟩⟩⟩⟩⟩⟩⟩⟩⟩⟩⟩⟩⟩⟩
theorem lw_p16 : lw_okq (⟨"UnsaidRound", "turnsAsTold", "(IIII)Z"⟩, 7) := ⟨⟨by decide +kernel, by decide +kernel⟩, List.mem_of_getElem? (i := 15) (by decide +kernel), List.mem_of_getElem? (i := 604) (by decide +kernel), List.mem_of_getElem? (i := 605) (by decide +kernel)⟩
theorem lw_p17 : lw_okq (⟨"UnsaidRoundModel", "becomes", "(II)I"⟩, 15) := ⟨⟨by decide +kernel, by decide +kernel⟩, List.mem_of_getElem? (i := 628) (by decide +kernel), List.mem_of_getElem? (i := 687) (by decide +kernel), List.mem_of_getElem? (i := 688) (by decide +kernel)⟩
theorem lw_p18 : lw_okq (⟨"UnsaidRoundModel", "finds", "(I)I"⟩, 15) := ⟨⟨by decide +kernel, by decide +kernel⟩, List.mem_of_getElem? (i := 628) (by decide +kernel), List.mem_of_getElem? (i := 692) (by decide +kernel), List.mem_of_getElem? (i := 693) (by decide +kernel)⟩
theorem lw_p19 : lw_okq (⟨"UnsaidRoundModel", "clock", "()I"⟩, 15) := ⟨⟨by decide +kernel, by decide +kernel⟩, List.mem_of_getElem? (i := 628) (by decide +kernel), List.mem_of_getElem? (i := 704) (by decide +kernel), List.mem_of_getElem? (i := 705) (by decide +kernel)⟩
theorem lw_p20 : lw_okq (⟨"UnsaidRoundModel", "isNight", "()Z"⟩, 15) := ⟨⟨by decide +kernel, by decide +kernel⟩, List.mem_of_getElem? (i := 628) (by decide +kernel), List.mem_of_getElem? (i := 708) (by decide +kernel), List.mem_of_getElem? (i := 709) (by decide +kernel)⟩
theorem lw_p21 : lw_okq (⟨"UnsaidRoundModel", "isWet", "()Z"⟩, 15) := ⟨⟨by decide +kernel, by decide +kernel⟩, List.mem_of_getElem? (i := 628) (by decide +kernel), List.mem_of_getElem? (i := 712) (by decide +kernel), List.mem_of_getElem? (i := 713) (by decide +kernel)⟩
theorem lw_p22 : lw_okq (⟨"UnsaidRoundModel", "weight", "()I"⟩, 15) := ⟨⟨by decide +kernel, by decide +kernel⟩, List.mem_of_getElem? (i := 628) (by decide +kernel), List.mem_of_getElem? (i := 716) (by decide +kernel), List.mem_of_getElem? (i := 717) (by decide +kernel)⟩
theorem lw_p23 : lw_okq (⟨"UnsaidRoundModel", "riders", "()I"⟩, 15) := ⟨⟨by decide +kernel, by decide +kernel⟩, List.mem_of_getElem? (i := 628) (by decide +kernel), List.mem_of_getElem? (i := 720) (by decide +kernel), List.mem_of_getElem? (i := 721) (by decide +kernel)⟩
theorem lw_p24 : lw_okq (⟨"UnsaidRoundModel", "about", "(II)I"⟩, 15) := ⟨⟨by decide +kernel, by decide +kernel⟩, List.mem_of_getElem? (i := 628) (by decide +kernel), List.mem_of_getElem? (i := 724) (by decide +kernel), List.mem_of_getElem? (i := 725) (by decide +kernel)⟩
theorem lw_p25 : lw_okq (⟨"UnsaidRoundModel", "push", "()I"⟩, 15) := ⟨⟨by decide +kernel, by decide +kernel⟩, List.mem_of_getElem? (i := 628) (by decide +kernel), List.mem_of_getElem? (i := 731) (by decide +kernel), List.mem_of_getElem? (i := 732) (by decide +kernel)⟩
theorem lw_p26 : lw_okq (⟨"UnsaidRoundModel", "it", "(II)I"⟩, 15) := ⟨⟨by decide +kernel, by decide +kernel⟩, List.mem_of_getElem? (i := 628) (by decide +kernel), List.mem_of_getElem? (i := 735) (by decide +kernel), List.mem_of_getElem? (i := 736) (by decide +kernel)⟩
theorem lw_p27 : lw_okq (⟨"UnsaidRoundModel", "keepsBack", "(I)I"⟩, 15) := ⟨⟨by decide +kernel, by decide +kernel⟩, List.mem_of_getElem? (i := 628) (by decide +kernel), List.mem_of_getElem? (i := 739) (by decide +kernel), List.mem_of_getElem? (i := 740) (by decide +kernel)⟩
theorem lw_p28 : lw_okq (⟨"UnsaidRoundModel", "others", "(I)I"⟩, 15) := ⟨⟨by decide +kernel, by decide +kernel⟩, List.mem_of_getElem? (i := 628) (by decide +kernel), List.mem_of_getElem? (i := 743) (by decide +kernel), List.mem_of_getElem? (i := 744) (by decide +kernel)⟩
theorem lw_p29 : lw_okq (⟨"UnsaidRoundModel", "outOnes", "()I"⟩, 15) := ⟨⟨by decide +kernel, by decide +kernel⟩, List.mem_of_getElem? (i := 628) (by decide +kernel), List.mem_of_getElem? (i := 747) (by decide +kernel), List.mem_of_getElem? (i := 748) (by decide +kernel)⟩
theorem lw_p30 : lw_okq (⟨"UnsaidRoundModel", "comesAs", "(III)I"⟩, 15) := ⟨⟨by decide +kernel, by decide +kernel⟩, List.mem_of_getElem? (i := 628) (by decide +kernel), List.mem_of_getElem? (i := 756) (by decide +kernel), List.mem_of_getElem? (i := 757) (by decide +kernel)⟩
theorem lw_p31 : lw_okq (⟨"UnsaidRoundModel", "put", "(III)V"⟩, 15) := ⟨⟨by decide +kernel, by decide +kernel⟩, List.mem_of_getElem? (i := 628) (by decide +kernel), List.mem_of_getElem? (i := 760) (by decide +kernel), List.mem_of_getElem? (i := 761) (by decide +kernel)⟩
def lw_privs_2 : List (MethodName × Nat) := [(⟨"UnsaidRound", "turnsAsTold", "(IIII)Z"⟩, 7), (⟨"UnsaidRoundModel", "becomes", "(II)I"⟩, 15), (⟨"UnsaidRoundModel", "finds", "(I)I"⟩, 15), (⟨"UnsaidRoundModel", "clock", "()I"⟩, 15), (⟨"UnsaidRoundModel", "isNight", "()Z"⟩, 15), (⟨"UnsaidRoundModel", "isWet", "()Z"⟩, 15), (⟨"UnsaidRoundModel", "weight", "()I"⟩, 15), (⟨"UnsaidRoundModel", "riders", "()I"⟩, 15), (⟨"UnsaidRoundModel", "about", "(II)I"⟩, 15), (⟨"UnsaidRoundModel", "push", "()I"⟩, 15), (⟨"UnsaidRoundModel", "it", "(II)I"⟩, 15), (⟨"UnsaidRoundModel", "keepsBack", "(I)I"⟩, 15), (⟨"UnsaidRoundModel", "others", "(I)I"⟩, 15), (⟨"UnsaidRoundModel", "outOnes", "()I"⟩, 15), (⟨"UnsaidRoundModel", "comesAs", "(III)I"⟩, 15), (⟨"UnsaidRoundModel", "put", "(III)V"⟩, 15)]
theorem lw_r2 : ∀ q ∈ lw_privs_2, lw_okq q := List.forall_mem_cons.mpr ⟨lw_p16, List.forall_mem_cons.mpr ⟨lw_p17, List.forall_mem_cons.mpr ⟨lw_p18, List.forall_mem_cons.mpr ⟨lw_p19, List.forall_mem_cons.mpr ⟨lw_p20, List.forall_mem_cons.mpr ⟨lw_p21, List.forall_mem_cons.mpr ⟨lw_p22, List.forall_mem_cons.mpr ⟨lw_p23, List.forall_mem_cons.mpr ⟨lw_p24, List.forall_mem_cons.mpr ⟨lw_p25, List.forall_mem_cons.mpr ⟨lw_p26, List.forall_mem_cons.mpr ⟨lw_p27, List.forall_mem_cons.mpr ⟨lw_p28, List.forall_mem_cons.mpr ⟨lw_p29, List.forall_mem_cons.mpr ⟨lw_p30, List.forall_mem_cons.mpr ⟨lw_p31, fun _ h => absurd h List.not_mem_nil⟩⟩⟩⟩⟩⟩⟩⟩⟩⟩⟩⟩⟩⟩⟩⟩
theorem lw_p32 : lw_okq (⟨"UnsaidRoundModel", "isMother", "(I)Z"⟩, 15) := ⟨⟨by decide +kernel, by decide +kernel⟩, List.mem_of_getElem? (i := 628) (by decide +kernel), List.mem_of_getElem? (i := 768) (by decide +kernel), List.mem_of_getElem? (i := 769) (by decide +kernel)⟩
theorem lw_p33 : lw_okq (⟨"UnsaidRoundModel", "doesSpeak", "(I)Z"⟩, 15) := ⟨⟨by decide +kernel, by decide +kernel⟩, List.mem_of_getElem? (i := 628) (by decide +kernel), List.mem_of_getElem? (i := 772) (by decide +kernel), List.mem_of_getElem? (i := 773) (by decide +kernel)⟩
theorem lw_p34 : lw_okq (⟨"UnsaidRoundModel", "lessBy", "(I)I"⟩, 15) := ⟨⟨by decide +kernel, by decide +kernel⟩, List.mem_of_getElem? (i := 628) (by decide +kernel), List.mem_of_getElem? (i := 776) (by decide +kernel), List.mem_of_getElem? (i := 777) (by decide +kernel)⟩
theorem lw_p35 : lw_okq (⟨"UnsaidRoundModel", "moves", "(II)I"⟩, 15) := ⟨⟨by decide +kernel, by decide +kernel⟩, List.mem_of_getElem? (i := 628) (by decide +kernel), List.mem_of_getElem? (i := 788) (by decide +kernel), List.mem_of_getElem? (i := 789) (by decide +kernel)⟩
theorem lw_p36 : lw_okq (⟨"UnsaidRoundModel", "getsOn", "(II)I"⟩, 15) := ⟨⟨by decide +kernel, by decide +kernel⟩, List.mem_of_getElem? (i := 628) (by decide +kernel), List.mem_of_getElem? (i := 805) (by decide +kernel), List.mem_of_getElem? (i := 806) (by decide +kernel)⟩
theorem lw_p37 : lw_okq (⟨"UnsaidRoundModel", "lets", "(III)V"⟩, 15) := ⟨⟨by decide +kernel, by decide +kernel⟩, List.mem_of_getElem? (i := 628) (by decide +kernel), List.mem_of_getElem? (i := 809) (by decide +kernel), List.mem_of_getElem? (i := 810) (by decide +kernel)⟩
theorem lw_p38 : lw_okq (⟨"UnsaidRoundModel", "isChild", "(I)Z"⟩, 15) := ⟨⟨by decide +kernel, by decide +kernel⟩, List.mem_of_getElem? (i := 628) (by decide +kernel), List.mem_of_getElem? (i := 817) (by decide +kernel), List.mem_of_getElem? (i := 818) (by decide +kernel)⟩
theorem lw_p39 : lw_okq (⟨"UnsaidRoundModel", "goesFor", "(I)V"⟩, 15) := ⟨⟨by decide +kernel, by decide +kernel⟩, List.mem_of_getElem? (i := 628) (by decide +kernel), List.mem_of_getElem? (i := 835) (by decide +kernel), List.mem_of_getElem? (i := 836) (by decide +kernel)⟩
theorem lw_p40 : lw_okq (⟨"UnsaidRoundModel", "goes", "()V"⟩, 15) := ⟨⟨by decide +kernel, by decide +kernel⟩, List.mem_of_getElem? (i := 628) (by decide +kernel), List.mem_of_getElem? (i := 839) (by decide +kernel), List.mem_of_getElem? (i := 840) (by decide +kernel)⟩
theorem lw_p41 : lw_okq (⟨"UnsaidRoundModel", "holds", "(I)V"⟩, 15) := ⟨⟨by decide +kernel, by decide +kernel⟩, List.mem_of_getElem? (i := 628) (by decide +kernel), List.mem_of_getElem? (i := 847) (by decide +kernel), List.mem_of_getElem? (i := 848) (by decide +kernel)⟩
theorem lw_p42 : lw_okq (⟨"UnsaidRoundModel", "thinks", "()V"⟩, 15) := ⟨⟨by decide +kernel, by decide +kernel⟩, List.mem_of_getElem? (i := 628) (by decide +kernel), List.mem_of_getElem? (i := 855) (by decide +kernel), List.mem_of_getElem? (i := 856) (by decide +kernel)⟩
theorem lw_p43 : lw_okq (⟨"UnsaidRoundModel", "putsBack", "()V"⟩, 15) := ⟨⟨by decide +kernel, by decide +kernel⟩, List.mem_of_getElem? (i := 628) (by decide +kernel), List.mem_of_getElem? (i := 862) (by decide +kernel), List.mem_of_getElem? (i := 863) (by decide +kernel)⟩
theorem lw_p44 : lw_okq (⟨"UnsaidRoundModel", "turnedOn", "(I)I"⟩, 15) := ⟨⟨by decide +kernel, by decide +kernel⟩, List.mem_of_getElem? (i := 628) (by decide +kernel), List.mem_of_getElem? (i := 887) (by decide +kernel), List.mem_of_getElem? (i := 888) (by decide +kernel)⟩
theorem lw_p45 : lw_okq (⟨"UnsaidRoundModel", "orNone", "(I)I"⟩, 15) := ⟨⟨by decide +kernel, by decide +kernel⟩, List.mem_of_getElem? (i := 628) (by decide +kernel), List.mem_of_getElem? (i := 891) (by decide +kernel), List.mem_of_getElem? (i := 892) (by decide +kernel)⟩
theorem lw_p46 : lw_okq (⟨"UnsaidRoundModel", "allFlung", "()I"⟩, 15) := ⟨⟨by decide +kernel, by decide +kernel⟩, List.mem_of_getElem? (i := 628) (by decide +kernel), List.mem_of_getElem? (i := 907) (by decide +kernel), List.mem_of_getElem? (i := 908) (by decide +kernel)⟩
theorem lw_p47 : lw_okq (⟨"UnsaidRoundModel", "pushWith", "(I)I"⟩, 15) := ⟨⟨by decide +kernel, by decide +kernel⟩, List.mem_of_getElem? (i := 628) (by decide +kernel), List.mem_of_getElem? (i := 915) (by decide +kernel), List.mem_of_getElem? (i := 916) (by decide +kernel)⟩
def lw_privs_3 : List (MethodName × Nat) := [(⟨"UnsaidRoundModel", "isMother", "(I)Z"⟩, 15), (⟨"UnsaidRoundModel", "doesSpeak", "(I)Z"⟩, 15), (⟨"UnsaidRoundModel", "lessBy", "(I)I"⟩, 15), (⟨"UnsaidRoundModel", "moves", "(II)I"⟩, 15), (⟨"UnsaidRoundModel", "getsOn", "(II)I"⟩, 15), (⟨"UnsaidRoundModel", "lets", "(III)V"⟩, 15), (⟨"UnsaidRoundModel", "isChild", "(I)Z"⟩, 15), (⟨"UnsaidRoundModel", "goesFor", "(I)V"⟩, 15), (⟨"UnsaidRoundModel", "goes", "()V"⟩, 15), (⟨"UnsaidRoundModel", "holds", "(I)V"⟩, 15), (⟨"UnsaidRoundModel", "thinks", "()V"⟩, 15), (⟨"UnsaidRoundModel", "putsBack", "()V"⟩, 15), (⟨"UnsaidRoundModel", "turnedOn", "(I)I"⟩, 15), (⟨"UnsaidRoundModel", "orNone", "(I)I"⟩, 15), (⟨"UnsaidRoundModel", "allFlung", "()I"⟩, 15), (⟨"UnsaidRoundModel", "pushWith", "(I)I"⟩, 15)]
theorem lw_r3 : ∀ q ∈ lw_privs_3, lw_okq q := List.forall_mem_cons.mpr ⟨lw_p32, List.forall_mem_cons.mpr ⟨lw_p33, List.forall_mem_cons.mpr ⟨lw_p34, List.forall_mem_cons.mpr ⟨lw_p35, List.forall_mem_cons.mpr ⟨lw_p36, List.forall_mem_cons.mpr ⟨lw_p37, List.forall_mem_cons.mpr ⟨lw_p38, List.forall_mem_cons.mpr ⟨lw_p39, List.forall_mem_cons.mpr ⟨lw_p40, List.forall_mem_cons.mpr ⟨lw_p41, List.forall_mem_cons.mpr ⟨lw_p42, List.forall_mem_cons.mpr ⟨lw_p43, List.forall_mem_cons.mpr ⟨lw_p44, List.forall_mem_cons.mpr ⟨lw_p45, List.forall_mem_cons.mpr ⟨lw_p46, List.forall_mem_cons.mpr ⟨lw_p47, fun _ h => absurd h List.not_mem_nil⟩⟩⟩⟩⟩⟩⟩⟩⟩⟩⟩⟩⟩⟩⟩⟩
theorem lw_p48 : lw_okq (⟨"UnsaidRoundModel", "reads", "()V"⟩, 15) := ⟨⟨by decide +kernel, by decide +kernel⟩, List.mem_of_getElem? (i := 628) (by decide +kernel), List.mem_of_getElem? (i := 939) (by decide +kernel), List.mem_of_getElem? (i := 940) (by decide +kernel)⟩
theorem lw_p49 : lw_okq (⟨"UnsaidRoundModel", "isByte", "(III)Z"⟩, 15) := ⟨⟨by decide +kernel, by decide +kernel⟩, List.mem_of_getElem? (i := 628) (by decide +kernel), List.mem_of_getElem? (i := 943) (by decide +kernel), List.mem_of_getElem? (i := 944) (by decide +kernel)⟩
theorem lw_p50 : lw_okq (⟨"UnsaidRoundModel", "wordHere", "()I"⟩, 15) := ⟨⟨by decide +kernel, by decide +kernel⟩, List.mem_of_getElem? (i := 628) (by decide +kernel), List.mem_of_getElem? (i := 947) (by decide +kernel), List.mem_of_getElem? (i := 948) (by decide +kernel)⟩
theorem lw_p51 : lw_okq (⟨"UnsaidRoundModel", "isName", "(II)Z"⟩, 15) := ⟨⟨by decide +kernel, by decide +kernel⟩, List.mem_of_getElem? (i := 628) (by decide +kernel), List.mem_of_getElem? (i := 951) (by decide +kernel), List.mem_of_getElem? (i := 952) (by decide +kernel)⟩
theorem lw_p52 : lw_okq (⟨"UnsaidRoundModel", "item", "()V"⟩, 15) := ⟨⟨by decide +kernel, by decide +kernel⟩, List.mem_of_getElem? (i := 628) (by decide +kernel), List.mem_of_getElem? (i := 957) (by decide +kernel), List.mem_of_getElem? (i := 958) (by decide +kernel)⟩
theorem lw_p53 : lw_okq (⟨"UnsaidRoundModel", "motherItem", "()V"⟩, 15) := ⟨⟨by decide +kernel, by decide +kernel⟩, List.mem_of_getElem? (i := 628) (by decide +kernel), List.mem_of_getElem? (i := 961) (by decide +kernel), List.mem_of_getElem? (i := 962) (by decide +kernel)⟩
theorem lw_p54 : lw_okq (⟨"UnsaidRoundModel", "perhaps", "(IIII)I"⟩, 15) := ⟨⟨by decide +kernel, by decide +kernel⟩, List.mem_of_getElem? (i := 628) (by decide +kernel), List.mem_of_getElem? (i := 965) (by decide +kernel), List.mem_of_getElem? (i := 966) (by decide +kernel)⟩
theorem lw_p55 : lw_okq (⟨"UnsaidRoundModel", "passes", "(I)Z"⟩, 15) := ⟨⟨by decide +kernel, by decide +kernel⟩, List.mem_of_getElem? (i := 628) (by decide +kernel), List.mem_of_getElem? (i := 969) (by decide +kernel), List.mem_of_getElem? (i := 970) (by decide +kernel)⟩
theorem lw_p56 : lw_okq (⟨"UnsaidRoundModel", "number", "(II)I"⟩, 15) := ⟨⟨by decide +kernel, by decide +kernel⟩, List.mem_of_getElem? (i := 628) (by decide +kernel), List.mem_of_getElem? (i := 973) (by decide +kernel), List.mem_of_getElem? (i := 974) (by decide +kernel)⟩
theorem lw_p57 : lw_okq (⟨"UnsaidRoundModel", "childItem", "()V"⟩, 15) := ⟨⟨by decide +kernel, by decide +kernel⟩, List.mem_of_getElem? (i := 628) (by decide +kernel), List.mem_of_getElem? (i := 977) (by decide +kernel), List.mem_of_getElem? (i := 978) (by decide +kernel)⟩
theorem lw_p58 : lw_okq (⟨"UnsaidRoundModel", "rainItem", "()V"⟩, 15) := ⟨⟨by decide +kernel, by decide +kernel⟩, List.mem_of_getElem? (i := 628) (by decide +kernel), List.mem_of_getElem? (i := 981) (by decide +kernel), List.mem_of_getElem? (i := 982) (by decide +kernel)⟩
theorem lw_p59 : lw_okq (⟨"UnsaidRoundModel", "notThere", "(I)I"⟩, 15) := ⟨⟨by decide +kernel, by decide +kernel⟩, List.mem_of_getElem? (i := 628) (by decide +kernel), List.mem_of_getElem? (i := 997) (by decide +kernel), List.mem_of_getElem? (i := 998) (by decide +kernel)⟩
theorem lw_p60 : lw_okq (⟨"UnsaidRoundModel", "notCopied", "(IIIII)I"⟩, 15) := ⟨⟨by decide +kernel, by decide +kernel⟩, List.mem_of_getElem? (i := 628) (by decide +kernel), List.mem_of_getElem? (i := 1009) (by decide +kernel), List.mem_of_getElem? (i := 1010) (by decide +kernel)⟩
theorem lw_p61 : lw_okq (⟨"UnsaidRoundModel", "isBook", "(I)Z"⟩, 15) := ⟨⟨by decide +kernel, by decide +kernel⟩, List.mem_of_getElem? (i := 628) (by decide +kernel), List.mem_of_getElem? (i := 1025) (by decide +kernel), List.mem_of_getElem? (i := 1026) (by decide +kernel)⟩
def lw_privs_4 : List (MethodName × Nat) := [(⟨"UnsaidRoundModel", "reads", "()V"⟩, 15), (⟨"UnsaidRoundModel", "isByte", "(III)Z"⟩, 15), (⟨"UnsaidRoundModel", "wordHere", "()I"⟩, 15), (⟨"UnsaidRoundModel", "isName", "(II)Z"⟩, 15), (⟨"UnsaidRoundModel", "item", "()V"⟩, 15), (⟨"UnsaidRoundModel", "motherItem", "()V"⟩, 15), (⟨"UnsaidRoundModel", "perhaps", "(IIII)I"⟩, 15), (⟨"UnsaidRoundModel", "passes", "(I)Z"⟩, 15), (⟨"UnsaidRoundModel", "number", "(II)I"⟩, 15), (⟨"UnsaidRoundModel", "childItem", "()V"⟩, 15), (⟨"UnsaidRoundModel", "rainItem", "()V"⟩, 15), (⟨"UnsaidRoundModel", "notThere", "(I)I"⟩, 15), (⟨"UnsaidRoundModel", "notCopied", "(IIIII)I"⟩, 15), (⟨"UnsaidRoundModel", "isBook", "(I)Z"⟩, 15)]
theorem lw_r4 : ∀ q ∈ lw_privs_4, lw_okq q := List.forall_mem_cons.mpr ⟨lw_p48, List.forall_mem_cons.mpr ⟨lw_p49, List.forall_mem_cons.mpr ⟨lw_p50, List.forall_mem_cons.mpr ⟨lw_p51, List.forall_mem_cons.mpr ⟨lw_p52, List.forall_mem_cons.mpr ⟨lw_p53, List.forall_mem_cons.mpr ⟨lw_p54, List.forall_mem_cons.mpr ⟨lw_p55, List.forall_mem_cons.mpr ⟨lw_p56, List.forall_mem_cons.mpr ⟨lw_p57, List.forall_mem_cons.mpr ⟨lw_p58, List.forall_mem_cons.mpr ⟨lw_p59, List.forall_mem_cons.mpr ⟨lw_p60, List.forall_mem_cons.mpr ⟨lw_p61, fun _ h => absurd h List.not_mem_nil⟩⟩⟩⟩⟩⟩⟩⟩⟩⟩⟩⟩⟩⟩
def lw_privs : List (MethodName × Nat) := lw_privs_1 ++ (lw_privs_2 ++ (lw_privs_3 ++ (lw_privs_4)))
def lw_tbl : List Cond := k2_sels lw_privs ++ tables_1
theorem lw_privs_ok : ∀ q ∈ lw_privs, lw_okq q := by
  show ∀ q ∈ lw_privs_1 ++ (lw_privs_2 ++ (lw_privs_3 ++ (lw_privs_4))), lw_okq q
  exact List.forall_mem_append.mpr ⟨lw_r1, List.forall_mem_append.mpr ⟨lw_r2, List.forall_mem_append.mpr ⟨lw_r3, lw_r4⟩⟩⟩
-- ===== end of PART A; then your names; then what follows =====
end
section
/-! ===== BEGIN words of one list among another's, by their places ===== -/
theorem goodIn_r {big : List Cond} (ws : List Cond) (ps : List Nat) (hp : ws = ps.filterMap (fun i => big[i]?)) (h : ws.all goodWord = true) : GoodIn big ws := by
  intro w hw
  have h1 := List.all_eq_true.mp h w hw
  rw [hp] at hw
  obtain ⟨i, -, hi⟩ := List.mem_filterMap.mp hw
  have hm : w ∈ big := by first | exact List.mem_of_getElem? hi | exact List.getElem?_mem hi
  exact ⟨hm, good_of_word h1⟩
theorem goodIn_app {big a b : List Cond} (ha : GoodIn big a) (hb : GoodIn big b) : GoodIn big (a ++ b) := fun w h => (List.mem_append.mp h).elim (ha w) (hb w)
theorem goodIn_ca {big a b : List Cond} {c : Cond} (ha : GoodIn big (c :: a)) (hb : GoodIn big b) : GoodIn big (c :: (a ++ b)) := fun w h => (List.mem_cons.mp h).elim (fun e => ha w (List.mem_cons.mpr (Or.inl e))) (fun h => (List.mem_append.mp h).elim (fun h => ha w (List.mem_cons.mpr (Or.inr h))) (hb w))
theorem goodIn_sub {big ws : List Cond} (hm : ∀ w ∈ ws, w ∈ big) (h : ws.all goodWord = true) : GoodIn big ws := fun w hw => ⟨hm w hw, good_of_word (List.all_eq_true.mp h w hw)⟩
/-! ===== END ===== -/

/-! ===== BEGIN printed: names, fields, word lists, decode rows ===== -/
def RX0 : String := "UnsaidRound$Green"
def TX0 : u_T := fun k => match k with
  | 0 => ("UnsaidRound$Green", "minute", "I", false)
  | 1 => ("UnsaidRound$Green", "wetParts", "I", false)
  | 2 => ("UnsaidRound$Green", "heaviness", "I", false)
  | 3 => ("UnsaidRound$Green", "speed", "I", false)
  | 4 => ("UnsaidRound$Green", "turned", "I", false)
  | 5 => ("UnsaidRound$Green", "motherCount", "I", false)
  | 6 => ("UnsaidRound$Green", "kinds", "[I", true)
  | 7 => ("UnsaidRound$Green", "outs", "[I", true)
  | 8 => ("UnsaidRound$Green", "secrets", "[I", true)
  | 9 => ("UnsaidRound$Green", "silents", "[I", true)
  | 10 => ("UnsaidRound$Green", "childCount", "I", false)
  | 11 => ("UnsaidRound$Green", "grips", "[I", true)
  | 12 => ("UnsaidRound$Green", "rides", "[I", true)
  | _ => ("UnsaidRound$Green", "flings", "[I", true)
def tyX0 : Nat → FieldType := fun k => match k with
  | 0 => .int
  | 1 => .int
  | 2 => .int
  | 3 => .int
  | 4 => .int
  | 5 => .int
  | 6 => .array .int
  | 7 => .array .int
  | 8 => .array .int
  | 9 => .array .int
  | 10 => .int
  | 11 => .array .int
  | 12 => .array .int
  | _ => .array .int
abbrev wsX00 : List Cond := u_ws RX0 TX0 14
theorem nmX0 : ∀ a, a < 14 → ∀ b, b < 14 → a ≠ b → (TX0 a).2.1 ≠ (TX0 b).2.1 := by decide +kernel
theorem tyX0_ok : ∀ k, k < 14 → parseFieldDescriptor (TX0 k).2.2.1 = some (tyX0 k) := by decide +kernel
abbrev cX0_init : ByteArray := prog_2_method_1_code
def yX0_init : MethodName := ⟨RX0, "<init>", "()V"⟩
abbrev cX0_become : ByteArray := prog_2_method_2_code
def yX0_become : MethodName := ⟨RX0, "become", "(LUnsaidRound$Green;)V"⟩
abbrev cX0_hasMother : ByteArray := prog_2_method_3_code
def yX0_hasMother : MethodName := ⟨RX0, "hasMother", "(I)Z"⟩
abbrev cX0_hasChild : ByteArray := prog_2_method_4_code
def yX0_hasChild : MethodName := ⟨RX0, "hasChild", "(I)Z"⟩
abbrev cX0_addMother : ByteArray := prog_2_method_5_code
def yX0_addMother : MethodName := ⟨RX0, "addMother", "(III)I"⟩
abbrev cX0_addChild : ByteArray := prog_2_method_6_code
def yX0_addChild : MethodName := ⟨RX0, "addChild", "(II)I"⟩
abbrev cX0_moveMother : ByteArray := prog_2_method_7_code
def yX0_moveMother : MethodName := ⟨RX0, "moveMother", "(II)V"⟩
abbrev cX0_minuteOfDay : ByteArray := prog_2_method_8_code
def yX0_minuteOfDay : MethodName := ⟨RX0, "minuteOfDay", "()I"⟩
abbrev cX0_isNight : ByteArray := prog_2_method_9_code
def yX0_isNight : MethodName := ⟨RX0, "isNight", "()Z"⟩
abbrev cX0_isWet : ByteArray := prog_2_method_10_code
def yX0_isWet : MethodName := ⟨RX0, "isWet", "()Z"⟩
abbrev cX0_outCount : ByteArray := prog_2_method_11_code
def yX0_outCount : MethodName := ⟨RX0, "outCount", "()I"⟩
abbrev cX0_outSet : ByteArray := prog_2_method_12_code
def yX0_outSet : MethodName := ⟨RX0, "outSet", "()I"⟩
abbrev cX0_onCount : ByteArray := prog_2_method_13_code
def yX0_onCount : MethodName := ⟨RX0, "onCount", "()I"⟩
abbrev cX0_onSet : ByteArray := prog_2_method_14_code
def yX0_onSet : MethodName := ⟨RX0, "onSet", "()I"⟩
abbrev cX0_flingsOfAll : ByteArray := prog_2_method_15_code
def yX0_flingsOfAll : MethodName := ⟨RX0, "flingsOfAll", "()I"⟩
abbrev cX0_weightNow : ByteArray := prog_2_method_16_code
def yX0_weightNow : MethodName := ⟨RX0, "weightNow", "()I"⟩
abbrev cX0_keepsNow : ByteArray := prog_2_method_17_code
def yX0_keepsNow : MethodName := ⟨RX0, "keepsNow", "(IIZ)I"⟩
abbrev cX0_speaksNow : ByteArray := prog_2_method_18_code
def yX0_speaksNow : MethodName := ⟨RX0, "speaksNow", "(IIZ)Z"⟩
abbrev cX0_pushNow : ByteArray := prog_2_method_19_code
def yX0_pushNow : MethodName := ⟨RX0, "pushNow", "()I"⟩
abbrev cX0_passMinutes : ByteArray := prog_2_method_20_code
def yX0_passMinutes : MethodName := ⟨RX0, "passMinutes", "(I)V"⟩
abbrev cX0_passMinute : ByteArray := prog_2_method_21_code
def yX0_passMinute : MethodName := ⟨RX0, "passMinute", "()V"⟩
abbrev cX0_tryGrips : ByteArray := prog_2_method_22_code
def yX0_tryGrips : MethodName := ⟨RX0, "tryGrips", "()V"⟩
abbrev cX0_letSpeak : ByteArray := prog_2_method_23_code
def yX0_letSpeak : MethodName := ⟨RX0, "letSpeak", "()V"⟩
def RX1 : String := "UnsaidRound$Kinds"
def TX1 : u_T := fun k => match k with
  | _ => ("", "", "", false)
def tyX1 : Nat → FieldType := fun k => match k with
  | _ => .int
abbrev wsX10 : List Cond := u_ws RX1 TX1 0
theorem nmX1 : ∀ a, a < 0 → ∀ b, b < 0 → a ≠ b → (TX1 a).2.1 ≠ (TX1 b).2.1 := by decide +kernel
theorem tyX1_ok : ∀ k, k < 0 → parseFieldDescriptor (TX1 k).2.2.1 = some (tyX1 k) := by decide +kernel
abbrev cX1_isKind : ByteArray := prog_3_method_2_code
def yX1_isKind : MethodName := ⟨RX1, "isKind", "(I)Z"⟩
abbrev cX1_isUnder : ByteArray := prog_3_method_3_code
def yX1_isUnder : MethodName := ⟨RX1, "isUnder", "(II)Z"⟩
abbrev cX1_kindAbove : ByteArray := prog_3_method_4_code
def yX1_kindAbove : MethodName := ⟨RX1, "kindAbove", "(I)I"⟩
abbrev cX1_keeps : ByteArray := prog_3_method_5_code
def yX1_keeps : MethodName := ⟨RX1, "keeps", "(IIIIZ)I"⟩
abbrev cX1_speaks : ByteArray := prog_3_method_6_code
def yX1_speaks : MethodName := ⟨RX1, "speaks", "(IIIZI)Z"⟩
abbrev cX1_tells : ByteArray := prog_3_method_7_code
def yX1_tells : MethodName := ⟨RX1, "tells", "(I)I"⟩
def RX2 : String := "UnsaidRound$Sheets"
def TX2 : u_T := fun k => match k with
  | 0 => ("UnsaidRound$Sheets", "widths", "[I", true)
  | 1 => ("UnsaidRound$Sheets", "lengths", "[I", true)
  | _ => ("UnsaidRound$Sheets", "numbers", "[J", true)
def tyX2 : Nat → FieldType := fun k => match k with
  | 0 => .array .int
  | 1 => .array .int
  | _ => .array .long
abbrev wsX20 : List Cond := u_ws RX2 TX2 3
theorem nmX2 : ∀ a, a < 3 → ∀ b, b < 3 → a ≠ b → (TX2 a).2.1 ≠ (TX2 b).2.1 := by decide +kernel
theorem tyX2_ok : ∀ k, k < 3 → parseFieldDescriptor (TX2 k).2.2.1 = some (tyX2 k) := by decide +kernel
abbrev cX2_init : ByteArray := prog_4_method_1_code
def yX2_init : MethodName := ⟨RX2, "<init>", "()V"⟩
abbrev cX2_isSheet : ByteArray := prog_4_method_2_code
def yX2_isSheet : MethodName := ⟨RX2, "isSheet", "(I)Z"⟩
abbrev cX2_isMissing : ByteArray := prog_4_method_3_code
def yX2_isMissing : MethodName := ⟨RX2, "isMissing", "(I)Z"⟩
abbrev cX2_hasRange : ByteArray := prog_4_method_4_code
def yX2_hasRange : MethodName := ⟨RX2, "hasRange", "(III)Z"⟩
abbrev cX2_lay : ByteArray := prog_4_method_5_code
def yX2_lay : MethodName := ⟨RX2, "lay", "(III)I"⟩
abbrev cX2_numberAt : ByteArray := prog_4_method_6_code
def yX2_numberAt : MethodName := ⟨RX2, "numberAt", "(II)J"⟩
abbrev cX2_put : ByteArray := prog_4_method_7_code
def yX2_put : MethodName := ⟨RX2, "put", "(IIJ)V"⟩
abbrev cX2_move : ByteArray := prog_4_method_8_code
def yX2_move : MethodName := ⟨RX2, "move", "(IIIII)V"⟩
def RX3 : String := "UnsaidRound$Tape"
def TX3 : u_T := fun k => match k with
  | 0 => ("UnsaidRound$Tape", "bytes", "[I", true)
  | 1 => ("UnsaidRound$Tape", "length", "I", false)
  | 2 => ("UnsaidRound$Tape", "sort", "I", false)
  | 3 => ("UnsaidRound$Tape", "start", "I", false)
  | 4 => ("UnsaidRound$Tape", "behind", "I", false)
  | _ => ("UnsaidRound$Tape", "number", "I", false)
def tyX3 : Nat → FieldType := fun k => match k with
  | 0 => .array .int
  | 1 => .int
  | 2 => .int
  | 3 => .int
  | 4 => .int
  | _ => .int
abbrev wsX30 : List Cond := u_ws RX3 TX3 6
theorem nmX3 : ∀ a, a < 6 → ∀ b, b < 6 → a ≠ b → (TX3 a).2.1 ≠ (TX3 b).2.1 := by decide +kernel
theorem tyX3_ok : ∀ k, k < 6 → parseFieldDescriptor (TX3 k).2.2.1 = some (tyX3 k) := by decide +kernel
abbrev cX3_init : ByteArray := prog_5_method_1_code
def yX3_init : MethodName := ⟨RX3, "<init>", "()V"⟩
abbrev cX3_addItems : ByteArray := prog_5_method_2_code
def yX3_addItems : MethodName := ⟨RX3, "addItems", "(LUnsaidRound$Green;)I"⟩
abbrev cX3_takeItem : ByteArray := prog_5_method_3_code
def yX3_takeItem : MethodName := ⟨RX3, "takeItem", "(LUnsaidRound$Green;)Z"⟩
abbrev cX3_kindNamed : ByteArray := prog_5_method_4_code
def yX3_kindNamed : MethodName := ⟨RX3, "kindNamed", "()I"⟩
abbrev cX3_takeMother : ByteArray := prog_5_method_5_code
def yX3_takeMother : MethodName := ⟨RX3, "takeMother", "(LUnsaidRound$Green;I)Z"⟩
abbrev cX3_takeChild : ByteArray := prog_5_method_6_code
def yX3_takeChild : MethodName := ⟨RX3, "takeChild", "(LUnsaidRound$Green;)Z"⟩
abbrev cX3_takeWet : ByteArray := prog_5_method_7_code
def yX3_takeWet : MethodName := ⟨RX3, "takeWet", "(LUnsaidRound$Green;)Z"⟩
abbrev cX3_takeDry : ByteArray := prog_5_method_8_code
def yX3_takeDry : MethodName := ⟨RX3, "takeDry", "(LUnsaidRound$Green;)Z"⟩
abbrev cX3_takeHeavy : ByteArray := prog_5_method_9_code
def yX3_takeHeavy : MethodName := ⟨RX3, "takeHeavy", "(LUnsaidRound$Green;)Z"⟩
abbrev cX3_takeNumber : ByteArray := prog_5_method_10_code
def yX3_takeNumber : MethodName := ⟨RX3, "takeNumber", "(II)Z"⟩
abbrev cX3_isWord : ByteArray := prog_5_method_11_code
def yX3_isWord : MethodName := ⟨RX3, "isWord", "(Ljava/lang/String;)Z"⟩
abbrev cX3_advance : ByteArray := prog_5_method_12_code
def yX3_advance : MethodName := ⟨RX3, "advance", "()V"⟩
abbrev cX3_sortOf : ByteArray := prog_5_method_13_code
def yX3_sortOf : MethodName := ⟨RX3, "sortOf", "(I)I"⟩
abbrev cX3_byteAt : ByteArray := prog_5_method_14_code
def yX3_byteAt : MethodName := ⟨RX3, "byteAt", "(I)I"⟩
def RX4 : String := "UnsaidRound"
def TX4 : u_T := fun k => match k with
  | 0 => ("UnsaidRound", "live", "LUnsaidRound$Green;", true)
  | 1 => ("UnsaidRound", "trial", "LUnsaidRound$Green;", true)
  | 2 => ("UnsaidRound", "kept", "LUnsaidRound$Green;", true)
  | 3 => ("UnsaidRound", "isKept", "Z", false)
  | 4 => ("UnsaidRound", "tape", "LUnsaidRound$Tape;", true)
  | 5 => ("UnsaidRound", "sheets", "LUnsaidRound$Sheets;", true)
  | _ => ("UnsaidRound", "findings", "[I", true)
def tyX4 : Nat → FieldType := fun k => match k with
  | 0 => .object "UnsaidRound$Green"
  | 1 => .object "UnsaidRound$Green"
  | 2 => .object "UnsaidRound$Green"
  | 3 => .boolean
  | 4 => .object "UnsaidRound$Tape"
  | 5 => .object "UnsaidRound$Sheets"
  | _ => .array .int
abbrev wsX40 : List Cond := u_ws RX4 TX4 7
theorem nmX4 : ∀ a, a < 7 → ∀ b, b < 7 → a ≠ b → (TX4 a).2.1 ≠ (TX4 b).2.1 := by decide +kernel
theorem tyX4_ok : ∀ k, k < 7 → parseFieldDescriptor (TX4 k).2.2.1 = some (tyX4 k) := by decide +kernel
abbrev cX4_init : ByteArray := prog_1_method_1_code
def yX4_init : MethodName := ⟨RX4, "<init>", "()V"⟩
abbrev cX4_iron : ByteArray := prog_1_method_2_code
def yX4_iron : MethodName := ⟨RX4, "iron", "(II)I"⟩
abbrev cX4_rain : ByteArray := prog_1_method_3_code
def yX4_rain : MethodName := ⟨RX4, "rain", "(I)I"⟩
abbrev cX4_now : ByteArray := prog_1_method_4_code
def yX4_now : MethodName := ⟨RX4, "now", "(I)I"⟩
abbrev cX4_mother : ByteArray := prog_1_method_5_code
def yX4_mother : MethodName := ⟨RX4, "mother", "(I)I"⟩
abbrev cX4_of : ByteArray := prog_1_method_6_code
def yX4_of : MethodName := ⟨RX4, "of", "(II)I"⟩
abbrev cX4_set : ByteArray := prog_1_method_7_code
def yX4_set : MethodName := ⟨RX4, "set", "(III)I"⟩
abbrev cX4_out : ByteArray := prog_1_method_8_code
def yX4_out : MethodName := ⟨RX4, "out", "(II)I"⟩
abbrev cX4_turn : ByteArray := prog_1_method_9_code
def yX4_turn : MethodName := ⟨RX4, "turn", "(II)I"⟩
abbrev cX4_as : ByteArray := prog_1_method_10_code
def yX4_as : MethodName := ⟨RX4, "as", "(II)I"⟩
abbrev cX4_child : ByteArray := prog_1_method_11_code
def yX4_child : MethodName := ⟨RX4, "child", "(I)I"⟩
abbrev cX4_childOf : ByteArray := prog_1_method_12_code
def yX4_childOf : MethodName := ⟨RX4, "childOf", "(II)I"⟩
abbrev cX4_grip : ByteArray := prog_1_method_13_code
def yX4_grip : MethodName := ⟨RX4, "grip", "(II)I"⟩
abbrev cX4_ride : ByteArray := prog_1_method_14_code
def yX4_ride : MethodName := ⟨RX4, "ride", "(II)I"⟩
abbrev cX4_minutes : ByteArray := prog_1_method_15_code
def yX4_minutes : MethodName := ⟨RX4, "minutes", "(I)I"⟩
abbrev cX4_on : ByteArray := prog_1_method_16_code
def yX4_on : MethodName := ⟨RX4, "on", "(II)I"⟩
abbrev cX4_then : ByteArray := prog_1_method_17_code
def yX4_then : MethodName := ⟨RX4, "then", "(III)I"⟩
abbrev cX4_quick : ByteArray := prog_1_method_18_code
def yX4_quick : MethodName := ⟨RX4, "quick", "(I)I"⟩
abbrev cX4_stands : ByteArray := prog_1_method_19_code
def yX4_stands : MethodName := ⟨RX4, "stands", "()I"⟩
abbrev cX4_flung : ByteArray := prog_1_method_20_code
def yX4_flung : MethodName := ⟨RX4, "flung", "(I)I"⟩
abbrev cX4_send : ByteArray := prog_1_method_21_code
def yX4_send : MethodName := ⟨RX4, "send", "(I)I"⟩
abbrev cX4_kind : ByteArray := prog_1_method_22_code
def yX4_kind : MethodName := ⟨RX4, "kind", "(II)I"⟩
abbrev cX4_firm : ByteArray := prog_1_method_23_code
def yX4_firm : MethodName := ⟨RX4, "firm", "(II)I"⟩
abbrev cX4_heavy : ByteArray := prog_1_method_24_code
def yX4_heavy : MethodName := ⟨RX4, "heavy", "(I)I"⟩
abbrev cX4_fewest : ByteArray := prog_1_method_25_code
def yX4_fewest : MethodName := ⟨RX4, "fewest", "(I)I"⟩
abbrev cX4_weather : ByteArray := prog_1_method_26_code
def yX4_weather : MethodName := ⟨RX4, "weather", "(I)I"⟩
abbrev cX4_deepest : ByteArray := prog_1_method_27_code
def yX4_deepest : MethodName := ⟨RX4, "deepest", "(I)I"⟩
abbrev cX4_feed : ByteArray := prog_1_method_28_code
def yX4_feed : MethodName := ⟨RX4, "feed", "(II)I"⟩
abbrev cX4_wipe : ByteArray := prog_1_method_29_code
def yX4_wipe : MethodName := ⟨RX4, "wipe", "()I"⟩
abbrev cX4_green : ByteArray := prog_1_method_30_code
def yX4_green : MethodName := ⟨RX4, "green", "()I"⟩
abbrev cX4_sheet : ByteArray := prog_1_method_31_code
def yX4_sheet : MethodName := ⟨RX4, "sheet", "(III)I"⟩
abbrev cX4_write : ByteArray := prog_1_method_32_code
def yX4_write : MethodName := ⟨RX4, "write", "(IIJ)J"⟩
abbrev cX4_copy : ByteArray := prog_1_method_33_code
def yX4_copy : MethodName := ⟨RX4, "copy", "(IIIII)I"⟩
abbrev cX4_lays : ByteArray := prog_1_method_34_code
def yX4_lays : MethodName := ⟨RX4, "lays", "(I)I"⟩
abbrev cX4_book : ByteArray := prog_1_method_35_code
def yX4_book : MethodName := ⟨RX4, "book", "(I)I"⟩
abbrev cX4_read : ByteArray := prog_1_method_36_code
def yX4_read : MethodName := ⟨RX4, "read", "(II)I"⟩
abbrev cX4_image : ByteArray := prog_1_method_37_code
def yX4_image : MethodName := ⟨RX4, "image", "()I"⟩
abbrev cX4_undo : ByteArray := prog_1_method_38_code
def yX4_undo : MethodName := ⟨RX4, "undo", "()I"⟩
abbrev cX4_tear : ByteArray := prog_1_method_39_code
def yX4_tear : MethodName := ⟨RX4, "tear", "()I"⟩
abbrev cX4_count : ByteArray := prog_1_method_40_code
def yX4_count : MethodName := ⟨RX4, "count", "(I)I"⟩
abbrev cX4_status : ByteArray := prog_1_method_41_code
def yX4_status : MethodName := ⟨RX4, "status", "(I)I"⟩
abbrev cX4_tell : ByteArray := prog_1_method_42_code
def yX4_tell : MethodName := ⟨RX4, "tell", "(I)I"⟩
abbrev cX4_isNear : ByteArray := prog_1_method_43_code
def yX4_isNear : MethodName := ⟨RX4, "isNear", "(I)Z"⟩
abbrev cX4_holdsWith : ByteArray := prog_1_method_44_code
def yX4_holdsWith : MethodName := ⟨RX4, "holdsWith", "(III)Z"⟩
abbrev cX4_pushWith : ByteArray := prog_1_method_45_code
def yX4_pushWith : MethodName := ⟨RX4, "pushWith", "(I)I"⟩
abbrev cX4_turnsAsTold : ByteArray := prog_1_method_46_code
def yX4_turnsAsTold : MethodName := ⟨RX4, "turnsAsTold", "(IIII)Z"⟩
def RX5 : String := "UnsaidRoundModel"
def TX5 : u_T := fun k => match k with
  | 0 => ("UnsaidRoundModel", "m", "[I", true)
  | 1 => ("UnsaidRoundModel", "kept", "[I", true)
  | 2 => ("UnsaidRoundModel", "was", "[I", true)
  | 3 => ("UnsaidRoundModel", "isKept", "Z", false)
  | 4 => ("UnsaidRoundModel", "found", "[I", true)
  | 5 => ("UnsaidRoundModel", "tape", "[I", true)
  | 6 => ("UnsaidRoundModel", "taped", "I", false)
  | 7 => ("UnsaidRoundModel", "token", "I", false)
  | 8 => ("UnsaidRoundModel", "begin", "I", false)
  | 9 => ("UnsaidRoundModel", "at", "I", false)
  | 10 => ("UnsaidRoundModel", "value", "I", false)
  | 11 => ("UnsaidRoundModel", "bad", "Z", false)
  | 12 => ("UnsaidRoundModel", "bitsOf", "[I", true)
  | 13 => ("UnsaidRoundModel", "sizeOf", "[I", true)
  | _ => ("UnsaidRoundModel", "cells", "[J", true)
def tyX5 : Nat → FieldType := fun k => match k with
  | 0 => .array .int
  | 1 => .array .int
  | 2 => .array .int
  | 3 => .boolean
  | 4 => .array .int
  | 5 => .array .int
  | 6 => .int
  | 7 => .int
  | 8 => .int
  | 9 => .int
  | 10 => .int
  | 11 => .boolean
  | 12 => .array .int
  | 13 => .array .int
  | _ => .array .long
abbrev wsX50 : List Cond := u_ws RX5 TX5 15
theorem nmX5 : ∀ a, a < 15 → ∀ b, b < 15 → a ≠ b → (TX5 a).2.1 ≠ (TX5 b).2.1 := by decide +kernel
theorem tyX5_ok : ∀ k, k < 15 → parseFieldDescriptor (TX5 k).2.2.1 = some (tyX5 k) := by decide +kernel
abbrev cX5_init : ByteArray := prog_7_method_1_code
def yX5_init : MethodName := ⟨RX5, "<init>", "()V"⟩
abbrev cX5_finds : ByteArray := prog_7_method_2_code
def yX5_finds : MethodName := ⟨RX5, "finds", "(I)I"⟩
abbrev cX5_orNone : ByteArray := prog_7_method_3_code
def yX5_orNone : MethodName := ⟨RX5, "orNone", "(I)I"⟩
abbrev cX5_in : ByteArray := prog_7_method_4_code
def yX5_in : MethodName := ⟨RX5, "in", "(JII)Z"⟩
abbrev cX5_held : ByteArray := prog_7_method_5_code
def yX5_held : MethodName := ⟨RX5, "held", "(III)I"⟩
abbrev cX5_copyAll : ByteArray := prog_7_method_6_code
def yX5_copyAll : MethodName := ⟨RX5, "copyAll", "([I[I)V"⟩
abbrev cX5_bits : ByteArray := prog_7_method_7_code
def yX5_bits : MethodName := ⟨RX5, "bits", "(I)I"⟩
abbrev cX5_becomes : ByteArray := prog_7_method_8_code
def yX5_becomes : MethodName := ⟨RX5, "becomes", "(II)I"⟩
abbrev cX5_isMother : ByteArray := prog_7_method_9_code
def yX5_isMother : MethodName := ⟨RX5, "isMother", "(I)Z"⟩
abbrev cX5_isChild : ByteArray := prog_7_method_10_code
def yX5_isChild : MethodName := ⟨RX5, "isChild", "(I)Z"⟩
abbrev cX5_it : ByteArray := prog_7_method_11_code
def yX5_it : MethodName := ⟨RX5, "it", "(II)I"⟩
abbrev cX5_put : ByteArray := prog_7_method_12_code
def yX5_put : MethodName := ⟨RX5, "put", "(III)V"⟩
abbrev cX5_about : ByteArray := prog_7_method_13_code
def yX5_about : MethodName := ⟨RX5, "about", "(II)I"⟩
abbrev cX5_lets : ByteArray := prog_7_method_14_code
def yX5_lets : MethodName := ⟨RX5, "lets", "(III)V"⟩
abbrev cX5_clock : ByteArray := prog_7_method_15_code
def yX5_clock : MethodName := ⟨RX5, "clock", "()I"⟩
abbrev cX5_isNight : ByteArray := prog_7_method_16_code
def yX5_isNight : MethodName := ⟨RX5, "isNight", "()Z"⟩
abbrev cX5_isWet : ByteArray := prog_7_method_17_code
def yX5_isWet : MethodName := ⟨RX5, "isWet", "()Z"⟩
abbrev cX5_outOnes : ByteArray := prog_7_method_18_code
def yX5_outOnes : MethodName := ⟨RX5, "outOnes", "()I"⟩
abbrev cX5_others : ByteArray := prog_7_method_19_code
def yX5_others : MethodName := ⟨RX5, "others", "(I)I"⟩
abbrev cX5_keepsBack : ByteArray := prog_7_method_20_code
def yX5_keepsBack : MethodName := ⟨RX5, "keepsBack", "(I)I"⟩
abbrev cX5_doesSpeak : ByteArray := prog_7_method_21_code
def yX5_doesSpeak : MethodName := ⟨RX5, "doesSpeak", "(I)Z"⟩
abbrev cX5_lessBy : ByteArray := prog_7_method_22_code
def yX5_lessBy : MethodName := ⟨RX5, "lessBy", "(I)I"⟩
abbrev cX5_iron : ByteArray := prog_7_method_23_code
def yX5_iron : MethodName := ⟨RX5, "iron", "(II)I"⟩
abbrev cX5_rain : ByteArray := prog_7_method_24_code
def yX5_rain : MethodName := ⟨RX5, "rain", "(I)I"⟩
abbrev cX5_riders : ByteArray := prog_7_method_25_code
def yX5_riders : MethodName := ⟨RX5, "riders", "()I"⟩
abbrev cX5_weight : ByteArray := prog_7_method_26_code
def yX5_weight : MethodName := ⟨RX5, "weight", "()I"⟩
abbrev cX5_push : ByteArray := prog_7_method_27_code
def yX5_push : MethodName := ⟨RX5, "push", "()I"⟩
abbrev cX5_now : ByteArray := prog_7_method_28_code
def yX5_now : MethodName := ⟨RX5, "now", "(I)I"⟩
abbrev cX5_comesAs : ByteArray := prog_7_method_29_code
def yX5_comesAs : MethodName := ⟨RX5, "comesAs", "(III)I"⟩
abbrev cX5_mother : ByteArray := prog_7_method_30_code
def yX5_mother : MethodName := ⟨RX5, "mother", "(I)I"⟩
abbrev cX5_of : ByteArray := prog_7_method_31_code
def yX5_of : MethodName := ⟨RX5, "of", "(II)I"⟩
abbrev cX5_set : ByteArray := prog_7_method_32_code
def yX5_set : MethodName := ⟨RX5, "set", "(III)I"⟩
abbrev cX5_moves : ByteArray := prog_7_method_33_code
def yX5_moves : MethodName := ⟨RX5, "moves", "(II)I"⟩
abbrev cX5_out : ByteArray := prog_7_method_34_code
def yX5_out : MethodName := ⟨RX5, "out", "(II)I"⟩
abbrev cX5_turn : ByteArray := prog_7_method_35_code
def yX5_turn : MethodName := ⟨RX5, "turn", "(II)I"⟩
abbrev cX5_as : ByteArray := prog_7_method_36_code
def yX5_as : MethodName := ⟨RX5, "as", "(II)I"⟩
abbrev cX5_getsOn : ByteArray := prog_7_method_37_code
def yX5_getsOn : MethodName := ⟨RX5, "getsOn", "(II)I"⟩
abbrev cX5_child : ByteArray := prog_7_method_38_code
def yX5_child : MethodName := ⟨RX5, "child", "(I)I"⟩
abbrev cX5_childOf : ByteArray := prog_7_method_39_code
def yX5_childOf : MethodName := ⟨RX5, "childOf", "(II)I"⟩
abbrev cX5_grip : ByteArray := prog_7_method_40_code
def yX5_grip : MethodName := ⟨RX5, "grip", "(II)I"⟩
abbrev cX5_ride : ByteArray := prog_7_method_41_code
def yX5_ride : MethodName := ⟨RX5, "ride", "(II)I"⟩
abbrev cX5_holds : ByteArray := prog_7_method_42_code
def yX5_holds : MethodName := ⟨RX5, "holds", "(I)V"⟩
abbrev cX5_goes : ByteArray := prog_7_method_43_code
def yX5_goes : MethodName := ⟨RX5, "goes", "()V"⟩
abbrev cX5_goesFor : ByteArray := prog_7_method_44_code
def yX5_goesFor : MethodName := ⟨RX5, "goesFor", "(I)V"⟩
abbrev cX5_minutes : ByteArray := prog_7_method_45_code
def yX5_minutes : MethodName := ⟨RX5, "minutes", "(I)I"⟩
abbrev cX5_thinks : ByteArray := prog_7_method_46_code
def yX5_thinks : MethodName := ⟨RX5, "thinks", "()V"⟩
abbrev cX5_putsBack : ByteArray := prog_7_method_47_code
def yX5_putsBack : MethodName := ⟨RX5, "putsBack", "()V"⟩
abbrev cX5_on : ByteArray := prog_7_method_48_code
def yX5_on : MethodName := ⟨RX5, "on", "(II)I"⟩
abbrev cX5_then : ByteArray := prog_7_method_49_code
def yX5_then : MethodName := ⟨RX5, "then", "(III)I"⟩
abbrev cX5_quick : ByteArray := prog_7_method_50_code
def yX5_quick : MethodName := ⟨RX5, "quick", "(I)I"⟩
abbrev cX5_stands : ByteArray := prog_7_method_51_code
def yX5_stands : MethodName := ⟨RX5, "stands", "()I"⟩
abbrev cX5_flung : ByteArray := prog_7_method_52_code
def yX5_flung : MethodName := ⟨RX5, "flung", "(I)I"⟩
abbrev cX5_turnedOn : ByteArray := prog_7_method_53_code
def yX5_turnedOn : MethodName := ⟨RX5, "turnedOn", "(I)I"⟩
abbrev cX5_send : ByteArray := prog_7_method_54_code
def yX5_send : MethodName := ⟨RX5, "send", "(I)I"⟩
abbrev cX5_kind : ByteArray := prog_7_method_55_code
def yX5_kind : MethodName := ⟨RX5, "kind", "(II)I"⟩
abbrev cX5_firm : ByteArray := prog_7_method_56_code
def yX5_firm : MethodName := ⟨RX5, "firm", "(II)I"⟩
abbrev cX5_allFlung : ByteArray := prog_7_method_57_code
def yX5_allFlung : MethodName := ⟨RX5, "allFlung", "()I"⟩
abbrev cX5_heavy : ByteArray := prog_7_method_58_code
def yX5_heavy : MethodName := ⟨RX5, "heavy", "(I)I"⟩
abbrev cX5_pushWith : ByteArray := prog_7_method_59_code
def yX5_pushWith : MethodName := ⟨RX5, "pushWith", "(I)I"⟩
abbrev cX5_fewest : ByteArray := prog_7_method_60_code
def yX5_fewest : MethodName := ⟨RX5, "fewest", "(I)I"⟩
abbrev cX5_weather : ByteArray := prog_7_method_61_code
def yX5_weather : MethodName := ⟨RX5, "weather", "(I)I"⟩
abbrev cX5_deepest : ByteArray := prog_7_method_62_code
def yX5_deepest : MethodName := ⟨RX5, "deepest", "(I)I"⟩
abbrev cX5_feed : ByteArray := prog_7_method_63_code
def yX5_feed : MethodName := ⟨RX5, "feed", "(II)I"⟩
abbrev cX5_wipe : ByteArray := prog_7_method_64_code
def yX5_wipe : MethodName := ⟨RX5, "wipe", "()I"⟩
abbrev cX5_isByte : ByteArray := prog_7_method_65_code
def yX5_isByte : MethodName := ⟨RX5, "isByte", "(III)Z"⟩
abbrev cX5_isName : ByteArray := prog_7_method_66_code
def yX5_isName : MethodName := ⟨RX5, "isName", "(II)Z"⟩
abbrev cX5_wordHere : ByteArray := prog_7_method_67_code
def yX5_wordHere : MethodName := ⟨RX5, "wordHere", "()I"⟩
abbrev cX5_reads : ByteArray := prog_7_method_68_code
def yX5_reads : MethodName := ⟨RX5, "reads", "()V"⟩
abbrev cX5_passes : ByteArray := prog_7_method_69_code
def yX5_passes : MethodName := ⟨RX5, "passes", "(I)Z"⟩
abbrev cX5_number : ByteArray := prog_7_method_70_code
def yX5_number : MethodName := ⟨RX5, "number", "(II)I"⟩
abbrev cX5_perhaps : ByteArray := prog_7_method_71_code
def yX5_perhaps : MethodName := ⟨RX5, "perhaps", "(IIII)I"⟩
abbrev cX5_motherItem : ByteArray := prog_7_method_72_code
def yX5_motherItem : MethodName := ⟨RX5, "motherItem", "()V"⟩
abbrev cX5_childItem : ByteArray := prog_7_method_73_code
def yX5_childItem : MethodName := ⟨RX5, "childItem", "()V"⟩
abbrev cX5_rainItem : ByteArray := prog_7_method_74_code
def yX5_rainItem : MethodName := ⟨RX5, "rainItem", "()V"⟩
abbrev cX5_item : ByteArray := prog_7_method_75_code
def yX5_item : MethodName := ⟨RX5, "item", "()V"⟩
abbrev cX5_green : ByteArray := prog_7_method_76_code
def yX5_green : MethodName := ⟨RX5, "green", "()I"⟩
abbrev cX5_isSheet : ByteArray := prog_7_method_77_code
def yX5_isSheet : MethodName := ⟨RX5, "isSheet", "(I)Z"⟩
abbrev cX5_sheet : ByteArray := prog_7_method_78_code
def yX5_sheet : MethodName := ⟨RX5, "sheet", "(III)I"⟩
abbrev cX5_notThere : ByteArray := prog_7_method_79_code
def yX5_notThere : MethodName := ⟨RX5, "notThere", "(I)I"⟩
abbrev cX5_cutTo : ByteArray := prog_7_method_80_code
def yX5_cutTo : MethodName := ⟨RX5, "cutTo", "(IJ)J"⟩
abbrev cX5_write : ByteArray := prog_7_method_81_code
def yX5_write : MethodName := ⟨RX5, "write", "(IIJ)J"⟩
abbrev cX5_notCopied : ByteArray := prog_7_method_82_code
def yX5_notCopied : MethodName := ⟨RX5, "notCopied", "(IIIII)I"⟩
abbrev cX5_copy : ByteArray := prog_7_method_83_code
def yX5_copy : MethodName := ⟨RX5, "copy", "(IIIII)I"⟩
abbrev cX5_lays : ByteArray := prog_7_method_84_code
def yX5_lays : MethodName := ⟨RX5, "lays", "(I)I"⟩
abbrev cX5_book : ByteArray := prog_7_method_85_code
def yX5_book : MethodName := ⟨RX5, "book", "(I)I"⟩
abbrev cX5_isBook : ByteArray := prog_7_method_86_code
def yX5_isBook : MethodName := ⟨RX5, "isBook", "(I)Z"⟩
abbrev cX5_read : ByteArray := prog_7_method_87_code
def yX5_read : MethodName := ⟨RX5, "read", "(II)I"⟩
abbrev cX5_image : ByteArray := prog_7_method_88_code
def yX5_image : MethodName := ⟨RX5, "image", "()I"⟩
abbrev cX5_undo : ByteArray := prog_7_method_89_code
def yX5_undo : MethodName := ⟨RX5, "undo", "()I"⟩
abbrev cX5_tear : ByteArray := prog_7_method_90_code
def yX5_tear : MethodName := ⟨RX5, "tear", "()I"⟩
abbrev cX5_count : ByteArray := prog_7_method_91_code
def yX5_count : MethodName := ⟨RX5, "count", "(I)I"⟩
abbrev cX5_status : ByteArray := prog_7_method_92_code
def yX5_status : MethodName := ⟨RX5, "status", "(I)I"⟩
def RJ6 : String := "java/lang/Integer"
def TJ6 : u_T := fun k => match k with
  | _ => ("", "", "", false)
def tyJ6 : Nat → FieldType := fun k => match k with
  | _ => .int
abbrev wsJ60 : List Cond := u_ws RJ6 TJ6 0
theorem nmJ6 : ∀ a, a < 0 → ∀ b, b < 0 → a ≠ b → (TJ6 a).2.1 ≠ (TJ6 b).2.1 := by decide +kernel
theorem tyJ6_ok : ∀ k, k < 0 → parseFieldDescriptor (TJ6 k).2.2.1 = some (tyJ6 k) := by decide +kernel
abbrev cJ6_bitCount_0f7a4 : ByteArray := prog_8_method_49_code
def yJ6_bitCount_0f7a4 : MethodName := ⟨RJ6, "bitCount", "(I)I"⟩
def RJ9 : String := "java/lang/Math"
def TJ9 : u_T := fun k => match k with
  | _ => ("", "", "", false)
def tyJ9 : Nat → FieldType := fun k => match k with
  | _ => .int
abbrev wsJ90 : List Cond := u_ws RJ9 TJ9 0
theorem nmJ9 : ∀ a, a < 0 → ∀ b, b < 0 → a ≠ b → (TJ9 a).2.1 ≠ (TJ9 b).2.1 := by decide +kernel
theorem tyJ9_ok : ∀ k, k < 0 → parseFieldDescriptor (TJ9 k).2.2.1 = some (tyJ9 k) := by decide +kernel
abbrev cJ9_abs_0f7a4 : ByteArray := prog_9_method_59_code
def yJ9_abs_0f7a4 : MethodName := ⟨RJ9, "abs", "(I)I"⟩
abbrev cJ9_max_7cf53 : ByteArray := prog_9_method_65_code
def yJ9_max_7cf53 : MethodName := ⟨RJ9, "max", "(II)I"⟩
abbrev cJ9_min_7cf53 : ByteArray := prog_9_method_69_code
def yJ9_min_7cf53 : MethodName := ⟨RJ9, "min", "(II)I"⟩
def RJ0 : String := "java/lang/String"
def TJ0 : u_T := fun k => match k with
  | _ => ("", "", "", false)
def tyJ0 : Nat → FieldType := fun k => match k with
  | _ => .int
abbrev wsJ00 : List Cond := u_ws RJ0 TJ0 0
theorem nmJ0 : ∀ a, a < 0 → ∀ b, b < 0 → a ≠ b → (TJ0 a).2.1 ≠ (TJ0 b).2.1 := by decide +kernel
theorem tyJ0_ok : ∀ k, k < 0 → parseFieldDescriptor (TJ0 k).2.2.1 = some (tyJ0 k) := by decide +kernel
abbrev cJ0_length_8abf5 : ByteArray := prog_10_method_54_code
def yJ0_length_8abf5 : MethodName := ⟨RJ0, "length", "()I"⟩
abbrev cJ0_charAt_5068e : ByteArray := prog_10_method_56_code
def yJ0_charAt_5068e : MethodName := ⟨RJ0, "charAt", "(I)C"⟩
abbrev cJ0_coder_7d493 : ByteArray := prog_10_method_152_code
def yJ0_coder_7d493 : MethodName := ⟨RJ0, "coder", "()B"⟩
abbrev cJ0_isLatin1_aae02 : ByteArray := prog_10_method_154_code
def yJ0_isLatin1_aae02 : MethodName := ⟨RJ0, "isLatin1", "()Z"⟩
abbrev cJ0_checkIndex_df160 : ByteArray := prog_10_method_155_code
def yJ0_checkIndex_df160 : MethodName := ⟨RJ0, "checkIndex", "(II)V"⟩
def RJ1 : String := "java/lang/StringLatin1"
def TJ1 : u_T := fun k => match k with
  | _ => ("", "", "", false)
def tyJ1 : Nat → FieldType := fun k => match k with
  | _ => .int
abbrev wsJ10 : List Cond := u_ws RJ1 TJ1 0
theorem nmJ1 : ∀ a, a < 0 → ∀ b, b < 0 → a ≠ b → (TJ1 a).2.1 ≠ (TJ1 b).2.1 := by decide +kernel
theorem tyJ1_ok : ∀ k, k < 0 → parseFieldDescriptor (TJ1 k).2.2.1 = some (tyJ1 k) := by decide +kernel
abbrev cJ1_charAt_3b067 : ByteArray := prog_11_method_2_code
def yJ1_charAt_3b067 : MethodName := ⟨RJ1, "charAt", "([BI)C"⟩
def RJ2 : String := "java/lang/StringUTF16"
def TJ2 : u_T := fun k => match k with
  | _ => ("", "", "", false)
def tyJ2 : Nat → FieldType := fun k => match k with
  | _ => .int
abbrev wsJ20 : List Cond := u_ws RJ2 TJ2 0
theorem nmJ2 : ∀ a, a < 0 → ∀ b, b < 0 → a ≠ b → (TJ2 a).2.1 ≠ (TJ2 b).2.1 := by decide +kernel
theorem tyJ2_ok : ∀ k, k < 0 → parseFieldDescriptor (TJ2 k).2.2.1 = some (tyJ2 k) := by decide +kernel
abbrev cJ2_getChar_3b067 : ByteArray := prog_12_method_5_code
def yJ2_getChar_3b067 : MethodName := ⟨RJ2, "getChar", "([BI)C"⟩
abbrev cJ2_length_9d52b : ByteArray := prog_12_method_6_code
def yJ2_length_9d52b : MethodName := ⟨RJ2, "length", "([B)I"⟩
abbrev cJ2_charAt_3b067 : ByteArray := prog_12_method_83_code
def yJ2_charAt_3b067 : MethodName := ⟨RJ2, "charAt", "([BI)C"⟩
abbrev cJ2_checkIndex_2214a : ByteArray := prog_12_method_91_code
def yJ2_checkIndex_2214a : MethodName := ⟨RJ2, "checkIndex", "(I[B)V"⟩
def RJ10 : String := "java/lang/System"
def TJ10 : u_T := fun k => match k with
  | _ => ("", "", "", false)
def tyJ10 : Nat → FieldType := fun k => match k with
  | _ => .int
abbrev wsJ100 : List Cond := u_ws RJ10 TJ10 0
theorem nmJ10 : ∀ a, a < 0 → ∀ b, b < 0 → a ≠ b → (TJ10 a).2.1 ≠ (TJ10 b).2.1 := by decide +kernel
theorem tyJ10_ok : ∀ k, k < 0 → parseFieldDescriptor (TJ10 k).2.2.1 = some (tyJ10 k) := by decide +kernel
def RJ3 : String := "jdk/internal/util/Preconditions"
def TJ3 : u_T := fun k => match k with
  | _ => ("", "", "", false)
def tyJ3 : Nat → FieldType := fun k => match k with
  | _ => .int
abbrev wsJ30 : List Cond := u_ws RJ3 TJ3 0
theorem nmJ3 : ∀ a, a < 0 → ∀ b, b < 0 → a ≠ b → (TJ3 a).2.1 ≠ (TJ3 b).2.1 := by decide +kernel
theorem tyJ3_ok : ∀ k, k < 0 → parseFieldDescriptor (TJ3 k).2.2.1 = some (tyJ3 k) := by decide +kernel
abbrev cJ3_checkIndex_8e157 : ByteArray := prog_14_method_11_code
def yJ3_checkIndex_8e157 : MethodName := ⟨RJ3, "checkIndex", "(IILjava/util/function/BiFunction;)I"⟩
def RL : String := "UnsaidRoundLaw"
abbrev cL_law : ByteArray := code
def yL_law : MethodName := ⟨RL, "law", "([I)Z"⟩
def wsX0_init : List Cond := .code yX0_init cX0_init 1 none :: ([.methodLink RX0 3 objectInit, .instanceMethod objectInit, .code objectInit ⟨#[0xb1]⟩ 1 none, .fieldLink RX0 9 "UnsaidRound$Green" "heaviness" "I", .arrayClass .int, .fieldLink RX0 15 "UnsaidRound$Green" "kinds" "[I", .fieldLink RX0 19 "UnsaidRound$Green" "outs" "[I", .fieldLink RX0 22 "UnsaidRound$Green" "secrets" "[I", .fieldLink RX0 25 "UnsaidRound$Green" "silents" "[I", .fieldLink RX0 28 "UnsaidRound$Green" "grips" "[I", .fieldLink RX0 31 "UnsaidRound$Green" "rides" "[I", .fieldLink RX0 34 "UnsaidRound$Green" "flings" "[I"] ++ wsX00)
def wsX0_become : List Cond := .code yX0_become cX0_become 2 none :: ([.fieldLink RX0 37 "UnsaidRound$Green" "minute" "I", .fieldLink RX0 40 "UnsaidRound$Green" "wetParts" "I", .fieldLink RX0 9 "UnsaidRound$Green" "heaviness" "I", .fieldLink RX0 43 "UnsaidRound$Green" "speed" "I", .fieldLink RX0 46 "UnsaidRound$Green" "turned" "I", .fieldLink RX0 49 "UnsaidRound$Green" "motherCount" "I", .fieldLink RX0 15 "UnsaidRound$Green" "kinds" "[I", .methodLink RX0 52 arraycopyName, .native arraycopyName, .static arraycopyName, .initialized "java/lang/System", .fieldLink RX0 19 "UnsaidRound$Green" "outs" "[I", .fieldLink RX0 22 "UnsaidRound$Green" "secrets" "[I", .fieldLink RX0 25 "UnsaidRound$Green" "silents" "[I", .fieldLink RX0 58 "UnsaidRound$Green" "childCount" "I", .fieldLink RX0 28 "UnsaidRound$Green" "grips" "[I", .fieldLink RX0 31 "UnsaidRound$Green" "rides" "[I", .fieldLink RX0 34 "UnsaidRound$Green" "flings" "[I"] ++ wsX00)
def wsX0_hasMother : List Cond := .code yX0_hasMother cX0_hasMother 2 (some .boolean) :: ([.fieldLink RX0 49 "UnsaidRound$Green" "motherCount" "I"] ++ wsX00)
def wsX0_hasChild : List Cond := .code yX0_hasChild cX0_hasChild 2 (some .boolean) :: ([.fieldLink RX0 58 "UnsaidRound$Green" "childCount" "I"] ++ wsX00)
def wsX0_addMother : List Cond := .code yX0_addMother cX0_addMother 5 (some .int) :: ([.fieldLink RX0 49 "UnsaidRound$Green" "motherCount" "I", .fieldLink RX0 15 "UnsaidRound$Green" "kinds" "[I", .fieldLink RX0 19 "UnsaidRound$Green" "outs" "[I", .fieldLink RX0 22 "UnsaidRound$Green" "secrets" "[I", .fieldLink RX0 25 "UnsaidRound$Green" "silents" "[I"] ++ wsX00)
def wsX0_addChild : List Cond := .code yX0_addChild cX0_addChild 4 (some .int) :: ([.fieldLink RX0 58 "UnsaidRound$Green" "childCount" "I", .fieldLink RX0 28 "UnsaidRound$Green" "grips" "[I", .fieldLink RX0 31 "UnsaidRound$Green" "rides" "[I", .fieldLink RX0 34 "UnsaidRound$Green" "flings" "[I"] ++ wsX00)
def wsX0_moveMother : List Cond := .code yX0_moveMother cX0_moveMother 3 none :: ([.fieldLink RX0 19 "UnsaidRound$Green" "outs" "[I", .fieldLink RX0 25 "UnsaidRound$Green" "silents" "[I"] ++ wsX00)
def wsX0_minuteOfDay : List Cond := .code yX0_minuteOfDay cX0_minuteOfDay 1 (some .int) :: ([.fieldLink RX0 37 "UnsaidRound$Green" "minute" "I"] ++ wsX00)
def wsX0_isNight : List Cond := .code yX0_isNight cX0_isNight 1 (some .boolean) :: ([.methodLink RX0 61 yX0_minuteOfDay, .instanceMethod yX0_minuteOfDay, .selects RX0 yX0_minuteOfDay yX0_minuteOfDay, .initialized RX0, .code yX0_minuteOfDay cX0_minuteOfDay 1 (some .int), .fieldLink RX0 37 "UnsaidRound$Green" "minute" "I"] ++ wsX00)
def wsX0_isWet : List Cond := .code yX0_isWet cX0_isWet 1 (some .boolean) :: ([.fieldLink RX0 40 "UnsaidRound$Green" "wetParts" "I", .methodLink RX0 61 yX0_minuteOfDay, .instanceMethod yX0_minuteOfDay, .selects RX0 yX0_minuteOfDay yX0_minuteOfDay, .initialized RX0, .code yX0_minuteOfDay cX0_minuteOfDay 1 (some .int), .fieldLink RX0 37 "UnsaidRound$Green" "minute" "I"] ++ wsX00)
def wsX0_outCount : List Cond := .code yX0_outCount cX0_outCount 3 (some .int) :: ([.fieldLink RX0 49 "UnsaidRound$Green" "motherCount" "I", .fieldLink RX0 19 "UnsaidRound$Green" "outs" "[I"] ++ wsX00)
def wsX0_outSet : List Cond := .code yX0_outSet cX0_outSet 3 (some .int) :: ([.fieldLink RX0 49 "UnsaidRound$Green" "motherCount" "I", .fieldLink RX0 19 "UnsaidRound$Green" "outs" "[I"] ++ wsX00)
def wsX0_onCount : List Cond := .code yX0_onCount cX0_onCount 3 (some .int) :: ([.fieldLink RX0 58 "UnsaidRound$Green" "childCount" "I", .fieldLink RX0 31 "UnsaidRound$Green" "rides" "[I"] ++ wsX00)
def wsX0_onSet : List Cond := .code yX0_onSet cX0_onSet 3 (some .int) :: ([.fieldLink RX0 58 "UnsaidRound$Green" "childCount" "I", .fieldLink RX0 31 "UnsaidRound$Green" "rides" "[I"] ++ wsX00)
def wsX0_flingsOfAll : List Cond := .code yX0_flingsOfAll cX0_flingsOfAll 3 (some .int) :: ([.fieldLink RX0 58 "UnsaidRound$Green" "childCount" "I", .fieldLink RX0 34 "UnsaidRound$Green" "flings" "[I"] ++ wsX00)
def wsX0_weightNow : List Cond := .code yX0_weightNow cX0_weightNow 1 (some .int) :: ([.fieldLink RX0 9 "UnsaidRound$Green" "heaviness" "I", .methodLink RX0 65 yX0_onCount, .instanceMethod yX0_onCount, .selects RX0 yX0_onCount yX0_onCount, .initialized RX0, .code yX0_onCount cX0_onCount 3 (some .int), .fieldLink RX0 58 "UnsaidRound$Green" "childCount" "I", .fieldLink RX0 31 "UnsaidRound$Green" "rides" "[I"] ++ wsX00)
def wsX1_keeps : List Cond := .code yX1_keeps cX1_keeps 8 (some .int) :: ([])
def wsX0_keepsNow : List Cond := .code yX0_keepsNow cX0_keepsNow 4 (some .int) :: ([.fieldLink RX0 15 "UnsaidRound$Green" "kinds" "[I", .fieldLink RX0 22 "UnsaidRound$Green" "secrets" "[I", .fieldLink RX0 25 "UnsaidRound$Green" "silents" "[I", .fieldLink RX0 19 "UnsaidRound$Green" "outs" "[I", .methodLink RX0 68 yX1_keeps, .static yX1_keeps, .initialized RX1, .code yX1_keeps cX1_keeps 8 (some .int)] ++ wsX00)
def wsX1_speaks : List Cond := .code yX1_speaks cX1_speaks 7 (some .boolean) :: ([])
def wsX0_speaksNow : List Cond := .code yX0_speaksNow cX0_speaksNow 4 (some .boolean) :: ([.fieldLink RX0 15 "UnsaidRound$Green" "kinds" "[I", .fieldLink RX0 25 "UnsaidRound$Green" "silents" "[I", .fieldLink RX0 19 "UnsaidRound$Green" "outs" "[I", .fieldLink RX0 43 "UnsaidRound$Green" "speed" "I", .methodLink RX0 74 yX1_speaks, .static yX1_speaks, .initialized RX1, .code yX1_speaks cX1_speaks 7 (some .boolean)] ++ wsX00)
def wsX0_pushNow_r1 : List Cond := [Cond.fieldLink RX0 49 "UnsaidRound$Green" "motherCount" "I", Cond.fieldLink RX0 19 "UnsaidRound$Green" "outs" "[I", Cond.methodLink RX0 78 yX0_isWet, Cond.instanceMethod yX0_isWet, Cond.selects RX0 yX0_isWet yX0_isWet, Cond.initialized RX0, Cond.code yX0_isWet cX0_isWet 1 (some .boolean), Cond.fieldLink RX0 40 "UnsaidRound$Green" "wetParts" "I", Cond.methodLink RX0 61 yX0_minuteOfDay, Cond.instanceMethod yX0_minuteOfDay, Cond.selects RX0 yX0_minuteOfDay yX0_minuteOfDay, Cond.code yX0_minuteOfDay cX0_minuteOfDay 1 (some .int), Cond.fieldLink RX0 37 "UnsaidRound$Green" "minute" "I", Cond.methodLink RX0 82 yX0_outCount, Cond.instanceMethod yX0_outCount, Cond.selects RX0 yX0_outCount yX0_outCount, Cond.code yX0_outCount cX0_outCount 3 (some .int), Cond.methodLink RX0 85 yX0_isNight, Cond.instanceMethod yX0_isNight, Cond.selects RX0 yX0_isNight yX0_isNight, Cond.code yX0_isNight cX0_isNight 1 (some .boolean), Cond.methodLink RX0 88 yX0_keepsNow, Cond.instanceMethod yX0_keepsNow, Cond.selects RX0 yX0_keepsNow yX0_keepsNow]
def wsX0_pushNow_r2 : List Cond := [Cond.code yX0_keepsNow cX0_keepsNow 4 (some .int), Cond.fieldLink RX0 15 "UnsaidRound$Green" "kinds" "[I", Cond.fieldLink RX0 22 "UnsaidRound$Green" "secrets" "[I", Cond.fieldLink RX0 25 "UnsaidRound$Green" "silents" "[I", Cond.methodLink RX0 68 yX1_keeps, Cond.static yX1_keeps, Cond.initialized RX1, Cond.code yX1_keeps cX1_keeps 8 (some .int)]
def wsX0_pushNow : List Cond := .code yX0_pushNow cX0_pushNow 5 (some .int) :: ((wsX0_pushNow_r1 ++ wsX0_pushNow_r2) ++ wsX00)
def wsX0_tryGrips : List Cond := .code yX0_tryGrips cX0_tryGrips 2 none :: ([.fieldLink RX0 58 "UnsaidRound$Green" "childCount" "I", .fieldLink RX0 31 "UnsaidRound$Green" "rides" "[I", .fieldLink RX0 28 "UnsaidRound$Green" "grips" "[I", .fieldLink RX0 43 "UnsaidRound$Green" "speed" "I", .fieldLink RX0 34 "UnsaidRound$Green" "flings" "[I", .methodLink RX0 107 Lib.Math.min.name, .static Lib.Math.min.name, .initialized "java/lang/Math", .code Lib.Math.min.name Lib.Math.min.code 2 (some .int), .methodLink RX0 101 Lib.Math.max.name, .static Lib.Math.max.name, .code Lib.Math.max.name Lib.Math.max.code 2 (some .int)] ++ wsX00)
def wsX1_tells : List Cond := .code yX1_tells cX1_tells 4 (some .int) :: ([])
def wsX0_letSpeak_r1 : List Cond := [Cond.fieldLink RX0 49 "UnsaidRound$Green" "motherCount" "I", Cond.fieldLink RX0 19 "UnsaidRound$Green" "outs" "[I", Cond.fieldLink RX0 22 "UnsaidRound$Green" "secrets" "[I", Cond.fieldLink RX0 15 "UnsaidRound$Green" "kinds" "[I", Cond.methodLink RX0 101 Lib.Math.max.name, Cond.static Lib.Math.max.name, Cond.initialized "java/lang/Math", Cond.code Lib.Math.max.name Lib.Math.max.code 2 (some .int), Cond.fieldLink RX0 25 "UnsaidRound$Green" "silents" "[I", Cond.methodLink RX0 107 Lib.Math.min.name, Cond.static Lib.Math.min.name, Cond.code Lib.Math.min.name Lib.Math.min.code 2 (some .int), Cond.methodLink RX0 82 yX0_outCount, Cond.instanceMethod yX0_outCount, Cond.selects RX0 yX0_outCount yX0_outCount, Cond.initialized RX0, Cond.code yX0_outCount cX0_outCount 3 (some .int), Cond.methodLink RX0 85 yX0_isNight, Cond.instanceMethod yX0_isNight, Cond.selects RX0 yX0_isNight yX0_isNight, Cond.code yX0_isNight cX0_isNight 1 (some .boolean), Cond.methodLink RX0 61 yX0_minuteOfDay, Cond.instanceMethod yX0_minuteOfDay, Cond.selects RX0 yX0_minuteOfDay yX0_minuteOfDay]
def wsX0_letSpeak_r2 : List Cond := [Cond.code yX0_minuteOfDay cX0_minuteOfDay 1 (some .int), Cond.fieldLink RX0 37 "UnsaidRound$Green" "minute" "I", Cond.methodLink RX0 117 yX0_speaksNow, Cond.instanceMethod yX0_speaksNow, Cond.selects RX0 yX0_speaksNow yX0_speaksNow, Cond.code yX0_speaksNow cX0_speaksNow 4 (some .boolean), Cond.fieldLink RX0 43 "UnsaidRound$Green" "speed" "I", Cond.methodLink RX0 74 yX1_speaks, Cond.static yX1_speaks, Cond.initialized RX1, Cond.code yX1_speaks cX1_speaks 7 (some .boolean), Cond.methodLink RX0 121 yX1_tells, Cond.static yX1_tells, Cond.code yX1_tells cX1_tells 4 (some .int)]
def wsX0_letSpeak : List Cond := .code yX0_letSpeak cX0_letSpeak 4 none :: ((wsX0_letSpeak_r1 ++ wsX0_letSpeak_r2) ++ wsX00)
def wsX0_passMinute_r1 : List Cond := [Cond.fieldLink RX0 43 "UnsaidRound$Green" "speed" "I", Cond.methodLink RX0 101 Lib.Math.max.name, Cond.static Lib.Math.max.name, Cond.initialized "java/lang/Math", Cond.code Lib.Math.max.name Lib.Math.max.code 2 (some .int), Cond.methodLink RX0 107 Lib.Math.min.name, Cond.static Lib.Math.min.name, Cond.code Lib.Math.min.name Lib.Math.min.code 2 (some .int), Cond.constant RX0 110 (999999), Cond.fieldLink RX0 46 "UnsaidRound$Green" "turned" "I", Cond.fieldLink RX0 37 "UnsaidRound$Green" "minute" "I", Cond.methodLink RX0 95 yX0_pushNow, Cond.instanceMethod yX0_pushNow, Cond.selects RX0 yX0_pushNow yX0_pushNow, Cond.initialized RX0, Cond.code yX0_pushNow cX0_pushNow 5 (some .int), Cond.fieldLink RX0 49 "UnsaidRound$Green" "motherCount" "I", Cond.fieldLink RX0 19 "UnsaidRound$Green" "outs" "[I", Cond.methodLink RX0 78 yX0_isWet, Cond.instanceMethod yX0_isWet, Cond.selects RX0 yX0_isWet yX0_isWet, Cond.code yX0_isWet cX0_isWet 1 (some .boolean), Cond.fieldLink RX0 40 "UnsaidRound$Green" "wetParts" "I", Cond.methodLink RX0 61 yX0_minuteOfDay]
def wsX0_passMinute_r2 : List Cond := [Cond.instanceMethod yX0_minuteOfDay, Cond.selects RX0 yX0_minuteOfDay yX0_minuteOfDay, Cond.code yX0_minuteOfDay cX0_minuteOfDay 1 (some .int), Cond.methodLink RX0 82 yX0_outCount, Cond.instanceMethod yX0_outCount, Cond.selects RX0 yX0_outCount yX0_outCount, Cond.code yX0_outCount cX0_outCount 3 (some .int), Cond.methodLink RX0 85 yX0_isNight, Cond.instanceMethod yX0_isNight, Cond.selects RX0 yX0_isNight yX0_isNight, Cond.code yX0_isNight cX0_isNight 1 (some .boolean), Cond.methodLink RX0 88 yX0_keepsNow, Cond.instanceMethod yX0_keepsNow, Cond.selects RX0 yX0_keepsNow yX0_keepsNow, Cond.code yX0_keepsNow cX0_keepsNow 4 (some .int), Cond.fieldLink RX0 15 "UnsaidRound$Green" "kinds" "[I", Cond.fieldLink RX0 22 "UnsaidRound$Green" "secrets" "[I", Cond.fieldLink RX0 25 "UnsaidRound$Green" "silents" "[I", Cond.methodLink RX0 68 yX1_keeps, Cond.static yX1_keeps, Cond.initialized RX1, Cond.code yX1_keeps cX1_keeps 8 (some .int), Cond.methodLink RX0 98 yX0_weightNow, Cond.instanceMethod yX0_weightNow]
def wsX0_passMinute_r3 : List Cond := [Cond.selects RX0 yX0_weightNow yX0_weightNow, Cond.code yX0_weightNow cX0_weightNow 1 (some .int), Cond.fieldLink RX0 9 "UnsaidRound$Green" "heaviness" "I", Cond.methodLink RX0 65 yX0_onCount, Cond.instanceMethod yX0_onCount, Cond.selects RX0 yX0_onCount yX0_onCount, Cond.code yX0_onCount cX0_onCount 3 (some .int), Cond.fieldLink RX0 58 "UnsaidRound$Green" "childCount" "I", Cond.fieldLink RX0 31 "UnsaidRound$Green" "rides" "[I", Cond.methodLink RX0 111 yX0_tryGrips, Cond.instanceMethod yX0_tryGrips, Cond.selects RX0 yX0_tryGrips yX0_tryGrips, Cond.code yX0_tryGrips cX0_tryGrips 2 none, Cond.fieldLink RX0 28 "UnsaidRound$Green" "grips" "[I", Cond.fieldLink RX0 34 "UnsaidRound$Green" "flings" "[I", Cond.methodLink RX0 114 yX0_letSpeak, Cond.instanceMethod yX0_letSpeak, Cond.selects RX0 yX0_letSpeak yX0_letSpeak, Cond.code yX0_letSpeak cX0_letSpeak 4 none, Cond.methodLink RX0 117 yX0_speaksNow, Cond.instanceMethod yX0_speaksNow, Cond.selects RX0 yX0_speaksNow yX0_speaksNow, Cond.code yX0_speaksNow cX0_speaksNow 4 (some .boolean), Cond.methodLink RX0 74 yX1_speaks]
def wsX0_passMinute_r4 : List Cond := [Cond.static yX1_speaks, Cond.code yX1_speaks cX1_speaks 7 (some .boolean), Cond.methodLink RX0 121 yX1_tells, Cond.static yX1_tells, Cond.code yX1_tells cX1_tells 4 (some .int)]
def wsX0_passMinute : List Cond := .code yX0_passMinute cX0_passMinute 5 none :: ((wsX0_passMinute_r1 ++ (wsX0_passMinute_r2 ++ (wsX0_passMinute_r3 ++ wsX0_passMinute_r4))) ++ wsX00)
def wsX0_passMinutes_r1 : List Cond := [Cond.methodLink RX0 92 yX0_passMinute, Cond.instanceMethod yX0_passMinute, Cond.selects RX0 yX0_passMinute yX0_passMinute, Cond.initialized RX0, Cond.code yX0_passMinute cX0_passMinute 5 none, Cond.fieldLink RX0 43 "UnsaidRound$Green" "speed" "I", Cond.methodLink RX0 101 Lib.Math.max.name, Cond.static Lib.Math.max.name, Cond.initialized "java/lang/Math", Cond.code Lib.Math.max.name Lib.Math.max.code 2 (some .int), Cond.methodLink RX0 107 Lib.Math.min.name, Cond.static Lib.Math.min.name, Cond.code Lib.Math.min.name Lib.Math.min.code 2 (some .int), Cond.constant RX0 110 (999999), Cond.fieldLink RX0 46 "UnsaidRound$Green" "turned" "I", Cond.fieldLink RX0 37 "UnsaidRound$Green" "minute" "I", Cond.methodLink RX0 95 yX0_pushNow, Cond.instanceMethod yX0_pushNow, Cond.selects RX0 yX0_pushNow yX0_pushNow, Cond.code yX0_pushNow cX0_pushNow 5 (some .int), Cond.fieldLink RX0 49 "UnsaidRound$Green" "motherCount" "I", Cond.fieldLink RX0 19 "UnsaidRound$Green" "outs" "[I", Cond.methodLink RX0 78 yX0_isWet, Cond.instanceMethod yX0_isWet]
def wsX0_passMinutes_r2 : List Cond := [Cond.selects RX0 yX0_isWet yX0_isWet, Cond.code yX0_isWet cX0_isWet 1 (some .boolean), Cond.fieldLink RX0 40 "UnsaidRound$Green" "wetParts" "I", Cond.methodLink RX0 61 yX0_minuteOfDay, Cond.instanceMethod yX0_minuteOfDay, Cond.selects RX0 yX0_minuteOfDay yX0_minuteOfDay, Cond.code yX0_minuteOfDay cX0_minuteOfDay 1 (some .int), Cond.methodLink RX0 82 yX0_outCount, Cond.instanceMethod yX0_outCount, Cond.selects RX0 yX0_outCount yX0_outCount, Cond.code yX0_outCount cX0_outCount 3 (some .int), Cond.methodLink RX0 85 yX0_isNight, Cond.instanceMethod yX0_isNight, Cond.selects RX0 yX0_isNight yX0_isNight, Cond.code yX0_isNight cX0_isNight 1 (some .boolean), Cond.methodLink RX0 88 yX0_keepsNow, Cond.instanceMethod yX0_keepsNow, Cond.selects RX0 yX0_keepsNow yX0_keepsNow, Cond.code yX0_keepsNow cX0_keepsNow 4 (some .int), Cond.fieldLink RX0 15 "UnsaidRound$Green" "kinds" "[I", Cond.fieldLink RX0 22 "UnsaidRound$Green" "secrets" "[I", Cond.fieldLink RX0 25 "UnsaidRound$Green" "silents" "[I", Cond.methodLink RX0 68 yX1_keeps, Cond.static yX1_keeps]
def wsX0_passMinutes_r3 : List Cond := [Cond.initialized RX1, Cond.code yX1_keeps cX1_keeps 8 (some .int), Cond.methodLink RX0 98 yX0_weightNow, Cond.instanceMethod yX0_weightNow, Cond.selects RX0 yX0_weightNow yX0_weightNow, Cond.code yX0_weightNow cX0_weightNow 1 (some .int), Cond.fieldLink RX0 9 "UnsaidRound$Green" "heaviness" "I", Cond.methodLink RX0 65 yX0_onCount, Cond.instanceMethod yX0_onCount, Cond.selects RX0 yX0_onCount yX0_onCount, Cond.code yX0_onCount cX0_onCount 3 (some .int), Cond.fieldLink RX0 58 "UnsaidRound$Green" "childCount" "I", Cond.fieldLink RX0 31 "UnsaidRound$Green" "rides" "[I", Cond.methodLink RX0 111 yX0_tryGrips, Cond.instanceMethod yX0_tryGrips, Cond.selects RX0 yX0_tryGrips yX0_tryGrips, Cond.code yX0_tryGrips cX0_tryGrips 2 none, Cond.fieldLink RX0 28 "UnsaidRound$Green" "grips" "[I", Cond.fieldLink RX0 34 "UnsaidRound$Green" "flings" "[I", Cond.methodLink RX0 114 yX0_letSpeak, Cond.instanceMethod yX0_letSpeak, Cond.selects RX0 yX0_letSpeak yX0_letSpeak, Cond.code yX0_letSpeak cX0_letSpeak 4 none, Cond.methodLink RX0 117 yX0_speaksNow]
def wsX0_passMinutes_r4 : List Cond := [Cond.instanceMethod yX0_speaksNow, Cond.selects RX0 yX0_speaksNow yX0_speaksNow, Cond.code yX0_speaksNow cX0_speaksNow 4 (some .boolean), Cond.methodLink RX0 74 yX1_speaks, Cond.static yX1_speaks, Cond.code yX1_speaks cX1_speaks 7 (some .boolean), Cond.methodLink RX0 121 yX1_tells, Cond.static yX1_tells, Cond.code yX1_tells cX1_tells 4 (some .int)]
def wsX0_passMinutes : List Cond := .code yX0_passMinutes cX0_passMinutes 3 none :: ((wsX0_passMinutes_r1 ++ (wsX0_passMinutes_r2 ++ (wsX0_passMinutes_r3 ++ wsX0_passMinutes_r4))) ++ wsX00)
def wsX1_isKind : List Cond := .code yX1_isKind cX1_isKind 1 (some .boolean) :: ([])
def wsX1_kindAbove : List Cond := .code yX1_kindAbove cX1_kindAbove 1 (some .int) :: ([])
def wsX1_isUnder : List Cond := .code yX1_isUnder cX1_isUnder 2 (some .boolean) :: ([.methodLink RX1 9 yX1_kindAbove, .static yX1_kindAbove, .initialized RX1, .code yX1_kindAbove cX1_kindAbove 1 (some .int)])
def wsX2_init : List Cond := .code yX2_init cX2_init 1 none :: ([.methodLink RX2 1 objectInit, .instanceMethod objectInit, .code objectInit ⟨#[0xb1]⟩ 1 none, .arrayClass .int, .fieldLink RX2 9 "UnsaidRound$Sheets" "widths" "[I", .fieldLink RX2 13 "UnsaidRound$Sheets" "lengths" "[I", .arrayClass .long, .fieldLink RX2 16 "UnsaidRound$Sheets" "numbers" "[J"] ++ wsX20)
def wsX2_isSheet : List Cond := .code yX2_isSheet cX2_isSheet 2 (some .boolean) :: ([])
def wsX2_isMissing : List Cond := .code yX2_isMissing cX2_isMissing 2 (some .boolean) :: ([.fieldLink RX2 9 "UnsaidRound$Sheets" "widths" "[I"] ++ wsX20)
def wsX2_hasRange : List Cond := .code yX2_hasRange cX2_hasRange 4 (some .boolean) :: ([.fieldLink RX2 13 "UnsaidRound$Sheets" "lengths" "[I"] ++ wsX20)
def wsX2_lay : List Cond := .code yX2_lay cX2_lay 5 (some .int) :: ([.fieldLink RX2 9 "UnsaidRound$Sheets" "widths" "[I", .fieldLink RX2 13 "UnsaidRound$Sheets" "lengths" "[I", .fieldLink RX2 16 "UnsaidRound$Sheets" "numbers" "[J"] ++ wsX20)
def wsX2_numberAt : List Cond := .code yX2_numberAt cX2_numberAt 3 (some .long) :: ([.fieldLink RX2 16 "UnsaidRound$Sheets" "numbers" "[J"] ++ wsX20)
def wsX2_put : List Cond := .code yX2_put cX2_put 7 none :: ([.fieldLink RX2 9 "UnsaidRound$Sheets" "widths" "[I", .fieldLink RX2 16 "UnsaidRound$Sheets" "numbers" "[J"] ++ wsX20)
def wsX2_move : List Cond := .code yX2_move cX2_move 6 none :: ([.fieldLink RX2 16 "UnsaidRound$Sheets" "numbers" "[J", .methodLink RX2 20 arraycopyName, .native arraycopyName, .static arraycopyName, .initialized "java/lang/System"] ++ wsX20)
def wsX3_init : List Cond := .code yX3_init cX3_init 1 none :: ([.methodLink RX3 3 objectInit, .instanceMethod objectInit, .code objectInit ⟨#[0xb1]⟩ 1 none, .arrayClass .int, .fieldLink RX3 11 "UnsaidRound$Tape" "bytes" "[I"] ++ wsX30)
def wsX3_byteAt : List Cond := .code yX3_byteAt cX3_byteAt 2 (some .int) :: ([.fieldLink RX3 11 "UnsaidRound$Tape" "bytes" "[I"] ++ wsX30)
def wsX3_sortOf : List Cond := .code yX3_sortOf cX3_sortOf 1 (some .int) :: ([])
def wsX3_advance : List Cond := .code yX3_advance cX3_advance 3 none :: ([.fieldLink RX3 15 "UnsaidRound$Tape" "behind" "I", .fieldLink RX3 126 "UnsaidRound$Tape" "length" "I", .fieldLink RX3 26 "UnsaidRound$Tape" "start" "I", .fieldLink RX3 29 "UnsaidRound$Tape" "sort" "I", .fieldLink RX3 89 "UnsaidRound$Tape" "number" "I", .methodLink RX3 131 Lib.Math.min.name, .static Lib.Math.min.name, .initialized "java/lang/Math", .code Lib.Math.min.name Lib.Math.min.code 2 (some .int), .methodLink RX3 118 yX3_byteAt, .instanceMethod yX3_byteAt, .selects RX3 yX3_byteAt yX3_byteAt, .initialized RX3, .code yX3_byteAt cX3_byteAt 2 (some .int), .fieldLink RX3 11 "UnsaidRound$Tape" "bytes" "[I", .methodLink RX3 128 yX3_sortOf, .static yX3_sortOf, .code yX3_sortOf cX3_sortOf 1 (some .int)] ++ wsX30)
def wsJ0_coder_7d493 : List Cond := .code yJ0_coder_7d493 cJ0_coder_7d493 1 (some .byte) :: ([.fieldLink RJ0 38 "java/lang/String" "COMPACT_STRINGS" "Z", .fieldLink RJ0 15 "java/lang/String" "coder" "B"])
def wsJ0_length_8abf5 : List Cond := .code yJ0_length_8abf5 cJ0_length_8abf5 1 (some .int) :: ([.fieldLink RJ0 9 "java/lang/String" "value" "[B", .methodLink RJ0 335 yJ0_coder_7d493, .instanceMethod yJ0_coder_7d493, .selects RJ0 yJ0_coder_7d493 yJ0_coder_7d493, .initialized RJ0, .code yJ0_coder_7d493 cJ0_coder_7d493 1 (some .byte), .fieldLink RJ0 38 "java/lang/String" "COMPACT_STRINGS" "Z", .fieldLink RJ0 15 "java/lang/String" "coder" "B"])
def wsJ0_isLatin1_aae02 : List Cond := .code yJ0_isLatin1_aae02 cJ0_isLatin1_aae02 1 (some .boolean) :: ([.fieldLink RJ0 38 "java/lang/String" "COMPACT_STRINGS" "Z", .fieldLink RJ0 15 "java/lang/String" "coder" "B"])
def wsJ3_checkIndex_8e157 : List Cond := .code yJ3_checkIndex_8e157 cJ3_checkIndex_8e157 3 (some .int) :: ([])
def wsJ0_checkIndex_df160 : List Cond := .code yJ0_checkIndex_df160 cJ0_checkIndex_df160 2 none :: ([.fieldLink RJ0 1053 "jdk/internal/util/Preconditions" "SIOOBE_FORMATTER" "Ljava/util/function/BiFunction;", .methodLink RJ0 1059 yJ3_checkIndex_8e157, .static yJ3_checkIndex_8e157, .initialized RJ3, .code yJ3_checkIndex_8e157 cJ3_checkIndex_8e157 3 (some .int)])
def wsJ1_charAt_3b067 : List Cond := .code yJ1_charAt_3b067 cJ1_charAt_3b067 2 (some .char) :: ([.methodLink RJ1 9 yJ0_checkIndex_df160, .static yJ0_checkIndex_df160, .initialized RJ0, .code yJ0_checkIndex_df160 cJ0_checkIndex_df160 2 none, .fieldLink RJ0 1053 "jdk/internal/util/Preconditions" "SIOOBE_FORMATTER" "Ljava/util/function/BiFunction;", .methodLink RJ0 1059 yJ3_checkIndex_8e157, .static yJ3_checkIndex_8e157, .initialized RJ3, .code yJ3_checkIndex_8e157 cJ3_checkIndex_8e157 3 (some .int)])
def wsJ2_length_9d52b : List Cond := .code yJ2_length_9d52b cJ2_length_9d52b 1 (some .int) :: ([])
def wsJ2_checkIndex_2214a : List Cond := .code yJ2_checkIndex_2214a cJ2_checkIndex_2214a 2 none :: ([.methodLink RJ2 48 yJ2_length_9d52b, .static yJ2_length_9d52b, .initialized RJ2, .code yJ2_length_9d52b cJ2_length_9d52b 1 (some .int), .methodLink RJ2 414 yJ0_checkIndex_df160, .static yJ0_checkIndex_df160, .initialized RJ0, .code yJ0_checkIndex_df160 cJ0_checkIndex_df160 2 none, .fieldLink RJ0 1053 "jdk/internal/util/Preconditions" "SIOOBE_FORMATTER" "Ljava/util/function/BiFunction;", .methodLink RJ0 1059 yJ3_checkIndex_8e157, .static yJ3_checkIndex_8e157, .initialized RJ3, .code yJ3_checkIndex_8e157 cJ3_checkIndex_8e157 3 (some .int)])
def wsJ2_getChar_3b067 : List Cond := .code yJ2_getChar_3b067 cJ2_getChar_3b067 2 (some .char) :: ([.fieldLink RJ2 44 "java/lang/StringUTF16" "$assertionsDisabled" "Z", .fieldLink RJ2 59 "java/lang/StringUTF16" "HI_BYTE_SHIFT" "I", .fieldLink RJ2 63 "java/lang/StringUTF16" "LO_BYTE_SHIFT" "I", .methodLink RJ2 48 yJ2_length_9d52b, .static yJ2_length_9d52b, .initialized RJ2, .code yJ2_length_9d52b cJ2_length_9d52b 1 (some .int)])
def wsJ2_charAt_3b067 : List Cond := .code yJ2_charAt_3b067 cJ2_charAt_3b067 2 (some .char) :: ([.methodLink RJ2 67 yJ2_checkIndex_2214a, .static yJ2_checkIndex_2214a, .initialized RJ2, .code yJ2_checkIndex_2214a cJ2_checkIndex_2214a 2 none, .methodLink RJ2 48 yJ2_length_9d52b, .static yJ2_length_9d52b, .code yJ2_length_9d52b cJ2_length_9d52b 1 (some .int), .methodLink RJ2 414 yJ0_checkIndex_df160, .static yJ0_checkIndex_df160, .initialized RJ0, .code yJ0_checkIndex_df160 cJ0_checkIndex_df160 2 none, .fieldLink RJ0 1053 "jdk/internal/util/Preconditions" "SIOOBE_FORMATTER" "Ljava/util/function/BiFunction;", .methodLink RJ0 1059 yJ3_checkIndex_8e157, .static yJ3_checkIndex_8e157, .initialized RJ3, .code yJ3_checkIndex_8e157 cJ3_checkIndex_8e157 3 (some .int), .methodLink RJ2 71 yJ2_getChar_3b067, .static yJ2_getChar_3b067, .code yJ2_getChar_3b067 cJ2_getChar_3b067 2 (some .char), .fieldLink RJ2 44 "java/lang/StringUTF16" "$assertionsDisabled" "Z", .fieldLink RJ2 59 "java/lang/StringUTF16" "HI_BYTE_SHIFT" "I", .fieldLink RJ2 63 "java/lang/StringUTF16" "LO_BYTE_SHIFT" "I"])
def wsJ0_charAt_5068e_r1 : List Cond := [Cond.fieldLink RJ0 9 "java/lang/String" "value" "[B", Cond.methodLink RJ0 492 yJ0_isLatin1_aae02, Cond.instanceMethod yJ0_isLatin1_aae02, Cond.selects RJ0 yJ0_isLatin1_aae02 yJ0_isLatin1_aae02, Cond.initialized RJ0, Cond.code yJ0_isLatin1_aae02 cJ0_isLatin1_aae02 1 (some .boolean), Cond.fieldLink RJ0 38 "java/lang/String" "COMPACT_STRINGS" "Z", Cond.fieldLink RJ0 15 "java/lang/String" "coder" "B", Cond.methodLink RJ0 495 yJ1_charAt_3b067, Cond.static yJ1_charAt_3b067, Cond.initialized RJ1, Cond.code yJ1_charAt_3b067 cJ1_charAt_3b067 2 (some .char), Cond.methodLink RJ1 9 yJ0_checkIndex_df160, Cond.static yJ0_checkIndex_df160, Cond.code yJ0_checkIndex_df160 cJ0_checkIndex_df160 2 none, Cond.fieldLink RJ0 1053 "jdk/internal/util/Preconditions" "SIOOBE_FORMATTER" "Ljava/util/function/BiFunction;", Cond.methodLink RJ0 1059 yJ3_checkIndex_8e157, Cond.static yJ3_checkIndex_8e157, Cond.initialized RJ3, Cond.code yJ3_checkIndex_8e157 cJ3_checkIndex_8e157 3 (some .int), Cond.methodLink RJ0 498 yJ2_charAt_3b067, Cond.static yJ2_charAt_3b067, Cond.initialized RJ2, Cond.code yJ2_charAt_3b067 cJ2_charAt_3b067 2 (some .char)]
def wsJ0_charAt_5068e_r2 : List Cond := [Cond.methodLink RJ2 67 yJ2_checkIndex_2214a, Cond.static yJ2_checkIndex_2214a, Cond.code yJ2_checkIndex_2214a cJ2_checkIndex_2214a 2 none, Cond.methodLink RJ2 48 yJ2_length_9d52b, Cond.static yJ2_length_9d52b, Cond.code yJ2_length_9d52b cJ2_length_9d52b 1 (some .int), Cond.methodLink RJ2 414 yJ0_checkIndex_df160, Cond.methodLink RJ2 71 yJ2_getChar_3b067, Cond.static yJ2_getChar_3b067, Cond.code yJ2_getChar_3b067 cJ2_getChar_3b067 2 (some .char), Cond.fieldLink RJ2 44 "java/lang/StringUTF16" "$assertionsDisabled" "Z", Cond.fieldLink RJ2 59 "java/lang/StringUTF16" "HI_BYTE_SHIFT" "I", Cond.fieldLink RJ2 63 "java/lang/StringUTF16" "LO_BYTE_SHIFT" "I"]
def wsJ0_charAt_5068e : List Cond := .code yJ0_charAt_5068e cJ0_charAt_5068e 2 (some .char) :: ((wsJ0_charAt_5068e_r1 ++ wsJ0_charAt_5068e_r2))
def wsX3_isWord_r1 : List Cond := [Cond.fieldLink RX3 29 "UnsaidRound$Tape" "sort" "I", Cond.fieldLink RX3 15 "UnsaidRound$Tape" "behind" "I", Cond.fieldLink RX3 26 "UnsaidRound$Tape" "start" "I", Cond.methodLink RX3 113 yJ0_length_8abf5, Cond.instanceMethod yJ0_length_8abf5, Cond.selects RJ0 yJ0_length_8abf5 yJ0_length_8abf5, Cond.initialized RJ0, Cond.code yJ0_length_8abf5 cJ0_length_8abf5 1 (some .int), Cond.fieldLink RJ0 9 "java/lang/String" "value" "[B", Cond.methodLink RJ0 335 yJ0_coder_7d493, Cond.instanceMethod yJ0_coder_7d493, Cond.selects RJ0 yJ0_coder_7d493 yJ0_coder_7d493, Cond.code yJ0_coder_7d493 cJ0_coder_7d493 1 (some .byte), Cond.fieldLink RJ0 38 "java/lang/String" "COMPACT_STRINGS" "Z", Cond.fieldLink RJ0 15 "java/lang/String" "coder" "B", Cond.methodLink RX3 118 yX3_byteAt, Cond.instanceMethod yX3_byteAt, Cond.selects RX3 yX3_byteAt yX3_byteAt, Cond.initialized RX3, Cond.code yX3_byteAt cX3_byteAt 2 (some .int), Cond.fieldLink RX3 11 "UnsaidRound$Tape" "bytes" "[I", Cond.methodLink RX3 122 yJ0_charAt_5068e, Cond.instanceMethod yJ0_charAt_5068e, Cond.selects RJ0 yJ0_charAt_5068e yJ0_charAt_5068e]
def wsX3_isWord_r2 : List Cond := [Cond.code yJ0_charAt_5068e cJ0_charAt_5068e 2 (some .char), Cond.methodLink RJ0 492 yJ0_isLatin1_aae02, Cond.instanceMethod yJ0_isLatin1_aae02, Cond.selects RJ0 yJ0_isLatin1_aae02 yJ0_isLatin1_aae02, Cond.code yJ0_isLatin1_aae02 cJ0_isLatin1_aae02 1 (some .boolean), Cond.methodLink RJ0 495 yJ1_charAt_3b067, Cond.static yJ1_charAt_3b067, Cond.initialized RJ1, Cond.code yJ1_charAt_3b067 cJ1_charAt_3b067 2 (some .char), Cond.methodLink RJ1 9 yJ0_checkIndex_df160, Cond.static yJ0_checkIndex_df160, Cond.code yJ0_checkIndex_df160 cJ0_checkIndex_df160 2 none, Cond.fieldLink RJ0 1053 "jdk/internal/util/Preconditions" "SIOOBE_FORMATTER" "Ljava/util/function/BiFunction;", Cond.methodLink RJ0 1059 yJ3_checkIndex_8e157, Cond.static yJ3_checkIndex_8e157, Cond.initialized RJ3, Cond.code yJ3_checkIndex_8e157 cJ3_checkIndex_8e157 3 (some .int), Cond.methodLink RJ0 498 yJ2_charAt_3b067, Cond.static yJ2_charAt_3b067, Cond.initialized RJ2, Cond.code yJ2_charAt_3b067 cJ2_charAt_3b067 2 (some .char), Cond.methodLink RJ2 67 yJ2_checkIndex_2214a, Cond.static yJ2_checkIndex_2214a, Cond.code yJ2_checkIndex_2214a cJ2_checkIndex_2214a 2 none]
def wsX3_isWord_r3 : List Cond := [Cond.methodLink RJ2 48 yJ2_length_9d52b, Cond.static yJ2_length_9d52b, Cond.code yJ2_length_9d52b cJ2_length_9d52b 1 (some .int), Cond.methodLink RJ2 414 yJ0_checkIndex_df160, Cond.methodLink RJ2 71 yJ2_getChar_3b067, Cond.static yJ2_getChar_3b067, Cond.code yJ2_getChar_3b067 cJ2_getChar_3b067 2 (some .char), Cond.fieldLink RJ2 44 "java/lang/StringUTF16" "$assertionsDisabled" "Z", Cond.fieldLink RJ2 59 "java/lang/StringUTF16" "HI_BYTE_SHIFT" "I", Cond.fieldLink RJ2 63 "java/lang/StringUTF16" "LO_BYTE_SHIFT" "I"]
def wsX3_isWord : List Cond := .code yX3_isWord cX3_isWord 3 (some .boolean) :: ((wsX3_isWord_r1 ++ (wsX3_isWord_r2 ++ wsX3_isWord_r3)) ++ wsX30)
def wsX3_kindNamed_r1 : List Cond := [Cond.methodLink RX3 42 yX3_isWord, Cond.instanceMethod yX3_isWord, Cond.selects RX3 yX3_isWord yX3_isWord, Cond.initialized RX3, Cond.code yX3_isWord cX3_isWord 3 (some .boolean), Cond.fieldLink RX3 29 "UnsaidRound$Tape" "sort" "I", Cond.fieldLink RX3 15 "UnsaidRound$Tape" "behind" "I", Cond.fieldLink RX3 26 "UnsaidRound$Tape" "start" "I", Cond.methodLink RX3 113 yJ0_length_8abf5, Cond.instanceMethod yJ0_length_8abf5, Cond.selects RJ0 yJ0_length_8abf5 yJ0_length_8abf5, Cond.initialized RJ0, Cond.code yJ0_length_8abf5 cJ0_length_8abf5 1 (some .int), Cond.fieldLink RJ0 9 "java/lang/String" "value" "[B", Cond.methodLink RJ0 335 yJ0_coder_7d493, Cond.instanceMethod yJ0_coder_7d493, Cond.selects RJ0 yJ0_coder_7d493 yJ0_coder_7d493, Cond.code yJ0_coder_7d493 cJ0_coder_7d493 1 (some .byte), Cond.fieldLink RJ0 38 "java/lang/String" "COMPACT_STRINGS" "Z", Cond.fieldLink RJ0 15 "java/lang/String" "coder" "B", Cond.methodLink RX3 118 yX3_byteAt, Cond.instanceMethod yX3_byteAt, Cond.selects RX3 yX3_byteAt yX3_byteAt, Cond.code yX3_byteAt cX3_byteAt 2 (some .int)]
def wsX3_kindNamed_r2 : List Cond := [Cond.fieldLink RX3 11 "UnsaidRound$Tape" "bytes" "[I", Cond.methodLink RX3 122 yJ0_charAt_5068e, Cond.instanceMethod yJ0_charAt_5068e, Cond.selects RJ0 yJ0_charAt_5068e yJ0_charAt_5068e, Cond.code yJ0_charAt_5068e cJ0_charAt_5068e 2 (some .char), Cond.methodLink RJ0 492 yJ0_isLatin1_aae02, Cond.instanceMethod yJ0_isLatin1_aae02, Cond.selects RJ0 yJ0_isLatin1_aae02 yJ0_isLatin1_aae02, Cond.code yJ0_isLatin1_aae02 cJ0_isLatin1_aae02 1 (some .boolean), Cond.methodLink RJ0 495 yJ1_charAt_3b067, Cond.static yJ1_charAt_3b067, Cond.initialized RJ1, Cond.code yJ1_charAt_3b067 cJ1_charAt_3b067 2 (some .char), Cond.methodLink RJ1 9 yJ0_checkIndex_df160, Cond.static yJ0_checkIndex_df160, Cond.code yJ0_checkIndex_df160 cJ0_checkIndex_df160 2 none, Cond.fieldLink RJ0 1053 "jdk/internal/util/Preconditions" "SIOOBE_FORMATTER" "Ljava/util/function/BiFunction;", Cond.methodLink RJ0 1059 yJ3_checkIndex_8e157, Cond.static yJ3_checkIndex_8e157, Cond.initialized RJ3, Cond.code yJ3_checkIndex_8e157 cJ3_checkIndex_8e157 3 (some .int), Cond.methodLink RJ0 498 yJ2_charAt_3b067, Cond.static yJ2_charAt_3b067, Cond.initialized RJ2]
def wsX3_kindNamed_r3 : List Cond := [Cond.code yJ2_charAt_3b067 cJ2_charAt_3b067 2 (some .char), Cond.methodLink RJ2 67 yJ2_checkIndex_2214a, Cond.static yJ2_checkIndex_2214a, Cond.code yJ2_checkIndex_2214a cJ2_checkIndex_2214a 2 none, Cond.methodLink RJ2 48 yJ2_length_9d52b, Cond.static yJ2_length_9d52b, Cond.code yJ2_length_9d52b cJ2_length_9d52b 1 (some .int), Cond.methodLink RJ2 414 yJ0_checkIndex_df160, Cond.methodLink RJ2 71 yJ2_getChar_3b067, Cond.static yJ2_getChar_3b067, Cond.code yJ2_getChar_3b067 cJ2_getChar_3b067 2 (some .char), Cond.fieldLink RJ2 44 "java/lang/StringUTF16" "$assertionsDisabled" "Z", Cond.fieldLink RJ2 59 "java/lang/StringUTF16" "HI_BYTE_SHIFT" "I", Cond.fieldLink RJ2 63 "java/lang/StringUTF16" "LO_BYTE_SHIFT" "I"]
def wsX3_kindNamed : List Cond := .code yX3_kindNamed cX3_kindNamed 1 (some .int) :: ((wsX3_kindNamed_r1 ++ (wsX3_kindNamed_r2 ++ wsX3_kindNamed_r3)) ++ wsX30)
def wsX3_takeNumber : List Cond := .code yX3_takeNumber cX3_takeNumber 3 (some .boolean) :: ([.fieldLink RX3 29 "UnsaidRound$Tape" "sort" "I", .fieldLink RX3 89 "UnsaidRound$Tape" "number" "I", .methodLink RX3 19 yX3_advance, .instanceMethod yX3_advance, .selects RX3 yX3_advance yX3_advance, .initialized RX3, .code yX3_advance cX3_advance 3 none, .fieldLink RX3 15 "UnsaidRound$Tape" "behind" "I", .fieldLink RX3 126 "UnsaidRound$Tape" "length" "I", .fieldLink RX3 26 "UnsaidRound$Tape" "start" "I", .methodLink RX3 131 Lib.Math.min.name, .static Lib.Math.min.name, .initialized "java/lang/Math", .code Lib.Math.min.name Lib.Math.min.code 2 (some .int), .methodLink RX3 118 yX3_byteAt, .instanceMethod yX3_byteAt, .selects RX3 yX3_byteAt yX3_byteAt, .code yX3_byteAt cX3_byteAt 2 (some .int), .fieldLink RX3 11 "UnsaidRound$Tape" "bytes" "[I", .methodLink RX3 128 yX3_sortOf, .static yX3_sortOf, .code yX3_sortOf cX3_sortOf 1 (some .int)] ++ wsX30)
def wsX3_takeMother_r1 : List Cond := [Cond.fieldLink RX3 78 "UnsaidRound$Green" "motherCount" "I", Cond.fieldLink RX3 89 "UnsaidRound$Tape" "number" "I", Cond.methodLink RX3 19 yX3_advance, Cond.instanceMethod yX3_advance, Cond.selects RX3 yX3_advance yX3_advance, Cond.initialized RX3, Cond.code yX3_advance cX3_advance 3 none, Cond.fieldLink RX3 15 "UnsaidRound$Tape" "behind" "I", Cond.fieldLink RX3 126 "UnsaidRound$Tape" "length" "I", Cond.fieldLink RX3 26 "UnsaidRound$Tape" "start" "I", Cond.fieldLink RX3 29 "UnsaidRound$Tape" "sort" "I", Cond.methodLink RX3 131 Lib.Math.min.name, Cond.static Lib.Math.min.name, Cond.initialized "java/lang/Math", Cond.code Lib.Math.min.name Lib.Math.min.code 2 (some .int), Cond.methodLink RX3 118 yX3_byteAt, Cond.instanceMethod yX3_byteAt, Cond.selects RX3 yX3_byteAt yX3_byteAt, Cond.code yX3_byteAt cX3_byteAt 2 (some .int), Cond.fieldLink RX3 11 "UnsaidRound$Tape" "bytes" "[I", Cond.methodLink RX3 128 yX3_sortOf, Cond.static yX3_sortOf, Cond.code yX3_sortOf cX3_sortOf 1 (some .int), Cond.methodLink RX3 42 yX3_isWord]
def wsX3_takeMother_r2 : List Cond := [Cond.instanceMethod yX3_isWord, Cond.selects RX3 yX3_isWord yX3_isWord, Cond.code yX3_isWord cX3_isWord 3 (some .boolean), Cond.methodLink RX3 113 yJ0_length_8abf5, Cond.instanceMethod yJ0_length_8abf5, Cond.selects RJ0 yJ0_length_8abf5 yJ0_length_8abf5, Cond.initialized RJ0, Cond.code yJ0_length_8abf5 cJ0_length_8abf5 1 (some .int), Cond.fieldLink RJ0 9 "java/lang/String" "value" "[B", Cond.methodLink RJ0 335 yJ0_coder_7d493, Cond.instanceMethod yJ0_coder_7d493, Cond.selects RJ0 yJ0_coder_7d493 yJ0_coder_7d493, Cond.code yJ0_coder_7d493 cJ0_coder_7d493 1 (some .byte), Cond.fieldLink RJ0 38 "java/lang/String" "COMPACT_STRINGS" "Z", Cond.fieldLink RJ0 15 "java/lang/String" "coder" "B", Cond.methodLink RX3 122 yJ0_charAt_5068e, Cond.instanceMethod yJ0_charAt_5068e, Cond.selects RJ0 yJ0_charAt_5068e yJ0_charAt_5068e, Cond.code yJ0_charAt_5068e cJ0_charAt_5068e 2 (some .char), Cond.methodLink RJ0 492 yJ0_isLatin1_aae02, Cond.instanceMethod yJ0_isLatin1_aae02, Cond.selects RJ0 yJ0_isLatin1_aae02 yJ0_isLatin1_aae02, Cond.code yJ0_isLatin1_aae02 cJ0_isLatin1_aae02 1 (some .boolean), Cond.methodLink RJ0 495 yJ1_charAt_3b067]
def wsX3_takeMother_r3 : List Cond := [Cond.static yJ1_charAt_3b067, Cond.initialized RJ1, Cond.code yJ1_charAt_3b067 cJ1_charAt_3b067 2 (some .char), Cond.methodLink RJ1 9 yJ0_checkIndex_df160, Cond.static yJ0_checkIndex_df160, Cond.code yJ0_checkIndex_df160 cJ0_checkIndex_df160 2 none, Cond.fieldLink RJ0 1053 "jdk/internal/util/Preconditions" "SIOOBE_FORMATTER" "Ljava/util/function/BiFunction;", Cond.methodLink RJ0 1059 yJ3_checkIndex_8e157, Cond.static yJ3_checkIndex_8e157, Cond.initialized RJ3, Cond.code yJ3_checkIndex_8e157 cJ3_checkIndex_8e157 3 (some .int), Cond.methodLink RJ0 498 yJ2_charAt_3b067, Cond.static yJ2_charAt_3b067, Cond.initialized RJ2, Cond.code yJ2_charAt_3b067 cJ2_charAt_3b067 2 (some .char), Cond.methodLink RJ2 67 yJ2_checkIndex_2214a, Cond.static yJ2_checkIndex_2214a, Cond.code yJ2_checkIndex_2214a cJ2_checkIndex_2214a 2 none, Cond.methodLink RJ2 48 yJ2_length_9d52b, Cond.static yJ2_length_9d52b, Cond.code yJ2_length_9d52b cJ2_length_9d52b 1 (some .int), Cond.methodLink RJ2 414 yJ0_checkIndex_df160, Cond.methodLink RJ2 71 yJ2_getChar_3b067, Cond.static yJ2_getChar_3b067]
def wsX3_takeMother_r4 : List Cond := [Cond.code yJ2_getChar_3b067 cJ2_getChar_3b067 2 (some .char), Cond.fieldLink RJ2 44 "java/lang/StringUTF16" "$assertionsDisabled" "Z", Cond.fieldLink RJ2 59 "java/lang/StringUTF16" "HI_BYTE_SHIFT" "I", Cond.fieldLink RJ2 63 "java/lang/StringUTF16" "LO_BYTE_SHIFT" "I", Cond.methodLink RX3 85 yX3_takeNumber, Cond.instanceMethod yX3_takeNumber, Cond.selects RX3 yX3_takeNumber yX3_takeNumber, Cond.code yX3_takeNumber cX3_takeNumber 3 (some .boolean), Cond.methodLink RX3 94 yX0_addMother, Cond.instanceMethod yX0_addMother, Cond.selects RX0 yX0_addMother yX0_addMother, Cond.initialized RX0, Cond.code yX0_addMother cX0_addMother 5 (some .int), Cond.fieldLink RX0 49 "UnsaidRound$Green" "motherCount" "I", Cond.fieldLink RX0 15 "UnsaidRound$Green" "kinds" "[I", Cond.fieldLink RX0 19 "UnsaidRound$Green" "outs" "[I", Cond.fieldLink RX0 22 "UnsaidRound$Green" "secrets" "[I", Cond.fieldLink RX0 25 "UnsaidRound$Green" "silents" "[I"]
def wsX3_takeMother : List Cond := .code yX3_takeMother cX3_takeMother 5 (some .boolean) :: ((wsX3_takeMother_r1 ++ (wsX3_takeMother_r2 ++ (wsX3_takeMother_r3 ++ wsX3_takeMother_r4))) ++ wsX00 ++ wsX30)
def wsX3_takeChild_r1 : List Cond := [Cond.fieldLink RX3 98 "UnsaidRound$Green" "childCount" "I", Cond.fieldLink RX3 89 "UnsaidRound$Tape" "number" "I", Cond.methodLink RX3 85 yX3_takeNumber, Cond.instanceMethod yX3_takeNumber, Cond.selects RX3 yX3_takeNumber yX3_takeNumber, Cond.initialized RX3, Cond.code yX3_takeNumber cX3_takeNumber 3 (some .boolean), Cond.fieldLink RX3 29 "UnsaidRound$Tape" "sort" "I", Cond.methodLink RX3 19 yX3_advance, Cond.instanceMethod yX3_advance, Cond.selects RX3 yX3_advance yX3_advance, Cond.code yX3_advance cX3_advance 3 none, Cond.fieldLink RX3 15 "UnsaidRound$Tape" "behind" "I", Cond.fieldLink RX3 126 "UnsaidRound$Tape" "length" "I", Cond.fieldLink RX3 26 "UnsaidRound$Tape" "start" "I", Cond.methodLink RX3 131 Lib.Math.min.name, Cond.static Lib.Math.min.name, Cond.initialized "java/lang/Math", Cond.code Lib.Math.min.name Lib.Math.min.code 2 (some .int), Cond.methodLink RX3 118 yX3_byteAt, Cond.instanceMethod yX3_byteAt, Cond.selects RX3 yX3_byteAt yX3_byteAt, Cond.code yX3_byteAt cX3_byteAt 2 (some .int), Cond.fieldLink RX3 11 "UnsaidRound$Tape" "bytes" "[I"]
def wsX3_takeChild_r2 : List Cond := [Cond.methodLink RX3 128 yX3_sortOf, Cond.static yX3_sortOf, Cond.code yX3_sortOf cX3_sortOf 1 (some .int), Cond.methodLink RX3 42 yX3_isWord, Cond.instanceMethod yX3_isWord, Cond.selects RX3 yX3_isWord yX3_isWord, Cond.code yX3_isWord cX3_isWord 3 (some .boolean), Cond.methodLink RX3 113 yJ0_length_8abf5, Cond.instanceMethod yJ0_length_8abf5, Cond.selects RJ0 yJ0_length_8abf5 yJ0_length_8abf5, Cond.initialized RJ0, Cond.code yJ0_length_8abf5 cJ0_length_8abf5 1 (some .int), Cond.fieldLink RJ0 9 "java/lang/String" "value" "[B", Cond.methodLink RJ0 335 yJ0_coder_7d493, Cond.instanceMethod yJ0_coder_7d493, Cond.selects RJ0 yJ0_coder_7d493 yJ0_coder_7d493, Cond.code yJ0_coder_7d493 cJ0_coder_7d493 1 (some .byte), Cond.fieldLink RJ0 38 "java/lang/String" "COMPACT_STRINGS" "Z", Cond.fieldLink RJ0 15 "java/lang/String" "coder" "B", Cond.methodLink RX3 122 yJ0_charAt_5068e, Cond.instanceMethod yJ0_charAt_5068e, Cond.selects RJ0 yJ0_charAt_5068e yJ0_charAt_5068e, Cond.code yJ0_charAt_5068e cJ0_charAt_5068e 2 (some .char), Cond.methodLink RJ0 492 yJ0_isLatin1_aae02]
def wsX3_takeChild_r3 : List Cond := [Cond.instanceMethod yJ0_isLatin1_aae02, Cond.selects RJ0 yJ0_isLatin1_aae02 yJ0_isLatin1_aae02, Cond.code yJ0_isLatin1_aae02 cJ0_isLatin1_aae02 1 (some .boolean), Cond.methodLink RJ0 495 yJ1_charAt_3b067, Cond.static yJ1_charAt_3b067, Cond.initialized RJ1, Cond.code yJ1_charAt_3b067 cJ1_charAt_3b067 2 (some .char), Cond.methodLink RJ1 9 yJ0_checkIndex_df160, Cond.static yJ0_checkIndex_df160, Cond.code yJ0_checkIndex_df160 cJ0_checkIndex_df160 2 none, Cond.fieldLink RJ0 1053 "jdk/internal/util/Preconditions" "SIOOBE_FORMATTER" "Ljava/util/function/BiFunction;", Cond.methodLink RJ0 1059 yJ3_checkIndex_8e157, Cond.static yJ3_checkIndex_8e157, Cond.initialized RJ3, Cond.code yJ3_checkIndex_8e157 cJ3_checkIndex_8e157 3 (some .int), Cond.methodLink RJ0 498 yJ2_charAt_3b067, Cond.static yJ2_charAt_3b067, Cond.initialized RJ2, Cond.code yJ2_charAt_3b067 cJ2_charAt_3b067 2 (some .char), Cond.methodLink RJ2 67 yJ2_checkIndex_2214a, Cond.static yJ2_checkIndex_2214a, Cond.code yJ2_checkIndex_2214a cJ2_checkIndex_2214a 2 none, Cond.methodLink RJ2 48 yJ2_length_9d52b, Cond.static yJ2_length_9d52b]
def wsX3_takeChild_r4 : List Cond := [Cond.code yJ2_length_9d52b cJ2_length_9d52b 1 (some .int), Cond.methodLink RJ2 414 yJ0_checkIndex_df160, Cond.methodLink RJ2 71 yJ2_getChar_3b067, Cond.static yJ2_getChar_3b067, Cond.code yJ2_getChar_3b067 cJ2_getChar_3b067 2 (some .char), Cond.fieldLink RJ2 44 "java/lang/StringUTF16" "$assertionsDisabled" "Z", Cond.fieldLink RJ2 59 "java/lang/StringUTF16" "HI_BYTE_SHIFT" "I", Cond.fieldLink RJ2 63 "java/lang/StringUTF16" "LO_BYTE_SHIFT" "I", Cond.methodLink RX3 103 yX0_addChild, Cond.instanceMethod yX0_addChild, Cond.selects RX0 yX0_addChild yX0_addChild, Cond.initialized RX0, Cond.code yX0_addChild cX0_addChild 4 (some .int), Cond.fieldLink RX0 58 "UnsaidRound$Green" "childCount" "I", Cond.fieldLink RX0 28 "UnsaidRound$Green" "grips" "[I", Cond.fieldLink RX0 31 "UnsaidRound$Green" "rides" "[I", Cond.fieldLink RX0 34 "UnsaidRound$Green" "flings" "[I"]
def wsX3_takeChild : List Cond := .code yX3_takeChild cX3_takeChild 4 (some .boolean) :: ((wsX3_takeChild_r1 ++ (wsX3_takeChild_r2 ++ (wsX3_takeChild_r3 ++ wsX3_takeChild_r4))) ++ wsX00 ++ wsX30)
def wsX3_takeWet_r1 : List Cond := [Cond.fieldLink RX3 107 "UnsaidRound$Green" "wetParts" "I", Cond.fieldLink RX3 89 "UnsaidRound$Tape" "number" "I", Cond.methodLink RX3 85 yX3_takeNumber, Cond.instanceMethod yX3_takeNumber, Cond.selects RX3 yX3_takeNumber yX3_takeNumber, Cond.initialized RX3, Cond.code yX3_takeNumber cX3_takeNumber 3 (some .boolean), Cond.fieldLink RX3 29 "UnsaidRound$Tape" "sort" "I", Cond.methodLink RX3 19 yX3_advance, Cond.instanceMethod yX3_advance, Cond.selects RX3 yX3_advance yX3_advance, Cond.code yX3_advance cX3_advance 3 none, Cond.fieldLink RX3 15 "UnsaidRound$Tape" "behind" "I", Cond.fieldLink RX3 126 "UnsaidRound$Tape" "length" "I", Cond.fieldLink RX3 26 "UnsaidRound$Tape" "start" "I", Cond.methodLink RX3 131 Lib.Math.min.name, Cond.static Lib.Math.min.name, Cond.initialized "java/lang/Math", Cond.code Lib.Math.min.name Lib.Math.min.code 2 (some .int), Cond.methodLink RX3 118 yX3_byteAt, Cond.instanceMethod yX3_byteAt, Cond.selects RX3 yX3_byteAt yX3_byteAt, Cond.code yX3_byteAt cX3_byteAt 2 (some .int), Cond.fieldLink RX3 11 "UnsaidRound$Tape" "bytes" "[I"]
def wsX3_takeWet_r2 : List Cond := [Cond.methodLink RX3 128 yX3_sortOf, Cond.static yX3_sortOf, Cond.code yX3_sortOf cX3_sortOf 1 (some .int)]
def wsX3_takeWet : List Cond := .code yX3_takeWet cX3_takeWet 2 (some .boolean) :: ((wsX3_takeWet_r1 ++ wsX3_takeWet_r2) ++ wsX00 ++ wsX30)
def wsX3_takeDry_r1 : List Cond := [Cond.fieldLink RX3 107 "UnsaidRound$Green" "wetParts" "I", Cond.fieldLink RX3 89 "UnsaidRound$Tape" "number" "I", Cond.methodLink RX3 85 yX3_takeNumber, Cond.instanceMethod yX3_takeNumber, Cond.selects RX3 yX3_takeNumber yX3_takeNumber, Cond.initialized RX3, Cond.code yX3_takeNumber cX3_takeNumber 3 (some .boolean), Cond.fieldLink RX3 29 "UnsaidRound$Tape" "sort" "I", Cond.methodLink RX3 19 yX3_advance, Cond.instanceMethod yX3_advance, Cond.selects RX3 yX3_advance yX3_advance, Cond.code yX3_advance cX3_advance 3 none, Cond.fieldLink RX3 15 "UnsaidRound$Tape" "behind" "I", Cond.fieldLink RX3 126 "UnsaidRound$Tape" "length" "I", Cond.fieldLink RX3 26 "UnsaidRound$Tape" "start" "I", Cond.methodLink RX3 131 Lib.Math.min.name, Cond.static Lib.Math.min.name, Cond.initialized "java/lang/Math", Cond.code Lib.Math.min.name Lib.Math.min.code 2 (some .int), Cond.methodLink RX3 118 yX3_byteAt, Cond.instanceMethod yX3_byteAt, Cond.selects RX3 yX3_byteAt yX3_byteAt, Cond.code yX3_byteAt cX3_byteAt 2 (some .int), Cond.fieldLink RX3 11 "UnsaidRound$Tape" "bytes" "[I"]
def wsX3_takeDry_r2 : List Cond := [Cond.methodLink RX3 128 yX3_sortOf, Cond.static yX3_sortOf, Cond.code yX3_sortOf cX3_sortOf 1 (some .int)]
def wsX3_takeDry : List Cond := .code yX3_takeDry cX3_takeDry 2 (some .boolean) :: ((wsX3_takeDry_r1 ++ wsX3_takeDry_r2) ++ wsX00 ++ wsX30)
def wsX3_takeHeavy_r1 : List Cond := [Cond.fieldLink RX3 89 "UnsaidRound$Tape" "number" "I", Cond.fieldLink RX3 110 "UnsaidRound$Green" "heaviness" "I", Cond.methodLink RX3 85 yX3_takeNumber, Cond.instanceMethod yX3_takeNumber, Cond.selects RX3 yX3_takeNumber yX3_takeNumber, Cond.initialized RX3, Cond.code yX3_takeNumber cX3_takeNumber 3 (some .boolean), Cond.fieldLink RX3 29 "UnsaidRound$Tape" "sort" "I", Cond.methodLink RX3 19 yX3_advance, Cond.instanceMethod yX3_advance, Cond.selects RX3 yX3_advance yX3_advance, Cond.code yX3_advance cX3_advance 3 none, Cond.fieldLink RX3 15 "UnsaidRound$Tape" "behind" "I", Cond.fieldLink RX3 126 "UnsaidRound$Tape" "length" "I", Cond.fieldLink RX3 26 "UnsaidRound$Tape" "start" "I", Cond.methodLink RX3 131 Lib.Math.min.name, Cond.static Lib.Math.min.name, Cond.initialized "java/lang/Math", Cond.code Lib.Math.min.name Lib.Math.min.code 2 (some .int), Cond.methodLink RX3 118 yX3_byteAt, Cond.instanceMethod yX3_byteAt, Cond.selects RX3 yX3_byteAt yX3_byteAt, Cond.code yX3_byteAt cX3_byteAt 2 (some .int), Cond.fieldLink RX3 11 "UnsaidRound$Tape" "bytes" "[I"]
def wsX3_takeHeavy_r2 : List Cond := [Cond.methodLink RX3 128 yX3_sortOf, Cond.static yX3_sortOf, Cond.code yX3_sortOf cX3_sortOf 1 (some .int)]
def wsX3_takeHeavy : List Cond := .code yX3_takeHeavy cX3_takeHeavy 2 (some .boolean) :: ((wsX3_takeHeavy_r1 ++ wsX3_takeHeavy_r2) ++ wsX30 ++ wsX00)
def wsX3_takeItem_r1 : List Cond := [Cond.methodLink RX3 32 yX3_kindNamed, Cond.instanceMethod yX3_kindNamed, Cond.selects RX3 yX3_kindNamed yX3_kindNamed, Cond.initialized RX3, Cond.code yX3_kindNamed cX3_kindNamed 1 (some .int), Cond.methodLink RX3 42 yX3_isWord, Cond.instanceMethod yX3_isWord, Cond.selects RX3 yX3_isWord yX3_isWord, Cond.code yX3_isWord cX3_isWord 3 (some .boolean), Cond.fieldLink RX3 29 "UnsaidRound$Tape" "sort" "I", Cond.fieldLink RX3 15 "UnsaidRound$Tape" "behind" "I", Cond.fieldLink RX3 26 "UnsaidRound$Tape" "start" "I", Cond.methodLink RX3 113 yJ0_length_8abf5, Cond.instanceMethod yJ0_length_8abf5, Cond.selects RJ0 yJ0_length_8abf5 yJ0_length_8abf5, Cond.initialized RJ0, Cond.code yJ0_length_8abf5 cJ0_length_8abf5 1 (some .int), Cond.fieldLink RJ0 9 "java/lang/String" "value" "[B", Cond.methodLink RJ0 335 yJ0_coder_7d493, Cond.instanceMethod yJ0_coder_7d493, Cond.selects RJ0 yJ0_coder_7d493 yJ0_coder_7d493, Cond.code yJ0_coder_7d493 cJ0_coder_7d493 1 (some .byte), Cond.fieldLink RJ0 38 "java/lang/String" "COMPACT_STRINGS" "Z", Cond.fieldLink RJ0 15 "java/lang/String" "coder" "B"]
def wsX3_takeItem_r2 : List Cond := [Cond.methodLink RX3 118 yX3_byteAt, Cond.instanceMethod yX3_byteAt, Cond.selects RX3 yX3_byteAt yX3_byteAt, Cond.code yX3_byteAt cX3_byteAt 2 (some .int), Cond.fieldLink RX3 11 "UnsaidRound$Tape" "bytes" "[I", Cond.methodLink RX3 122 yJ0_charAt_5068e, Cond.instanceMethod yJ0_charAt_5068e, Cond.selects RJ0 yJ0_charAt_5068e yJ0_charAt_5068e, Cond.code yJ0_charAt_5068e cJ0_charAt_5068e 2 (some .char), Cond.methodLink RJ0 492 yJ0_isLatin1_aae02, Cond.instanceMethod yJ0_isLatin1_aae02, Cond.selects RJ0 yJ0_isLatin1_aae02 yJ0_isLatin1_aae02, Cond.code yJ0_isLatin1_aae02 cJ0_isLatin1_aae02 1 (some .boolean), Cond.methodLink RJ0 495 yJ1_charAt_3b067, Cond.static yJ1_charAt_3b067, Cond.initialized RJ1, Cond.code yJ1_charAt_3b067 cJ1_charAt_3b067 2 (some .char), Cond.methodLink RJ1 9 yJ0_checkIndex_df160, Cond.static yJ0_checkIndex_df160, Cond.code yJ0_checkIndex_df160 cJ0_checkIndex_df160 2 none, Cond.fieldLink RJ0 1053 "jdk/internal/util/Preconditions" "SIOOBE_FORMATTER" "Ljava/util/function/BiFunction;", Cond.methodLink RJ0 1059 yJ3_checkIndex_8e157, Cond.static yJ3_checkIndex_8e157, Cond.initialized RJ3]
def wsX3_takeItem_r3 : List Cond := [Cond.code yJ3_checkIndex_8e157 cJ3_checkIndex_8e157 3 (some .int), Cond.methodLink RJ0 498 yJ2_charAt_3b067, Cond.static yJ2_charAt_3b067, Cond.initialized RJ2, Cond.code yJ2_charAt_3b067 cJ2_charAt_3b067 2 (some .char), Cond.methodLink RJ2 67 yJ2_checkIndex_2214a, Cond.static yJ2_checkIndex_2214a, Cond.code yJ2_checkIndex_2214a cJ2_checkIndex_2214a 2 none, Cond.methodLink RJ2 48 yJ2_length_9d52b, Cond.static yJ2_length_9d52b, Cond.code yJ2_length_9d52b cJ2_length_9d52b 1 (some .int), Cond.methodLink RJ2 414 yJ0_checkIndex_df160, Cond.methodLink RJ2 71 yJ2_getChar_3b067, Cond.static yJ2_getChar_3b067, Cond.code yJ2_getChar_3b067 cJ2_getChar_3b067 2 (some .char), Cond.fieldLink RJ2 44 "java/lang/StringUTF16" "$assertionsDisabled" "Z", Cond.fieldLink RJ2 59 "java/lang/StringUTF16" "HI_BYTE_SHIFT" "I", Cond.fieldLink RJ2 63 "java/lang/StringUTF16" "LO_BYTE_SHIFT" "I", Cond.methodLink RX3 36 yX3_takeMother, Cond.instanceMethod yX3_takeMother, Cond.selects RX3 yX3_takeMother yX3_takeMother, Cond.code yX3_takeMother cX3_takeMother 5 (some .boolean), Cond.fieldLink RX3 78 "UnsaidRound$Green" "motherCount" "I", Cond.fieldLink RX3 89 "UnsaidRound$Tape" "number" "I"]
def wsX3_takeItem_r4 : List Cond := [Cond.methodLink RX3 19 yX3_advance, Cond.instanceMethod yX3_advance, Cond.selects RX3 yX3_advance yX3_advance, Cond.code yX3_advance cX3_advance 3 none, Cond.fieldLink RX3 126 "UnsaidRound$Tape" "length" "I", Cond.methodLink RX3 131 Lib.Math.min.name, Cond.static Lib.Math.min.name, Cond.initialized "java/lang/Math", Cond.code Lib.Math.min.name Lib.Math.min.code 2 (some .int), Cond.methodLink RX3 128 yX3_sortOf, Cond.static yX3_sortOf, Cond.code yX3_sortOf cX3_sortOf 1 (some .int), Cond.methodLink RX3 85 yX3_takeNumber, Cond.instanceMethod yX3_takeNumber, Cond.selects RX3 yX3_takeNumber yX3_takeNumber, Cond.code yX3_takeNumber cX3_takeNumber 3 (some .boolean), Cond.methodLink RX3 94 yX0_addMother, Cond.instanceMethod yX0_addMother, Cond.selects RX0 yX0_addMother yX0_addMother, Cond.initialized RX0, Cond.code yX0_addMother cX0_addMother 5 (some .int), Cond.fieldLink RX0 49 "UnsaidRound$Green" "motherCount" "I", Cond.fieldLink RX0 15 "UnsaidRound$Green" "kinds" "[I", Cond.fieldLink RX0 19 "UnsaidRound$Green" "outs" "[I"]
def wsX3_takeItem_r5 : List Cond := [Cond.fieldLink RX0 22 "UnsaidRound$Green" "secrets" "[I", Cond.fieldLink RX0 25 "UnsaidRound$Green" "silents" "[I", Cond.methodLink RX3 46 yX3_takeChild, Cond.instanceMethod yX3_takeChild, Cond.selects RX3 yX3_takeChild yX3_takeChild, Cond.code yX3_takeChild cX3_takeChild 4 (some .boolean), Cond.fieldLink RX3 98 "UnsaidRound$Green" "childCount" "I", Cond.methodLink RX3 103 yX0_addChild, Cond.instanceMethod yX0_addChild, Cond.selects RX0 yX0_addChild yX0_addChild, Cond.code yX0_addChild cX0_addChild 4 (some .int), Cond.fieldLink RX0 58 "UnsaidRound$Green" "childCount" "I", Cond.fieldLink RX0 28 "UnsaidRound$Green" "grips" "[I", Cond.fieldLink RX0 31 "UnsaidRound$Green" "rides" "[I", Cond.fieldLink RX0 34 "UnsaidRound$Green" "flings" "[I", Cond.methodLink RX3 51 yX3_takeWet, Cond.instanceMethod yX3_takeWet, Cond.selects RX3 yX3_takeWet yX3_takeWet, Cond.code yX3_takeWet cX3_takeWet 2 (some .boolean), Cond.fieldLink RX3 107 "UnsaidRound$Green" "wetParts" "I", Cond.methodLink RX3 56 yX3_takeDry, Cond.instanceMethod yX3_takeDry, Cond.selects RX3 yX3_takeDry yX3_takeDry, Cond.code yX3_takeDry cX3_takeDry 2 (some .boolean)]
def wsX3_takeItem_r6 : List Cond := [Cond.methodLink RX3 61 yX3_takeHeavy, Cond.instanceMethod yX3_takeHeavy, Cond.selects RX3 yX3_takeHeavy yX3_takeHeavy, Cond.code yX3_takeHeavy cX3_takeHeavy 2 (some .boolean), Cond.fieldLink RX3 110 "UnsaidRound$Green" "heaviness" "I"]
def wsX3_takeItem : List Cond := .code yX3_takeItem cX3_takeItem 3 (some .boolean) :: ((wsX3_takeItem_r1 ++ (wsX3_takeItem_r2 ++ (wsX3_takeItem_r3 ++ (wsX3_takeItem_r4 ++ (wsX3_takeItem_r5 ++ wsX3_takeItem_r6))))) ++ wsX30 ++ wsX00)
def wsX3_addItems_r1 : List Cond := [Cond.fieldLink RX3 15 "UnsaidRound$Tape" "behind" "I", Cond.fieldLink RX3 26 "UnsaidRound$Tape" "start" "I", Cond.fieldLink RX3 29 "UnsaidRound$Tape" "sort" "I", Cond.methodLink RX3 19 yX3_advance, Cond.instanceMethod yX3_advance, Cond.selects RX3 yX3_advance yX3_advance, Cond.initialized RX3, Cond.code yX3_advance cX3_advance 3 none, Cond.fieldLink RX3 126 "UnsaidRound$Tape" "length" "I", Cond.fieldLink RX3 89 "UnsaidRound$Tape" "number" "I", Cond.methodLink RX3 131 Lib.Math.min.name, Cond.static Lib.Math.min.name, Cond.initialized "java/lang/Math", Cond.code Lib.Math.min.name Lib.Math.min.code 2 (some .int), Cond.methodLink RX3 118 yX3_byteAt, Cond.instanceMethod yX3_byteAt, Cond.selects RX3 yX3_byteAt yX3_byteAt, Cond.code yX3_byteAt cX3_byteAt 2 (some .int), Cond.fieldLink RX3 11 "UnsaidRound$Tape" "bytes" "[I", Cond.methodLink RX3 128 yX3_sortOf, Cond.static yX3_sortOf, Cond.code yX3_sortOf cX3_sortOf 1 (some .int), Cond.methodLink RX3 22 yX3_takeItem, Cond.instanceMethod yX3_takeItem]
def wsX3_addItems_r2 : List Cond := [Cond.selects RX3 yX3_takeItem yX3_takeItem, Cond.code yX3_takeItem cX3_takeItem 3 (some .boolean), Cond.methodLink RX3 32 yX3_kindNamed, Cond.instanceMethod yX3_kindNamed, Cond.selects RX3 yX3_kindNamed yX3_kindNamed, Cond.code yX3_kindNamed cX3_kindNamed 1 (some .int), Cond.methodLink RX3 42 yX3_isWord, Cond.instanceMethod yX3_isWord, Cond.selects RX3 yX3_isWord yX3_isWord, Cond.code yX3_isWord cX3_isWord 3 (some .boolean), Cond.methodLink RX3 113 yJ0_length_8abf5, Cond.instanceMethod yJ0_length_8abf5, Cond.selects RJ0 yJ0_length_8abf5 yJ0_length_8abf5, Cond.initialized RJ0, Cond.code yJ0_length_8abf5 cJ0_length_8abf5 1 (some .int), Cond.fieldLink RJ0 9 "java/lang/String" "value" "[B", Cond.methodLink RJ0 335 yJ0_coder_7d493, Cond.instanceMethod yJ0_coder_7d493, Cond.selects RJ0 yJ0_coder_7d493 yJ0_coder_7d493, Cond.code yJ0_coder_7d493 cJ0_coder_7d493 1 (some .byte), Cond.fieldLink RJ0 38 "java/lang/String" "COMPACT_STRINGS" "Z", Cond.fieldLink RJ0 15 "java/lang/String" "coder" "B", Cond.methodLink RX3 122 yJ0_charAt_5068e, Cond.instanceMethod yJ0_charAt_5068e]
def wsX3_addItems_r3 : List Cond := [Cond.selects RJ0 yJ0_charAt_5068e yJ0_charAt_5068e, Cond.code yJ0_charAt_5068e cJ0_charAt_5068e 2 (some .char), Cond.methodLink RJ0 492 yJ0_isLatin1_aae02, Cond.instanceMethod yJ0_isLatin1_aae02, Cond.selects RJ0 yJ0_isLatin1_aae02 yJ0_isLatin1_aae02, Cond.code yJ0_isLatin1_aae02 cJ0_isLatin1_aae02 1 (some .boolean), Cond.methodLink RJ0 495 yJ1_charAt_3b067, Cond.static yJ1_charAt_3b067, Cond.initialized RJ1, Cond.code yJ1_charAt_3b067 cJ1_charAt_3b067 2 (some .char), Cond.methodLink RJ1 9 yJ0_checkIndex_df160, Cond.static yJ0_checkIndex_df160, Cond.code yJ0_checkIndex_df160 cJ0_checkIndex_df160 2 none, Cond.fieldLink RJ0 1053 "jdk/internal/util/Preconditions" "SIOOBE_FORMATTER" "Ljava/util/function/BiFunction;", Cond.methodLink RJ0 1059 yJ3_checkIndex_8e157, Cond.static yJ3_checkIndex_8e157, Cond.initialized RJ3, Cond.code yJ3_checkIndex_8e157 cJ3_checkIndex_8e157 3 (some .int), Cond.methodLink RJ0 498 yJ2_charAt_3b067, Cond.static yJ2_charAt_3b067, Cond.initialized RJ2, Cond.code yJ2_charAt_3b067 cJ2_charAt_3b067 2 (some .char), Cond.methodLink RJ2 67 yJ2_checkIndex_2214a, Cond.static yJ2_checkIndex_2214a]
def wsX3_addItems_r4 : List Cond := [Cond.code yJ2_checkIndex_2214a cJ2_checkIndex_2214a 2 none, Cond.methodLink RJ2 48 yJ2_length_9d52b, Cond.static yJ2_length_9d52b, Cond.code yJ2_length_9d52b cJ2_length_9d52b 1 (some .int), Cond.methodLink RJ2 414 yJ0_checkIndex_df160, Cond.methodLink RJ2 71 yJ2_getChar_3b067, Cond.static yJ2_getChar_3b067, Cond.code yJ2_getChar_3b067 cJ2_getChar_3b067 2 (some .char), Cond.fieldLink RJ2 44 "java/lang/StringUTF16" "$assertionsDisabled" "Z", Cond.fieldLink RJ2 59 "java/lang/StringUTF16" "HI_BYTE_SHIFT" "I", Cond.fieldLink RJ2 63 "java/lang/StringUTF16" "LO_BYTE_SHIFT" "I", Cond.methodLink RX3 36 yX3_takeMother, Cond.instanceMethod yX3_takeMother, Cond.selects RX3 yX3_takeMother yX3_takeMother, Cond.code yX3_takeMother cX3_takeMother 5 (some .boolean), Cond.fieldLink RX3 78 "UnsaidRound$Green" "motherCount" "I", Cond.methodLink RX3 85 yX3_takeNumber, Cond.instanceMethod yX3_takeNumber, Cond.selects RX3 yX3_takeNumber yX3_takeNumber, Cond.code yX3_takeNumber cX3_takeNumber 3 (some .boolean), Cond.methodLink RX3 94 yX0_addMother, Cond.instanceMethod yX0_addMother, Cond.selects RX0 yX0_addMother yX0_addMother, Cond.initialized RX0]
def wsX3_addItems_r5 : List Cond := [Cond.code yX0_addMother cX0_addMother 5 (some .int), Cond.fieldLink RX0 49 "UnsaidRound$Green" "motherCount" "I", Cond.fieldLink RX0 15 "UnsaidRound$Green" "kinds" "[I", Cond.fieldLink RX0 19 "UnsaidRound$Green" "outs" "[I", Cond.fieldLink RX0 22 "UnsaidRound$Green" "secrets" "[I", Cond.fieldLink RX0 25 "UnsaidRound$Green" "silents" "[I", Cond.methodLink RX3 46 yX3_takeChild, Cond.instanceMethod yX3_takeChild, Cond.selects RX3 yX3_takeChild yX3_takeChild, Cond.code yX3_takeChild cX3_takeChild 4 (some .boolean), Cond.fieldLink RX3 98 "UnsaidRound$Green" "childCount" "I", Cond.methodLink RX3 103 yX0_addChild, Cond.instanceMethod yX0_addChild, Cond.selects RX0 yX0_addChild yX0_addChild, Cond.code yX0_addChild cX0_addChild 4 (some .int), Cond.fieldLink RX0 58 "UnsaidRound$Green" "childCount" "I", Cond.fieldLink RX0 28 "UnsaidRound$Green" "grips" "[I", Cond.fieldLink RX0 31 "UnsaidRound$Green" "rides" "[I", Cond.fieldLink RX0 34 "UnsaidRound$Green" "flings" "[I", Cond.methodLink RX3 51 yX3_takeWet, Cond.instanceMethod yX3_takeWet, Cond.selects RX3 yX3_takeWet yX3_takeWet, Cond.code yX3_takeWet cX3_takeWet 2 (some .boolean), Cond.fieldLink RX3 107 "UnsaidRound$Green" "wetParts" "I"]
def wsX3_addItems_r6 : List Cond := [Cond.methodLink RX3 56 yX3_takeDry, Cond.instanceMethod yX3_takeDry, Cond.selects RX3 yX3_takeDry yX3_takeDry, Cond.code yX3_takeDry cX3_takeDry 2 (some .boolean), Cond.methodLink RX3 61 yX3_takeHeavy, Cond.instanceMethod yX3_takeHeavy, Cond.selects RX3 yX3_takeHeavy yX3_takeHeavy, Cond.code yX3_takeHeavy cX3_takeHeavy 2 (some .boolean), Cond.fieldLink RX3 110 "UnsaidRound$Green" "heaviness" "I"]
def wsX3_addItems : List Cond := .code yX3_addItems cX3_addItems 3 (some .int) :: ((wsX3_addItems_r1 ++ (wsX3_addItems_r2 ++ (wsX3_addItems_r3 ++ (wsX3_addItems_r4 ++ (wsX3_addItems_r5 ++ wsX3_addItems_r6))))) ++ wsX30 ++ wsX00)
def wsX4_init_r1 : List Cond := [Cond.methodLink RX4 1 objectInit, Cond.instanceMethod objectInit, Cond.code objectInit ⟨#[0xb1]⟩ 1 none, Cond.classLink RX4 7 RX0, Cond.instantiable RX0 14, Cond.initialized RX0, Cond.fieldLink RX4 10 "UnsaidRound" "live" "LUnsaidRound$Green;", Cond.fieldLink RX4 16 "UnsaidRound" "trial" "LUnsaidRound$Green;", Cond.fieldLink RX4 19 "UnsaidRound" "kept" "LUnsaidRound$Green;", Cond.classLink RX4 22 RX3, Cond.instantiable RX3 6, Cond.initialized RX3, Cond.fieldLink RX4 25 "UnsaidRound" "tape" "LUnsaidRound$Tape;", Cond.classLink RX4 29 RX2, Cond.instantiable RX2 3, Cond.initialized RX2, Cond.fieldLink RX4 32 "UnsaidRound" "sheets" "LUnsaidRound$Sheets;", Cond.arrayClass .int, Cond.fieldLink RX4 36 "UnsaidRound" "findings" "[I", Cond.instanceMethod yX0_init, Cond.code yX0_init cX0_init 1 none, Cond.methodLink RX0 3 objectInit, Cond.fieldLink RX0 9 "UnsaidRound$Green" "heaviness" "I", Cond.fieldLink RX0 15 "UnsaidRound$Green" "kinds" "[I"]
def wsX4_init_r2 : List Cond := [Cond.fieldLink RX0 19 "UnsaidRound$Green" "outs" "[I", Cond.fieldLink RX0 22 "UnsaidRound$Green" "secrets" "[I", Cond.fieldLink RX0 25 "UnsaidRound$Green" "silents" "[I", Cond.fieldLink RX0 28 "UnsaidRound$Green" "grips" "[I", Cond.fieldLink RX0 31 "UnsaidRound$Green" "rides" "[I", Cond.fieldLink RX0 34 "UnsaidRound$Green" "flings" "[I", Cond.instanceMethod yX3_init, Cond.code yX3_init cX3_init 1 none, Cond.methodLink RX3 3 objectInit, Cond.fieldLink RX3 11 "UnsaidRound$Tape" "bytes" "[I", Cond.instanceMethod yX2_init, Cond.code yX2_init cX2_init 1 none, Cond.methodLink RX2 1 objectInit, Cond.fieldLink RX2 9 "UnsaidRound$Sheets" "widths" "[I", Cond.fieldLink RX2 13 "UnsaidRound$Sheets" "lengths" "[I", Cond.arrayClass .long, Cond.fieldLink RX2 16 "UnsaidRound$Sheets" "numbers" "[J"]
def wsX4_init : List Cond := .code yX4_init cX4_init 1 none :: ((wsX4_init_r1 ++ wsX4_init_r2) ++ wsX00 ++ wsX40 ++ wsX30 ++ wsX20)
def wsX4_tell : List Cond := .code yX4_tell cX4_tell 3 (some .int) :: ([.constant RX4 47 (-1000000001), .fieldLink RX4 36 "UnsaidRound" "findings" "[I"] ++ wsX40)
def wsX4_iron : List Cond := .code yX4_iron cX4_iron 4 (some .int) :: ([.fieldLink RX4 10 "UnsaidRound" "live" "LUnsaidRound$Green;", .fieldLink RX4 40 "UnsaidRound$Green" "heaviness" "I", .fieldLink RX4 44 "UnsaidRound$Green" "speed" "I", .constant RX4 47 (-1000000001), .methodLink RX4 48 yX4_tell, .instanceMethod yX4_tell, .selects RX4 yX4_tell yX4_tell, .initialized RX4, .code yX4_tell cX4_tell 3 (some .int), .fieldLink RX4 36 "UnsaidRound" "findings" "[I"] ++ wsX40 ++ wsX00)
def wsX4_rain : List Cond := .code yX4_rain cX4_rain 3 (some .int) :: ([.constant RX4 47 (-1000000001), .fieldLink RX4 10 "UnsaidRound" "live" "LUnsaidRound$Green;", .fieldLink RX4 52 "UnsaidRound$Green" "wetParts" "I", .methodLink RX4 48 yX4_tell, .instanceMethod yX4_tell, .selects RX4 yX4_tell yX4_tell, .initialized RX4, .code yX4_tell cX4_tell 3 (some .int), .fieldLink RX4 36 "UnsaidRound" "findings" "[I"] ++ wsX40 ++ wsX00)
def wsX4_now_r1 : List Cond := [Cond.fieldLink RX4 10 "UnsaidRound" "live" "LUnsaidRound$Green;", Cond.fieldLink RX4 55 "UnsaidRound$Green" "minute" "I", Cond.fieldLink RX4 44 "UnsaidRound$Green" "speed" "I", Cond.fieldLink RX4 69 "UnsaidRound$Green" "turned" "I", Cond.constant RX4 47 (-1000000001), Cond.methodLink RX4 58 yX0_minuteOfDay, Cond.instanceMethod yX0_minuteOfDay, Cond.selects RX0 yX0_minuteOfDay yX0_minuteOfDay, Cond.initialized RX0, Cond.code yX0_minuteOfDay cX0_minuteOfDay 1 (some .int), Cond.fieldLink RX0 37 "UnsaidRound$Green" "minute" "I", Cond.methodLink RX4 62 yX0_isNight, Cond.instanceMethod yX0_isNight, Cond.selects RX0 yX0_isNight yX0_isNight, Cond.code yX0_isNight cX0_isNight 1 (some .boolean), Cond.methodLink RX0 61 yX0_minuteOfDay, Cond.methodLink RX4 66 yX0_isWet, Cond.instanceMethod yX0_isWet, Cond.selects RX0 yX0_isWet yX0_isWet, Cond.code yX0_isWet cX0_isWet 1 (some .boolean), Cond.fieldLink RX0 40 "UnsaidRound$Green" "wetParts" "I", Cond.methodLink RX4 72 yX0_weightNow, Cond.instanceMethod yX0_weightNow, Cond.selects RX0 yX0_weightNow yX0_weightNow]
def wsX4_now_r2 : List Cond := [Cond.code yX0_weightNow cX0_weightNow 1 (some .int), Cond.fieldLink RX0 9 "UnsaidRound$Green" "heaviness" "I", Cond.methodLink RX0 65 yX0_onCount, Cond.instanceMethod yX0_onCount, Cond.selects RX0 yX0_onCount yX0_onCount, Cond.code yX0_onCount cX0_onCount 3 (some .int), Cond.fieldLink RX0 58 "UnsaidRound$Green" "childCount" "I", Cond.fieldLink RX0 31 "UnsaidRound$Green" "rides" "[I", Cond.methodLink RX4 75 yX0_pushNow, Cond.instanceMethod yX0_pushNow, Cond.selects RX0 yX0_pushNow yX0_pushNow, Cond.code yX0_pushNow cX0_pushNow 5 (some .int), Cond.fieldLink RX0 49 "UnsaidRound$Green" "motherCount" "I", Cond.fieldLink RX0 19 "UnsaidRound$Green" "outs" "[I", Cond.methodLink RX0 78 yX0_isWet, Cond.methodLink RX0 82 yX0_outCount, Cond.instanceMethod yX0_outCount, Cond.selects RX0 yX0_outCount yX0_outCount, Cond.code yX0_outCount cX0_outCount 3 (some .int), Cond.methodLink RX0 85 yX0_isNight, Cond.methodLink RX0 88 yX0_keepsNow, Cond.instanceMethod yX0_keepsNow, Cond.selects RX0 yX0_keepsNow yX0_keepsNow, Cond.code yX0_keepsNow cX0_keepsNow 4 (some .int)]
def wsX4_now_r3 : List Cond := [Cond.fieldLink RX0 15 "UnsaidRound$Green" "kinds" "[I", Cond.fieldLink RX0 22 "UnsaidRound$Green" "secrets" "[I", Cond.fieldLink RX0 25 "UnsaidRound$Green" "silents" "[I", Cond.methodLink RX0 68 yX1_keeps, Cond.static yX1_keeps, Cond.initialized RX1, Cond.code yX1_keeps cX1_keeps 8 (some .int), Cond.methodLink RX4 78 yX0_outSet, Cond.instanceMethod yX0_outSet, Cond.selects RX0 yX0_outSet yX0_outSet, Cond.code yX0_outSet cX0_outSet 3 (some .int), Cond.methodLink RX4 81 yX0_onSet, Cond.instanceMethod yX0_onSet, Cond.selects RX0 yX0_onSet yX0_onSet, Cond.code yX0_onSet cX0_onSet 3 (some .int), Cond.methodLink RX4 48 yX4_tell, Cond.instanceMethod yX4_tell, Cond.selects RX4 yX4_tell yX4_tell, Cond.initialized RX4, Cond.code yX4_tell cX4_tell 3 (some .int), Cond.fieldLink RX4 36 "UnsaidRound" "findings" "[I"]
def wsX4_now : List Cond := .code yX4_now cX4_now 2 (some .int) :: ((wsX4_now_r1 ++ (wsX4_now_r2 ++ wsX4_now_r3)) ++ wsX40 ++ wsX00)
def wsX4_mother : List Cond := .code yX4_mother cX4_mother 2 (some .int) :: ([.constant RX4 47 (-1000000001), .fieldLink RX4 10 "UnsaidRound" "live" "LUnsaidRound$Green;", .fieldLink RX4 90 "UnsaidRound$Green" "motherCount" "I", .constant RX4 93 (-1000000002), .methodLink RX4 84 yX1_isKind, .static yX1_isKind, .initialized RX1, .code yX1_isKind cX1_isKind 1 (some .boolean), .methodLink RX4 48 yX4_tell, .instanceMethod yX4_tell, .selects RX4 yX4_tell yX4_tell, .initialized RX4, .code yX4_tell cX4_tell 3 (some .int), .fieldLink RX4 36 "UnsaidRound" "findings" "[I", .methodLink RX4 94 yX0_addMother, .instanceMethod yX0_addMother, .selects RX0 yX0_addMother yX0_addMother, .initialized RX0, .code yX0_addMother cX0_addMother 5 (some .int), .fieldLink RX0 49 "UnsaidRound$Green" "motherCount" "I", .fieldLink RX0 15 "UnsaidRound$Green" "kinds" "[I", .fieldLink RX0 19 "UnsaidRound$Green" "outs" "[I", .fieldLink RX0 22 "UnsaidRound$Green" "secrets" "[I", .fieldLink RX0 25 "UnsaidRound$Green" "silents" "[I"] ++ wsX40 ++ wsX00)
def wsX4_of_r1 : List Cond := [Cond.fieldLink RX4 10 "UnsaidRound" "live" "LUnsaidRound$Green;", Cond.constant RX4 47 (-1000000001), Cond.fieldLink RX4 101 "UnsaidRound$Green" "kinds" "[I", Cond.fieldLink RX4 104 "UnsaidRound$Green" "outs" "[I", Cond.fieldLink RX4 107 "UnsaidRound$Green" "secrets" "[I", Cond.fieldLink RX4 110 "UnsaidRound$Green" "silents" "[I", Cond.methodLink RX4 98 yX0_hasMother, Cond.instanceMethod yX0_hasMother, Cond.selects RX0 yX0_hasMother yX0_hasMother, Cond.initialized RX0, Cond.code yX0_hasMother cX0_hasMother 2 (some .boolean), Cond.fieldLink RX0 49 "UnsaidRound$Green" "motherCount" "I", Cond.methodLink RX4 48 yX4_tell, Cond.instanceMethod yX4_tell, Cond.selects RX4 yX4_tell yX4_tell, Cond.initialized RX4, Cond.code yX4_tell cX4_tell 3 (some .int), Cond.fieldLink RX4 36 "UnsaidRound" "findings" "[I", Cond.methodLink RX4 113 yX0_outCount, Cond.instanceMethod yX0_outCount, Cond.selects RX0 yX0_outCount yX0_outCount, Cond.code yX0_outCount cX0_outCount 3 (some .int), Cond.fieldLink RX0 19 "UnsaidRound$Green" "outs" "[I", Cond.methodLink RX4 62 yX0_isNight]
def wsX4_of_r2 : List Cond := [Cond.instanceMethod yX0_isNight, Cond.selects RX0 yX0_isNight yX0_isNight, Cond.code yX0_isNight cX0_isNight 1 (some .boolean), Cond.methodLink RX0 61 yX0_minuteOfDay, Cond.instanceMethod yX0_minuteOfDay, Cond.selects RX0 yX0_minuteOfDay yX0_minuteOfDay, Cond.code yX0_minuteOfDay cX0_minuteOfDay 1 (some .int), Cond.fieldLink RX0 37 "UnsaidRound$Green" "minute" "I", Cond.methodLink RX4 116 yX0_keepsNow, Cond.instanceMethod yX0_keepsNow, Cond.selects RX0 yX0_keepsNow yX0_keepsNow, Cond.code yX0_keepsNow cX0_keepsNow 4 (some .int), Cond.fieldLink RX0 15 "UnsaidRound$Green" "kinds" "[I", Cond.fieldLink RX0 22 "UnsaidRound$Green" "secrets" "[I", Cond.fieldLink RX0 25 "UnsaidRound$Green" "silents" "[I", Cond.methodLink RX0 68 yX1_keeps, Cond.static yX1_keeps, Cond.initialized RX1, Cond.code yX1_keeps cX1_keeps 8 (some .int), Cond.methodLink RX4 120 yX0_speaksNow, Cond.instanceMethod yX0_speaksNow, Cond.selects RX0 yX0_speaksNow yX0_speaksNow, Cond.code yX0_speaksNow cX0_speaksNow 4 (some .boolean), Cond.fieldLink RX0 43 "UnsaidRound$Green" "speed" "I"]
def wsX4_of_r3 : List Cond := [Cond.methodLink RX0 74 yX1_speaks, Cond.static yX1_speaks, Cond.code yX1_speaks cX1_speaks 7 (some .boolean), Cond.methodLink RX4 124 yX1_tells, Cond.static yX1_tells, Cond.code yX1_tells cX1_tells 4 (some .int)]
def wsX4_of : List Cond := .code yX4_of cX4_of 3 (some .int) :: ((wsX4_of_r1 ++ (wsX4_of_r2 ++ wsX4_of_r3)) ++ wsX40 ++ wsX00)
def wsX4_set : List Cond := .code yX4_set cX4_set 5 (some .int) :: ([.fieldLink RX4 10 "UnsaidRound" "live" "LUnsaidRound$Green;", .constant RX4 47 (-1000000001), .fieldLink RX4 107 "UnsaidRound$Green" "secrets" "[I", .fieldLink RX4 110 "UnsaidRound$Green" "silents" "[I", .methodLink RX4 98 yX0_hasMother, .instanceMethod yX0_hasMother, .selects RX0 yX0_hasMother yX0_hasMother, .initialized RX0, .code yX0_hasMother cX0_hasMother 2 (some .boolean), .fieldLink RX0 49 "UnsaidRound$Green" "motherCount" "I", .methodLink RX4 48 yX4_tell, .instanceMethod yX4_tell, .selects RX4 yX4_tell yX4_tell, .initialized RX4, .code yX4_tell cX4_tell 3 (some .int), .fieldLink RX4 36 "UnsaidRound" "findings" "[I"] ++ wsX40 ++ wsX00)
def wsX4_out : List Cond := .code yX4_out cX4_out 4 (some .int) :: ([.fieldLink RX4 10 "UnsaidRound" "live" "LUnsaidRound$Green;", .constant RX4 47 (-1000000001), .fieldLink RX4 104 "UnsaidRound$Green" "outs" "[I", .methodLink RX4 98 yX0_hasMother, .instanceMethod yX0_hasMother, .selects RX0 yX0_hasMother yX0_hasMother, .initialized RX0, .code yX0_hasMother cX0_hasMother 2 (some .boolean), .fieldLink RX0 49 "UnsaidRound$Green" "motherCount" "I", .methodLink RX4 48 yX4_tell, .instanceMethod yX4_tell, .selects RX4 yX4_tell yX4_tell, .initialized RX4, .code yX4_tell cX4_tell 3 (some .int), .fieldLink RX4 36 "UnsaidRound" "findings" "[I", .methodLink RX4 127 yX0_moveMother, .instanceMethod yX0_moveMother, .selects RX0 yX0_moveMother yX0_moveMother, .code yX0_moveMother cX0_moveMother 3 none, .fieldLink RX0 19 "UnsaidRound$Green" "outs" "[I", .fieldLink RX0 25 "UnsaidRound$Green" "silents" "[I"] ++ wsX40 ++ wsX00)
def wsX4_turn : List Cond := .code yX4_turn cX4_turn 4 (some .int) :: ([.fieldLink RX4 10 "UnsaidRound" "live" "LUnsaidRound$Green;", .constant RX4 47 (-1000000001), .fieldLink RX4 101 "UnsaidRound$Green" "kinds" "[I", .methodLink RX4 98 yX0_hasMother, .instanceMethod yX0_hasMother, .selects RX0 yX0_hasMother yX0_hasMother, .initialized RX0, .code yX0_hasMother cX0_hasMother 2 (some .boolean), .fieldLink RX0 49 "UnsaidRound$Green" "motherCount" "I", .methodLink RX4 84 yX1_isKind, .static yX1_isKind, .initialized RX1, .code yX1_isKind cX1_isKind 1 (some .boolean), .methodLink RX4 48 yX4_tell, .instanceMethod yX4_tell, .selects RX4 yX4_tell yX4_tell, .initialized RX4, .code yX4_tell cX4_tell 3 (some .int), .fieldLink RX4 36 "UnsaidRound" "findings" "[I"] ++ wsX40 ++ wsX00)
def wsX4_as_r1 : List Cond := [Cond.fieldLink RX4 10 "UnsaidRound" "live" "LUnsaidRound$Green;", Cond.constant RX4 47 (-1000000001), Cond.fieldLink RX4 101 "UnsaidRound$Green" "kinds" "[I", Cond.constant RX4 135 (-1000000003), Cond.fieldLink RX4 107 "UnsaidRound$Green" "secrets" "[I", Cond.methodLink RX4 98 yX0_hasMother, Cond.instanceMethod yX0_hasMother, Cond.selects RX0 yX0_hasMother yX0_hasMother, Cond.initialized RX0, Cond.code yX0_hasMother cX0_hasMother 2 (some .boolean), Cond.fieldLink RX0 49 "UnsaidRound$Green" "motherCount" "I", Cond.methodLink RX4 84 yX1_isKind, Cond.static yX1_isKind, Cond.initialized RX1, Cond.code yX1_isKind cX1_isKind 1 (some .boolean), Cond.methodLink RX4 48 yX4_tell, Cond.instanceMethod yX4_tell, Cond.selects RX4 yX4_tell yX4_tell, Cond.initialized RX4, Cond.code yX4_tell cX4_tell 3 (some .int), Cond.fieldLink RX4 36 "UnsaidRound" "findings" "[I", Cond.methodLink RX4 131 yX1_isUnder, Cond.static yX1_isUnder, Cond.code yX1_isUnder cX1_isUnder 2 (some .boolean)]
def wsX4_as_r2 : List Cond := [Cond.methodLink RX1 9 yX1_kindAbove, Cond.static yX1_kindAbove, Cond.code yX1_kindAbove cX1_kindAbove 1 (some .int)]
def wsX4_as : List Cond := .code yX4_as cX4_as 3 (some .int) :: ((wsX4_as_r1 ++ wsX4_as_r2) ++ wsX40 ++ wsX00)
def wsX4_child : List Cond := .code yX4_child cX4_child 2 (some .int) :: ([.constant RX4 47 (-1000000001), .fieldLink RX4 10 "UnsaidRound" "live" "LUnsaidRound$Green;", .fieldLink RX4 136 "UnsaidRound$Green" "childCount" "I", .constant RX4 93 (-1000000002), .methodLink RX4 48 yX4_tell, .instanceMethod yX4_tell, .selects RX4 yX4_tell yX4_tell, .initialized RX4, .code yX4_tell cX4_tell 3 (some .int), .fieldLink RX4 36 "UnsaidRound" "findings" "[I", .methodLink RX4 139 yX0_addChild, .instanceMethod yX0_addChild, .selects RX0 yX0_addChild yX0_addChild, .initialized RX0, .code yX0_addChild cX0_addChild 4 (some .int), .fieldLink RX0 58 "UnsaidRound$Green" "childCount" "I", .fieldLink RX0 28 "UnsaidRound$Green" "grips" "[I", .fieldLink RX0 31 "UnsaidRound$Green" "rides" "[I", .fieldLink RX0 34 "UnsaidRound$Green" "flings" "[I"] ++ wsX40 ++ wsX00)
def wsX4_childOf : List Cond := .code yX4_childOf cX4_childOf 3 (some .int) :: ([.fieldLink RX4 10 "UnsaidRound" "live" "LUnsaidRound$Green;", .constant RX4 47 (-1000000001), .fieldLink RX4 146 "UnsaidRound$Green" "grips" "[I", .fieldLink RX4 149 "UnsaidRound$Green" "rides" "[I", .fieldLink RX4 152 "UnsaidRound$Green" "flings" "[I", .methodLink RX4 143 yX0_hasChild, .instanceMethod yX0_hasChild, .selects RX0 yX0_hasChild yX0_hasChild, .initialized RX0, .code yX0_hasChild cX0_hasChild 2 (some .boolean), .fieldLink RX0 58 "UnsaidRound$Green" "childCount" "I", .methodLink RX4 48 yX4_tell, .instanceMethod yX4_tell, .selects RX4 yX4_tell yX4_tell, .initialized RX4, .code yX4_tell cX4_tell 3 (some .int), .fieldLink RX4 36 "UnsaidRound" "findings" "[I"] ++ wsX40 ++ wsX00)
def wsX4_grip : List Cond := .code yX4_grip cX4_grip 4 (some .int) :: ([.fieldLink RX4 10 "UnsaidRound" "live" "LUnsaidRound$Green;", .constant RX4 47 (-1000000001), .fieldLink RX4 146 "UnsaidRound$Green" "grips" "[I", .methodLink RX4 143 yX0_hasChild, .instanceMethod yX0_hasChild, .selects RX0 yX0_hasChild yX0_hasChild, .initialized RX0, .code yX0_hasChild cX0_hasChild 2 (some .boolean), .fieldLink RX0 58 "UnsaidRound$Green" "childCount" "I", .methodLink RX4 48 yX4_tell, .instanceMethod yX4_tell, .selects RX4 yX4_tell yX4_tell, .initialized RX4, .code yX4_tell cX4_tell 3 (some .int), .fieldLink RX4 36 "UnsaidRound" "findings" "[I"] ++ wsX40 ++ wsX00)
def wsX4_ride : List Cond := .code yX4_ride cX4_ride 3 (some .int) :: ([.fieldLink RX4 10 "UnsaidRound" "live" "LUnsaidRound$Green;", .constant RX4 47 (-1000000001), .fieldLink RX4 149 "UnsaidRound$Green" "rides" "[I", .methodLink RX4 143 yX0_hasChild, .instanceMethod yX0_hasChild, .selects RX0 yX0_hasChild yX0_hasChild, .initialized RX0, .code yX0_hasChild cX0_hasChild 2 (some .boolean), .fieldLink RX0 58 "UnsaidRound$Green" "childCount" "I", .methodLink RX4 48 yX4_tell, .instanceMethod yX4_tell, .selects RX4 yX4_tell yX4_tell, .initialized RX4, .code yX4_tell cX4_tell 3 (some .int), .fieldLink RX4 36 "UnsaidRound" "findings" "[I", .methodLink RX4 155 yX0_onCount, .instanceMethod yX0_onCount, .selects RX0 yX0_onCount yX0_onCount, .code yX0_onCount cX0_onCount 3 (some .int), .fieldLink RX0 31 "UnsaidRound$Green" "rides" "[I"] ++ wsX40 ++ wsX00)
def wsX4_minutes_r1 : List Cond := [Cond.constant RX4 47 (-1000000001), Cond.fieldLink RX4 10 "UnsaidRound" "live" "LUnsaidRound$Green;", Cond.fieldLink RX4 55 "UnsaidRound$Green" "minute" "I", Cond.constant RX4 158 (99999), Cond.constant RX4 159 (-1000000005), Cond.fieldLink RX4 44 "UnsaidRound$Green" "speed" "I", Cond.methodLink RX4 48 yX4_tell, Cond.instanceMethod yX4_tell, Cond.selects RX4 yX4_tell yX4_tell, Cond.initialized RX4, Cond.code yX4_tell cX4_tell 3 (some .int), Cond.fieldLink RX4 36 "UnsaidRound" "findings" "[I", Cond.methodLink RX4 160 yX0_passMinutes, Cond.instanceMethod yX0_passMinutes, Cond.selects RX0 yX0_passMinutes yX0_passMinutes, Cond.initialized RX0, Cond.code yX0_passMinutes cX0_passMinutes 3 none, Cond.methodLink RX0 92 yX0_passMinute, Cond.instanceMethod yX0_passMinute, Cond.selects RX0 yX0_passMinute yX0_passMinute, Cond.code yX0_passMinute cX0_passMinute 5 none, Cond.fieldLink RX0 43 "UnsaidRound$Green" "speed" "I", Cond.methodLink RX0 101 Lib.Math.max.name, Cond.static Lib.Math.max.name]
def wsX4_minutes_r2 : List Cond := [Cond.initialized "java/lang/Math", Cond.code Lib.Math.max.name Lib.Math.max.code 2 (some .int), Cond.methodLink RX0 107 Lib.Math.min.name, Cond.static Lib.Math.min.name, Cond.code Lib.Math.min.name Lib.Math.min.code 2 (some .int), Cond.constant RX0 110 (999999), Cond.fieldLink RX0 46 "UnsaidRound$Green" "turned" "I", Cond.fieldLink RX0 37 "UnsaidRound$Green" "minute" "I", Cond.methodLink RX0 95 yX0_pushNow, Cond.instanceMethod yX0_pushNow, Cond.selects RX0 yX0_pushNow yX0_pushNow, Cond.code yX0_pushNow cX0_pushNow 5 (some .int), Cond.fieldLink RX0 49 "UnsaidRound$Green" "motherCount" "I", Cond.fieldLink RX0 19 "UnsaidRound$Green" "outs" "[I", Cond.methodLink RX0 78 yX0_isWet, Cond.instanceMethod yX0_isWet, Cond.selects RX0 yX0_isWet yX0_isWet, Cond.code yX0_isWet cX0_isWet 1 (some .boolean), Cond.fieldLink RX0 40 "UnsaidRound$Green" "wetParts" "I", Cond.methodLink RX0 61 yX0_minuteOfDay, Cond.instanceMethod yX0_minuteOfDay, Cond.selects RX0 yX0_minuteOfDay yX0_minuteOfDay, Cond.code yX0_minuteOfDay cX0_minuteOfDay 1 (some .int), Cond.methodLink RX0 82 yX0_outCount]
def wsX4_minutes_r3 : List Cond := [Cond.instanceMethod yX0_outCount, Cond.selects RX0 yX0_outCount yX0_outCount, Cond.code yX0_outCount cX0_outCount 3 (some .int), Cond.methodLink RX0 85 yX0_isNight, Cond.instanceMethod yX0_isNight, Cond.selects RX0 yX0_isNight yX0_isNight, Cond.code yX0_isNight cX0_isNight 1 (some .boolean), Cond.methodLink RX0 88 yX0_keepsNow, Cond.instanceMethod yX0_keepsNow, Cond.selects RX0 yX0_keepsNow yX0_keepsNow, Cond.code yX0_keepsNow cX0_keepsNow 4 (some .int), Cond.fieldLink RX0 15 "UnsaidRound$Green" "kinds" "[I", Cond.fieldLink RX0 22 "UnsaidRound$Green" "secrets" "[I", Cond.fieldLink RX0 25 "UnsaidRound$Green" "silents" "[I", Cond.methodLink RX0 68 yX1_keeps, Cond.static yX1_keeps, Cond.initialized RX1, Cond.code yX1_keeps cX1_keeps 8 (some .int), Cond.methodLink RX0 98 yX0_weightNow, Cond.instanceMethod yX0_weightNow, Cond.selects RX0 yX0_weightNow yX0_weightNow, Cond.code yX0_weightNow cX0_weightNow 1 (some .int), Cond.fieldLink RX0 9 "UnsaidRound$Green" "heaviness" "I", Cond.methodLink RX0 65 yX0_onCount]
def wsX4_minutes_r4 : List Cond := [Cond.instanceMethod yX0_onCount, Cond.selects RX0 yX0_onCount yX0_onCount, Cond.code yX0_onCount cX0_onCount 3 (some .int), Cond.fieldLink RX0 58 "UnsaidRound$Green" "childCount" "I", Cond.fieldLink RX0 31 "UnsaidRound$Green" "rides" "[I", Cond.methodLink RX0 111 yX0_tryGrips, Cond.instanceMethod yX0_tryGrips, Cond.selects RX0 yX0_tryGrips yX0_tryGrips, Cond.code yX0_tryGrips cX0_tryGrips 2 none, Cond.fieldLink RX0 28 "UnsaidRound$Green" "grips" "[I", Cond.fieldLink RX0 34 "UnsaidRound$Green" "flings" "[I", Cond.methodLink RX0 114 yX0_letSpeak, Cond.instanceMethod yX0_letSpeak, Cond.selects RX0 yX0_letSpeak yX0_letSpeak, Cond.code yX0_letSpeak cX0_letSpeak 4 none, Cond.methodLink RX0 117 yX0_speaksNow, Cond.instanceMethod yX0_speaksNow, Cond.selects RX0 yX0_speaksNow yX0_speaksNow, Cond.code yX0_speaksNow cX0_speaksNow 4 (some .boolean), Cond.methodLink RX0 74 yX1_speaks, Cond.static yX1_speaks, Cond.code yX1_speaks cX1_speaks 7 (some .boolean), Cond.methodLink RX0 121 yX1_tells, Cond.static yX1_tells]
def wsX4_minutes_r5 : List Cond := [Cond.code yX1_tells cX1_tells 4 (some .int)]
def wsX4_minutes : List Cond := .code yX4_minutes cX4_minutes 2 (some .int) :: ((wsX4_minutes_r1 ++ (wsX4_minutes_r2 ++ (wsX4_minutes_r3 ++ (wsX4_minutes_r4 ++ wsX4_minutes_r5)))) ++ wsX40 ++ wsX00)
def wsX4_on_r1 : List Cond := [Cond.constant RX4 47 (-1000000001), Cond.fieldLink RX4 16 "UnsaidRound" "trial" "LUnsaidRound$Green;", Cond.fieldLink RX4 10 "UnsaidRound" "live" "LUnsaidRound$Green;", Cond.fieldLink RX4 44 "UnsaidRound$Green" "speed" "I", Cond.fieldLink RX4 69 "UnsaidRound$Green" "turned" "I", Cond.methodLink RX4 48 yX4_tell, Cond.instanceMethod yX4_tell, Cond.selects RX4 yX4_tell yX4_tell, Cond.initialized RX4, Cond.code yX4_tell cX4_tell 3 (some .int), Cond.fieldLink RX4 36 "UnsaidRound" "findings" "[I", Cond.methodLink RX4 164 yX0_become, Cond.instanceMethod yX0_become, Cond.selects RX0 yX0_become yX0_become, Cond.initialized RX0, Cond.code yX0_become cX0_become 2 none, Cond.fieldLink RX0 37 "UnsaidRound$Green" "minute" "I", Cond.fieldLink RX0 40 "UnsaidRound$Green" "wetParts" "I", Cond.fieldLink RX0 9 "UnsaidRound$Green" "heaviness" "I", Cond.fieldLink RX0 43 "UnsaidRound$Green" "speed" "I", Cond.fieldLink RX0 46 "UnsaidRound$Green" "turned" "I", Cond.fieldLink RX0 49 "UnsaidRound$Green" "motherCount" "I", Cond.fieldLink RX0 15 "UnsaidRound$Green" "kinds" "[I", Cond.methodLink RX0 52 arraycopyName]
def wsX4_on_r2 : List Cond := [Cond.native arraycopyName, Cond.static arraycopyName, Cond.initialized "java/lang/System", Cond.fieldLink RX0 19 "UnsaidRound$Green" "outs" "[I", Cond.fieldLink RX0 22 "UnsaidRound$Green" "secrets" "[I", Cond.fieldLink RX0 25 "UnsaidRound$Green" "silents" "[I", Cond.fieldLink RX0 58 "UnsaidRound$Green" "childCount" "I", Cond.fieldLink RX0 28 "UnsaidRound$Green" "grips" "[I", Cond.fieldLink RX0 31 "UnsaidRound$Green" "rides" "[I", Cond.fieldLink RX0 34 "UnsaidRound$Green" "flings" "[I", Cond.methodLink RX4 160 yX0_passMinutes, Cond.instanceMethod yX0_passMinutes, Cond.selects RX0 yX0_passMinutes yX0_passMinutes, Cond.code yX0_passMinutes cX0_passMinutes 3 none, Cond.methodLink RX0 92 yX0_passMinute, Cond.instanceMethod yX0_passMinute, Cond.selects RX0 yX0_passMinute yX0_passMinute, Cond.code yX0_passMinute cX0_passMinute 5 none, Cond.methodLink RX0 101 Lib.Math.max.name, Cond.static Lib.Math.max.name, Cond.initialized "java/lang/Math", Cond.code Lib.Math.max.name Lib.Math.max.code 2 (some .int), Cond.methodLink RX0 107 Lib.Math.min.name, Cond.static Lib.Math.min.name]
def wsX4_on_r3 : List Cond := [Cond.code Lib.Math.min.name Lib.Math.min.code 2 (some .int), Cond.constant RX0 110 (999999), Cond.methodLink RX0 95 yX0_pushNow, Cond.instanceMethod yX0_pushNow, Cond.selects RX0 yX0_pushNow yX0_pushNow, Cond.code yX0_pushNow cX0_pushNow 5 (some .int), Cond.methodLink RX0 78 yX0_isWet, Cond.instanceMethod yX0_isWet, Cond.selects RX0 yX0_isWet yX0_isWet, Cond.code yX0_isWet cX0_isWet 1 (some .boolean), Cond.methodLink RX0 61 yX0_minuteOfDay, Cond.instanceMethod yX0_minuteOfDay, Cond.selects RX0 yX0_minuteOfDay yX0_minuteOfDay, Cond.code yX0_minuteOfDay cX0_minuteOfDay 1 (some .int), Cond.methodLink RX0 82 yX0_outCount, Cond.instanceMethod yX0_outCount, Cond.selects RX0 yX0_outCount yX0_outCount, Cond.code yX0_outCount cX0_outCount 3 (some .int), Cond.methodLink RX0 85 yX0_isNight, Cond.instanceMethod yX0_isNight, Cond.selects RX0 yX0_isNight yX0_isNight, Cond.code yX0_isNight cX0_isNight 1 (some .boolean), Cond.methodLink RX0 88 yX0_keepsNow, Cond.instanceMethod yX0_keepsNow]
def wsX4_on_r4 : List Cond := [Cond.selects RX0 yX0_keepsNow yX0_keepsNow, Cond.code yX0_keepsNow cX0_keepsNow 4 (some .int), Cond.methodLink RX0 68 yX1_keeps, Cond.static yX1_keeps, Cond.initialized RX1, Cond.code yX1_keeps cX1_keeps 8 (some .int), Cond.methodLink RX0 98 yX0_weightNow, Cond.instanceMethod yX0_weightNow, Cond.selects RX0 yX0_weightNow yX0_weightNow, Cond.code yX0_weightNow cX0_weightNow 1 (some .int), Cond.methodLink RX0 65 yX0_onCount, Cond.instanceMethod yX0_onCount, Cond.selects RX0 yX0_onCount yX0_onCount, Cond.code yX0_onCount cX0_onCount 3 (some .int), Cond.methodLink RX0 111 yX0_tryGrips, Cond.instanceMethod yX0_tryGrips, Cond.selects RX0 yX0_tryGrips yX0_tryGrips, Cond.code yX0_tryGrips cX0_tryGrips 2 none, Cond.methodLink RX0 114 yX0_letSpeak, Cond.instanceMethod yX0_letSpeak, Cond.selects RX0 yX0_letSpeak yX0_letSpeak, Cond.code yX0_letSpeak cX0_letSpeak 4 none, Cond.methodLink RX0 117 yX0_speaksNow, Cond.instanceMethod yX0_speaksNow]
def wsX4_on_r5 : List Cond := [Cond.selects RX0 yX0_speaksNow yX0_speaksNow, Cond.code yX0_speaksNow cX0_speaksNow 4 (some .boolean), Cond.methodLink RX0 74 yX1_speaks, Cond.static yX1_speaks, Cond.code yX1_speaks cX1_speaks 7 (some .boolean), Cond.methodLink RX0 121 yX1_tells, Cond.static yX1_tells, Cond.code yX1_tells cX1_tells 4 (some .int), Cond.methodLink RX4 81 yX0_onSet, Cond.instanceMethod yX0_onSet, Cond.selects RX0 yX0_onSet yX0_onSet, Cond.code yX0_onSet cX0_onSet 3 (some .int)]
def wsX4_on : List Cond := .code yX4_on cX4_on 3 (some .int) :: ((wsX4_on_r1 ++ (wsX4_on_r2 ++ (wsX4_on_r3 ++ (wsX4_on_r4 ++ wsX4_on_r5)))) ++ wsX40 ++ wsX00)
def wsX4_then_r1 : List Cond := [Cond.fieldLink RX4 10 "UnsaidRound" "live" "LUnsaidRound$Green;", Cond.constant RX4 47 (-1000000001), Cond.fieldLink RX4 16 "UnsaidRound" "trial" "LUnsaidRound$Green;", Cond.fieldLink RX4 107 "UnsaidRound$Green" "secrets" "[I", Cond.fieldLink RX4 110 "UnsaidRound$Green" "silents" "[I", Cond.methodLink RX4 98 yX0_hasMother, Cond.instanceMethod yX0_hasMother, Cond.selects RX0 yX0_hasMother yX0_hasMother, Cond.initialized RX0, Cond.code yX0_hasMother cX0_hasMother 2 (some .boolean), Cond.fieldLink RX0 49 "UnsaidRound$Green" "motherCount" "I", Cond.methodLink RX4 48 yX4_tell, Cond.instanceMethod yX4_tell, Cond.selects RX4 yX4_tell yX4_tell, Cond.initialized RX4, Cond.code yX4_tell cX4_tell 3 (some .int), Cond.fieldLink RX4 36 "UnsaidRound" "findings" "[I", Cond.methodLink RX4 164 yX0_become, Cond.instanceMethod yX0_become, Cond.selects RX0 yX0_become yX0_become, Cond.code yX0_become cX0_become 2 none, Cond.fieldLink RX0 37 "UnsaidRound$Green" "minute" "I", Cond.fieldLink RX0 40 "UnsaidRound$Green" "wetParts" "I", Cond.fieldLink RX0 9 "UnsaidRound$Green" "heaviness" "I"]
def wsX4_then_r2 : List Cond := [Cond.fieldLink RX0 43 "UnsaidRound$Green" "speed" "I", Cond.fieldLink RX0 46 "UnsaidRound$Green" "turned" "I", Cond.fieldLink RX0 15 "UnsaidRound$Green" "kinds" "[I", Cond.methodLink RX0 52 arraycopyName, Cond.native arraycopyName, Cond.static arraycopyName, Cond.initialized "java/lang/System", Cond.fieldLink RX0 19 "UnsaidRound$Green" "outs" "[I", Cond.fieldLink RX0 22 "UnsaidRound$Green" "secrets" "[I", Cond.fieldLink RX0 25 "UnsaidRound$Green" "silents" "[I", Cond.fieldLink RX0 58 "UnsaidRound$Green" "childCount" "I", Cond.fieldLink RX0 28 "UnsaidRound$Green" "grips" "[I", Cond.fieldLink RX0 31 "UnsaidRound$Green" "rides" "[I", Cond.fieldLink RX0 34 "UnsaidRound$Green" "flings" "[I", Cond.methodLink RX4 160 yX0_passMinutes, Cond.instanceMethod yX0_passMinutes, Cond.selects RX0 yX0_passMinutes yX0_passMinutes, Cond.code yX0_passMinutes cX0_passMinutes 3 none, Cond.methodLink RX0 92 yX0_passMinute, Cond.instanceMethod yX0_passMinute, Cond.selects RX0 yX0_passMinute yX0_passMinute, Cond.code yX0_passMinute cX0_passMinute 5 none, Cond.methodLink RX0 101 Lib.Math.max.name, Cond.static Lib.Math.max.name]
def wsX4_then_r3 : List Cond := [Cond.initialized "java/lang/Math", Cond.code Lib.Math.max.name Lib.Math.max.code 2 (some .int), Cond.methodLink RX0 107 Lib.Math.min.name, Cond.static Lib.Math.min.name, Cond.code Lib.Math.min.name Lib.Math.min.code 2 (some .int), Cond.constant RX0 110 (999999), Cond.methodLink RX0 95 yX0_pushNow, Cond.instanceMethod yX0_pushNow, Cond.selects RX0 yX0_pushNow yX0_pushNow, Cond.code yX0_pushNow cX0_pushNow 5 (some .int), Cond.methodLink RX0 78 yX0_isWet, Cond.instanceMethod yX0_isWet, Cond.selects RX0 yX0_isWet yX0_isWet, Cond.code yX0_isWet cX0_isWet 1 (some .boolean), Cond.methodLink RX0 61 yX0_minuteOfDay, Cond.instanceMethod yX0_minuteOfDay, Cond.selects RX0 yX0_minuteOfDay yX0_minuteOfDay, Cond.code yX0_minuteOfDay cX0_minuteOfDay 1 (some .int), Cond.methodLink RX0 82 yX0_outCount, Cond.instanceMethod yX0_outCount, Cond.selects RX0 yX0_outCount yX0_outCount, Cond.code yX0_outCount cX0_outCount 3 (some .int), Cond.methodLink RX0 85 yX0_isNight, Cond.instanceMethod yX0_isNight]
def wsX4_then_r4 : List Cond := [Cond.selects RX0 yX0_isNight yX0_isNight, Cond.code yX0_isNight cX0_isNight 1 (some .boolean), Cond.methodLink RX0 88 yX0_keepsNow, Cond.instanceMethod yX0_keepsNow, Cond.selects RX0 yX0_keepsNow yX0_keepsNow, Cond.code yX0_keepsNow cX0_keepsNow 4 (some .int), Cond.methodLink RX0 68 yX1_keeps, Cond.static yX1_keeps, Cond.initialized RX1, Cond.code yX1_keeps cX1_keeps 8 (some .int), Cond.methodLink RX0 98 yX0_weightNow, Cond.instanceMethod yX0_weightNow, Cond.selects RX0 yX0_weightNow yX0_weightNow, Cond.code yX0_weightNow cX0_weightNow 1 (some .int), Cond.methodLink RX0 65 yX0_onCount, Cond.instanceMethod yX0_onCount, Cond.selects RX0 yX0_onCount yX0_onCount, Cond.code yX0_onCount cX0_onCount 3 (some .int), Cond.methodLink RX0 111 yX0_tryGrips, Cond.instanceMethod yX0_tryGrips, Cond.selects RX0 yX0_tryGrips yX0_tryGrips, Cond.code yX0_tryGrips cX0_tryGrips 2 none, Cond.methodLink RX0 114 yX0_letSpeak, Cond.instanceMethod yX0_letSpeak]
def wsX4_then_r5 : List Cond := [Cond.selects RX0 yX0_letSpeak yX0_letSpeak, Cond.code yX0_letSpeak cX0_letSpeak 4 none, Cond.methodLink RX0 117 yX0_speaksNow, Cond.instanceMethod yX0_speaksNow, Cond.selects RX0 yX0_speaksNow yX0_speaksNow, Cond.code yX0_speaksNow cX0_speaksNow 4 (some .boolean), Cond.methodLink RX0 74 yX1_speaks, Cond.static yX1_speaks, Cond.code yX1_speaks cX1_speaks 7 (some .boolean), Cond.methodLink RX0 121 yX1_tells, Cond.static yX1_tells, Cond.code yX1_tells cX1_tells 4 (some .int)]
def wsX4_then : List Cond := .code yX4_then cX4_then 4 (some .int) :: ((wsX4_then_r1 ++ (wsX4_then_r2 ++ (wsX4_then_r3 ++ (wsX4_then_r4 ++ wsX4_then_r5)))) ++ wsX40 ++ wsX00)
def wsX4_quick_r1 : List Cond := [Cond.constant RX4 47 (-1000000001), Cond.fieldLink RX4 16 "UnsaidRound" "trial" "LUnsaidRound$Green;", Cond.fieldLink RX4 10 "UnsaidRound" "live" "LUnsaidRound$Green;", Cond.fieldLink RX4 44 "UnsaidRound$Green" "speed" "I", Cond.constant RX4 171 (-1000000004), Cond.methodLink RX4 48 yX4_tell, Cond.instanceMethod yX4_tell, Cond.selects RX4 yX4_tell yX4_tell, Cond.initialized RX4, Cond.code yX4_tell cX4_tell 3 (some .int), Cond.fieldLink RX4 36 "UnsaidRound" "findings" "[I", Cond.methodLink RX4 164 yX0_become, Cond.instanceMethod yX0_become, Cond.selects RX0 yX0_become yX0_become, Cond.initialized RX0, Cond.code yX0_become cX0_become 2 none, Cond.fieldLink RX0 37 "UnsaidRound$Green" "minute" "I", Cond.fieldLink RX0 40 "UnsaidRound$Green" "wetParts" "I", Cond.fieldLink RX0 9 "UnsaidRound$Green" "heaviness" "I", Cond.fieldLink RX0 43 "UnsaidRound$Green" "speed" "I", Cond.fieldLink RX0 46 "UnsaidRound$Green" "turned" "I", Cond.fieldLink RX0 49 "UnsaidRound$Green" "motherCount" "I", Cond.fieldLink RX0 15 "UnsaidRound$Green" "kinds" "[I", Cond.methodLink RX0 52 arraycopyName]
def wsX4_quick_r2 : List Cond := [Cond.native arraycopyName, Cond.static arraycopyName, Cond.initialized "java/lang/System", Cond.fieldLink RX0 19 "UnsaidRound$Green" "outs" "[I", Cond.fieldLink RX0 22 "UnsaidRound$Green" "secrets" "[I", Cond.fieldLink RX0 25 "UnsaidRound$Green" "silents" "[I", Cond.fieldLink RX0 58 "UnsaidRound$Green" "childCount" "I", Cond.fieldLink RX0 28 "UnsaidRound$Green" "grips" "[I", Cond.fieldLink RX0 31 "UnsaidRound$Green" "rides" "[I", Cond.fieldLink RX0 34 "UnsaidRound$Green" "flings" "[I", Cond.methodLink RX4 168 yX0_passMinute, Cond.instanceMethod yX0_passMinute, Cond.selects RX0 yX0_passMinute yX0_passMinute, Cond.code yX0_passMinute cX0_passMinute 5 none, Cond.methodLink RX0 101 Lib.Math.max.name, Cond.static Lib.Math.max.name, Cond.initialized "java/lang/Math", Cond.code Lib.Math.max.name Lib.Math.max.code 2 (some .int), Cond.methodLink RX0 107 Lib.Math.min.name, Cond.static Lib.Math.min.name, Cond.code Lib.Math.min.name Lib.Math.min.code 2 (some .int), Cond.constant RX0 110 (999999), Cond.methodLink RX0 95 yX0_pushNow, Cond.instanceMethod yX0_pushNow]
def wsX4_quick_r3 : List Cond := [Cond.selects RX0 yX0_pushNow yX0_pushNow, Cond.code yX0_pushNow cX0_pushNow 5 (some .int), Cond.methodLink RX0 78 yX0_isWet, Cond.instanceMethod yX0_isWet, Cond.selects RX0 yX0_isWet yX0_isWet, Cond.code yX0_isWet cX0_isWet 1 (some .boolean), Cond.methodLink RX0 61 yX0_minuteOfDay, Cond.instanceMethod yX0_minuteOfDay, Cond.selects RX0 yX0_minuteOfDay yX0_minuteOfDay, Cond.code yX0_minuteOfDay cX0_minuteOfDay 1 (some .int), Cond.methodLink RX0 82 yX0_outCount, Cond.instanceMethod yX0_outCount, Cond.selects RX0 yX0_outCount yX0_outCount, Cond.code yX0_outCount cX0_outCount 3 (some .int), Cond.methodLink RX0 85 yX0_isNight, Cond.instanceMethod yX0_isNight, Cond.selects RX0 yX0_isNight yX0_isNight, Cond.code yX0_isNight cX0_isNight 1 (some .boolean), Cond.methodLink RX0 88 yX0_keepsNow, Cond.instanceMethod yX0_keepsNow, Cond.selects RX0 yX0_keepsNow yX0_keepsNow, Cond.code yX0_keepsNow cX0_keepsNow 4 (some .int), Cond.methodLink RX0 68 yX1_keeps, Cond.static yX1_keeps]
def wsX4_quick_r4 : List Cond := [Cond.initialized RX1, Cond.code yX1_keeps cX1_keeps 8 (some .int), Cond.methodLink RX0 98 yX0_weightNow, Cond.instanceMethod yX0_weightNow, Cond.selects RX0 yX0_weightNow yX0_weightNow, Cond.code yX0_weightNow cX0_weightNow 1 (some .int), Cond.methodLink RX0 65 yX0_onCount, Cond.instanceMethod yX0_onCount, Cond.selects RX0 yX0_onCount yX0_onCount, Cond.code yX0_onCount cX0_onCount 3 (some .int), Cond.methodLink RX0 111 yX0_tryGrips, Cond.instanceMethod yX0_tryGrips, Cond.selects RX0 yX0_tryGrips yX0_tryGrips, Cond.code yX0_tryGrips cX0_tryGrips 2 none, Cond.methodLink RX0 114 yX0_letSpeak, Cond.instanceMethod yX0_letSpeak, Cond.selects RX0 yX0_letSpeak yX0_letSpeak, Cond.code yX0_letSpeak cX0_letSpeak 4 none, Cond.methodLink RX0 117 yX0_speaksNow, Cond.instanceMethod yX0_speaksNow, Cond.selects RX0 yX0_speaksNow yX0_speaksNow, Cond.code yX0_speaksNow cX0_speaksNow 4 (some .boolean), Cond.methodLink RX0 74 yX1_speaks, Cond.static yX1_speaks]
def wsX4_quick_r5 : List Cond := [Cond.code yX1_speaks cX1_speaks 7 (some .boolean), Cond.methodLink RX0 121 yX1_tells, Cond.static yX1_tells, Cond.code yX1_tells cX1_tells 4 (some .int)]
def wsX4_quick : List Cond := .code yX4_quick cX4_quick 3 (some .int) :: ((wsX4_quick_r1 ++ (wsX4_quick_r2 ++ (wsX4_quick_r3 ++ (wsX4_quick_r4 ++ wsX4_quick_r5)))) ++ wsX40 ++ wsX00)
def wsX4_stands_r1 : List Cond := [Cond.fieldLink RX4 16 "UnsaidRound" "trial" "LUnsaidRound$Green;", Cond.fieldLink RX4 10 "UnsaidRound" "live" "LUnsaidRound$Green;", Cond.fieldLink RX4 44 "UnsaidRound$Green" "speed" "I", Cond.constant RX4 171 (-1000000004), Cond.methodLink RX4 164 yX0_become, Cond.instanceMethod yX0_become, Cond.selects RX0 yX0_become yX0_become, Cond.initialized RX0, Cond.code yX0_become cX0_become 2 none, Cond.fieldLink RX0 37 "UnsaidRound$Green" "minute" "I", Cond.fieldLink RX0 40 "UnsaidRound$Green" "wetParts" "I", Cond.fieldLink RX0 9 "UnsaidRound$Green" "heaviness" "I", Cond.fieldLink RX0 43 "UnsaidRound$Green" "speed" "I", Cond.fieldLink RX0 46 "UnsaidRound$Green" "turned" "I", Cond.fieldLink RX0 49 "UnsaidRound$Green" "motherCount" "I", Cond.fieldLink RX0 15 "UnsaidRound$Green" "kinds" "[I", Cond.methodLink RX0 52 arraycopyName, Cond.native arraycopyName, Cond.static arraycopyName, Cond.initialized "java/lang/System", Cond.fieldLink RX0 19 "UnsaidRound$Green" "outs" "[I", Cond.fieldLink RX0 22 "UnsaidRound$Green" "secrets" "[I", Cond.fieldLink RX0 25 "UnsaidRound$Green" "silents" "[I", Cond.fieldLink RX0 58 "UnsaidRound$Green" "childCount" "I"]
def wsX4_stands_r2 : List Cond := [Cond.fieldLink RX0 28 "UnsaidRound$Green" "grips" "[I", Cond.fieldLink RX0 31 "UnsaidRound$Green" "rides" "[I", Cond.fieldLink RX0 34 "UnsaidRound$Green" "flings" "[I", Cond.methodLink RX4 168 yX0_passMinute, Cond.instanceMethod yX0_passMinute, Cond.selects RX0 yX0_passMinute yX0_passMinute, Cond.code yX0_passMinute cX0_passMinute 5 none, Cond.methodLink RX0 101 Lib.Math.max.name, Cond.static Lib.Math.max.name, Cond.initialized "java/lang/Math", Cond.code Lib.Math.max.name Lib.Math.max.code 2 (some .int), Cond.methodLink RX0 107 Lib.Math.min.name, Cond.static Lib.Math.min.name, Cond.code Lib.Math.min.name Lib.Math.min.code 2 (some .int), Cond.constant RX0 110 (999999), Cond.methodLink RX0 95 yX0_pushNow, Cond.instanceMethod yX0_pushNow, Cond.selects RX0 yX0_pushNow yX0_pushNow, Cond.code yX0_pushNow cX0_pushNow 5 (some .int), Cond.methodLink RX0 78 yX0_isWet, Cond.instanceMethod yX0_isWet, Cond.selects RX0 yX0_isWet yX0_isWet, Cond.code yX0_isWet cX0_isWet 1 (some .boolean), Cond.methodLink RX0 61 yX0_minuteOfDay]
def wsX4_stands_r3 : List Cond := [Cond.instanceMethod yX0_minuteOfDay, Cond.selects RX0 yX0_minuteOfDay yX0_minuteOfDay, Cond.code yX0_minuteOfDay cX0_minuteOfDay 1 (some .int), Cond.methodLink RX0 82 yX0_outCount, Cond.instanceMethod yX0_outCount, Cond.selects RX0 yX0_outCount yX0_outCount, Cond.code yX0_outCount cX0_outCount 3 (some .int), Cond.methodLink RX0 85 yX0_isNight, Cond.instanceMethod yX0_isNight, Cond.selects RX0 yX0_isNight yX0_isNight, Cond.code yX0_isNight cX0_isNight 1 (some .boolean), Cond.methodLink RX0 88 yX0_keepsNow, Cond.instanceMethod yX0_keepsNow, Cond.selects RX0 yX0_keepsNow yX0_keepsNow, Cond.code yX0_keepsNow cX0_keepsNow 4 (some .int), Cond.methodLink RX0 68 yX1_keeps, Cond.static yX1_keeps, Cond.initialized RX1, Cond.code yX1_keeps cX1_keeps 8 (some .int), Cond.methodLink RX0 98 yX0_weightNow, Cond.instanceMethod yX0_weightNow, Cond.selects RX0 yX0_weightNow yX0_weightNow, Cond.code yX0_weightNow cX0_weightNow 1 (some .int), Cond.methodLink RX0 65 yX0_onCount]
def wsX4_stands_r4 : List Cond := [Cond.instanceMethod yX0_onCount, Cond.selects RX0 yX0_onCount yX0_onCount, Cond.code yX0_onCount cX0_onCount 3 (some .int), Cond.methodLink RX0 111 yX0_tryGrips, Cond.instanceMethod yX0_tryGrips, Cond.selects RX0 yX0_tryGrips yX0_tryGrips, Cond.code yX0_tryGrips cX0_tryGrips 2 none, Cond.methodLink RX0 114 yX0_letSpeak, Cond.instanceMethod yX0_letSpeak, Cond.selects RX0 yX0_letSpeak yX0_letSpeak, Cond.code yX0_letSpeak cX0_letSpeak 4 none, Cond.methodLink RX0 117 yX0_speaksNow, Cond.instanceMethod yX0_speaksNow, Cond.selects RX0 yX0_speaksNow yX0_speaksNow, Cond.code yX0_speaksNow cX0_speaksNow 4 (some .boolean), Cond.methodLink RX0 74 yX1_speaks, Cond.static yX1_speaks, Cond.code yX1_speaks cX1_speaks 7 (some .boolean), Cond.methodLink RX0 121 yX1_tells, Cond.static yX1_tells, Cond.code yX1_tells cX1_tells 4 (some .int), Cond.methodLink RX4 48 yX4_tell, Cond.instanceMethod yX4_tell, Cond.selects RX4 yX4_tell yX4_tell]
def wsX4_stands_r5 : List Cond := [Cond.initialized RX4, Cond.code yX4_tell cX4_tell 3 (some .int), Cond.constant RX4 47 (-1000000001), Cond.fieldLink RX4 36 "UnsaidRound" "findings" "[I"]
def wsX4_stands : List Cond := .code yX4_stands cX4_stands 2 (some .int) :: ((wsX4_stands_r1 ++ (wsX4_stands_r2 ++ (wsX4_stands_r3 ++ (wsX4_stands_r4 ++ wsX4_stands_r5)))) ++ wsX40 ++ wsX00)
def wsX4_flung_r1 : List Cond := [Cond.fieldLink RX4 10 "UnsaidRound" "live" "LUnsaidRound$Green;", Cond.constant RX4 47 (-1000000001), Cond.fieldLink RX4 16 "UnsaidRound" "trial" "LUnsaidRound$Green;", Cond.fieldLink RX4 149 "UnsaidRound$Green" "rides" "[I", Cond.constant RX4 171 (-1000000004), Cond.methodLink RX4 143 yX0_hasChild, Cond.instanceMethod yX0_hasChild, Cond.selects RX0 yX0_hasChild yX0_hasChild, Cond.initialized RX0, Cond.code yX0_hasChild cX0_hasChild 2 (some .boolean), Cond.fieldLink RX0 58 "UnsaidRound$Green" "childCount" "I", Cond.methodLink RX4 48 yX4_tell, Cond.instanceMethod yX4_tell, Cond.selects RX4 yX4_tell yX4_tell, Cond.initialized RX4, Cond.code yX4_tell cX4_tell 3 (some .int), Cond.fieldLink RX4 36 "UnsaidRound" "findings" "[I", Cond.methodLink RX4 164 yX0_become, Cond.instanceMethod yX0_become, Cond.selects RX0 yX0_become yX0_become, Cond.code yX0_become cX0_become 2 none, Cond.fieldLink RX0 37 "UnsaidRound$Green" "minute" "I", Cond.fieldLink RX0 40 "UnsaidRound$Green" "wetParts" "I", Cond.fieldLink RX0 9 "UnsaidRound$Green" "heaviness" "I"]
def wsX4_flung_r2 : List Cond := [Cond.fieldLink RX0 43 "UnsaidRound$Green" "speed" "I", Cond.fieldLink RX0 46 "UnsaidRound$Green" "turned" "I", Cond.fieldLink RX0 49 "UnsaidRound$Green" "motherCount" "I", Cond.fieldLink RX0 15 "UnsaidRound$Green" "kinds" "[I", Cond.methodLink RX0 52 arraycopyName, Cond.native arraycopyName, Cond.static arraycopyName, Cond.initialized "java/lang/System", Cond.fieldLink RX0 19 "UnsaidRound$Green" "outs" "[I", Cond.fieldLink RX0 22 "UnsaidRound$Green" "secrets" "[I", Cond.fieldLink RX0 25 "UnsaidRound$Green" "silents" "[I", Cond.fieldLink RX0 28 "UnsaidRound$Green" "grips" "[I", Cond.fieldLink RX0 31 "UnsaidRound$Green" "rides" "[I", Cond.fieldLink RX0 34 "UnsaidRound$Green" "flings" "[I", Cond.methodLink RX4 168 yX0_passMinute, Cond.instanceMethod yX0_passMinute, Cond.selects RX0 yX0_passMinute yX0_passMinute, Cond.code yX0_passMinute cX0_passMinute 5 none, Cond.methodLink RX0 101 Lib.Math.max.name, Cond.static Lib.Math.max.name, Cond.initialized "java/lang/Math", Cond.code Lib.Math.max.name Lib.Math.max.code 2 (some .int), Cond.methodLink RX0 107 Lib.Math.min.name, Cond.static Lib.Math.min.name]
def wsX4_flung_r3 : List Cond := [Cond.code Lib.Math.min.name Lib.Math.min.code 2 (some .int), Cond.constant RX0 110 (999999), Cond.methodLink RX0 95 yX0_pushNow, Cond.instanceMethod yX0_pushNow, Cond.selects RX0 yX0_pushNow yX0_pushNow, Cond.code yX0_pushNow cX0_pushNow 5 (some .int), Cond.methodLink RX0 78 yX0_isWet, Cond.instanceMethod yX0_isWet, Cond.selects RX0 yX0_isWet yX0_isWet, Cond.code yX0_isWet cX0_isWet 1 (some .boolean), Cond.methodLink RX0 61 yX0_minuteOfDay, Cond.instanceMethod yX0_minuteOfDay, Cond.selects RX0 yX0_minuteOfDay yX0_minuteOfDay, Cond.code yX0_minuteOfDay cX0_minuteOfDay 1 (some .int), Cond.methodLink RX0 82 yX0_outCount, Cond.instanceMethod yX0_outCount, Cond.selects RX0 yX0_outCount yX0_outCount, Cond.code yX0_outCount cX0_outCount 3 (some .int), Cond.methodLink RX0 85 yX0_isNight, Cond.instanceMethod yX0_isNight, Cond.selects RX0 yX0_isNight yX0_isNight, Cond.code yX0_isNight cX0_isNight 1 (some .boolean), Cond.methodLink RX0 88 yX0_keepsNow, Cond.instanceMethod yX0_keepsNow]
def wsX4_flung_r4 : List Cond := [Cond.selects RX0 yX0_keepsNow yX0_keepsNow, Cond.code yX0_keepsNow cX0_keepsNow 4 (some .int), Cond.methodLink RX0 68 yX1_keeps, Cond.static yX1_keeps, Cond.initialized RX1, Cond.code yX1_keeps cX1_keeps 8 (some .int), Cond.methodLink RX0 98 yX0_weightNow, Cond.instanceMethod yX0_weightNow, Cond.selects RX0 yX0_weightNow yX0_weightNow, Cond.code yX0_weightNow cX0_weightNow 1 (some .int), Cond.methodLink RX0 65 yX0_onCount, Cond.instanceMethod yX0_onCount, Cond.selects RX0 yX0_onCount yX0_onCount, Cond.code yX0_onCount cX0_onCount 3 (some .int), Cond.methodLink RX0 111 yX0_tryGrips, Cond.instanceMethod yX0_tryGrips, Cond.selects RX0 yX0_tryGrips yX0_tryGrips, Cond.code yX0_tryGrips cX0_tryGrips 2 none, Cond.methodLink RX0 114 yX0_letSpeak, Cond.instanceMethod yX0_letSpeak, Cond.selects RX0 yX0_letSpeak yX0_letSpeak, Cond.code yX0_letSpeak cX0_letSpeak 4 none, Cond.methodLink RX0 117 yX0_speaksNow, Cond.instanceMethod yX0_speaksNow]
def wsX4_flung_r5 : List Cond := [Cond.selects RX0 yX0_speaksNow yX0_speaksNow, Cond.code yX0_speaksNow cX0_speaksNow 4 (some .boolean), Cond.methodLink RX0 74 yX1_speaks, Cond.static yX1_speaks, Cond.code yX1_speaks cX1_speaks 7 (some .boolean), Cond.methodLink RX0 121 yX1_tells, Cond.static yX1_tells, Cond.code yX1_tells cX1_tells 4 (some .int)]
def wsX4_flung : List Cond := .code yX4_flung cX4_flung 3 (some .int) :: ((wsX4_flung_r1 ++ (wsX4_flung_r2 ++ (wsX4_flung_r3 ++ (wsX4_flung_r4 ++ wsX4_flung_r5)))) ++ wsX40 ++ wsX00)
def wsX4_isNear : List Cond := .code yX4_isNear cX4_isNear 1 (some .boolean) :: ([])
def wsX4_send_r1 : List Cond := [Cond.constant RX4 47 (-1000000001), Cond.fieldLink RX4 10 "UnsaidRound" "live" "LUnsaidRound$Green;", Cond.fieldLink RX4 90 "UnsaidRound$Green" "motherCount" "I", Cond.fieldLink RX4 104 "UnsaidRound$Green" "outs" "[I", Cond.fieldLink RX4 16 "UnsaidRound" "trial" "LUnsaidRound$Green;", Cond.fieldLink RX4 69 "UnsaidRound$Green" "turned" "I", Cond.constant RX4 171 (-1000000004), Cond.methodLink RX4 172 yX4_isNear, Cond.static yX4_isNear, Cond.initialized RX4, Cond.code yX4_isNear cX4_isNear 1 (some .boolean), Cond.methodLink RX4 48 yX4_tell, Cond.instanceMethod yX4_tell, Cond.selects RX4 yX4_tell yX4_tell, Cond.code yX4_tell cX4_tell 3 (some .int), Cond.fieldLink RX4 36 "UnsaidRound" "findings" "[I", Cond.methodLink RX4 164 yX0_become, Cond.instanceMethod yX0_become, Cond.selects RX0 yX0_become yX0_become, Cond.initialized RX0, Cond.code yX0_become cX0_become 2 none, Cond.fieldLink RX0 37 "UnsaidRound$Green" "minute" "I", Cond.fieldLink RX0 40 "UnsaidRound$Green" "wetParts" "I", Cond.fieldLink RX0 9 "UnsaidRound$Green" "heaviness" "I"]
def wsX4_send_r2 : List Cond := [Cond.fieldLink RX0 43 "UnsaidRound$Green" "speed" "I", Cond.fieldLink RX0 46 "UnsaidRound$Green" "turned" "I", Cond.fieldLink RX0 49 "UnsaidRound$Green" "motherCount" "I", Cond.fieldLink RX0 15 "UnsaidRound$Green" "kinds" "[I", Cond.methodLink RX0 52 arraycopyName, Cond.native arraycopyName, Cond.static arraycopyName, Cond.initialized "java/lang/System", Cond.fieldLink RX0 19 "UnsaidRound$Green" "outs" "[I", Cond.fieldLink RX0 22 "UnsaidRound$Green" "secrets" "[I", Cond.fieldLink RX0 25 "UnsaidRound$Green" "silents" "[I", Cond.fieldLink RX0 58 "UnsaidRound$Green" "childCount" "I", Cond.fieldLink RX0 28 "UnsaidRound$Green" "grips" "[I", Cond.fieldLink RX0 31 "UnsaidRound$Green" "rides" "[I", Cond.fieldLink RX0 34 "UnsaidRound$Green" "flings" "[I", Cond.methodLink RX4 127 yX0_moveMother, Cond.instanceMethod yX0_moveMother, Cond.selects RX0 yX0_moveMother yX0_moveMother, Cond.code yX0_moveMother cX0_moveMother 3 none, Cond.methodLink RX4 160 yX0_passMinutes, Cond.instanceMethod yX0_passMinutes, Cond.selects RX0 yX0_passMinutes yX0_passMinutes, Cond.code yX0_passMinutes cX0_passMinutes 3 none, Cond.methodLink RX0 92 yX0_passMinute]
def wsX4_send_r3 : List Cond := [Cond.instanceMethod yX0_passMinute, Cond.selects RX0 yX0_passMinute yX0_passMinute, Cond.code yX0_passMinute cX0_passMinute 5 none, Cond.methodLink RX0 101 Lib.Math.max.name, Cond.static Lib.Math.max.name, Cond.initialized "java/lang/Math", Cond.code Lib.Math.max.name Lib.Math.max.code 2 (some .int), Cond.methodLink RX0 107 Lib.Math.min.name, Cond.static Lib.Math.min.name, Cond.code Lib.Math.min.name Lib.Math.min.code 2 (some .int), Cond.constant RX0 110 (999999), Cond.methodLink RX0 95 yX0_pushNow, Cond.instanceMethod yX0_pushNow, Cond.selects RX0 yX0_pushNow yX0_pushNow, Cond.code yX0_pushNow cX0_pushNow 5 (some .int), Cond.methodLink RX0 78 yX0_isWet, Cond.instanceMethod yX0_isWet, Cond.selects RX0 yX0_isWet yX0_isWet, Cond.code yX0_isWet cX0_isWet 1 (some .boolean), Cond.methodLink RX0 61 yX0_minuteOfDay, Cond.instanceMethod yX0_minuteOfDay, Cond.selects RX0 yX0_minuteOfDay yX0_minuteOfDay, Cond.code yX0_minuteOfDay cX0_minuteOfDay 1 (some .int), Cond.methodLink RX0 82 yX0_outCount]
def wsX4_send_r4 : List Cond := [Cond.instanceMethod yX0_outCount, Cond.selects RX0 yX0_outCount yX0_outCount, Cond.code yX0_outCount cX0_outCount 3 (some .int), Cond.methodLink RX0 85 yX0_isNight, Cond.instanceMethod yX0_isNight, Cond.selects RX0 yX0_isNight yX0_isNight, Cond.code yX0_isNight cX0_isNight 1 (some .boolean), Cond.methodLink RX0 88 yX0_keepsNow, Cond.instanceMethod yX0_keepsNow, Cond.selects RX0 yX0_keepsNow yX0_keepsNow, Cond.code yX0_keepsNow cX0_keepsNow 4 (some .int), Cond.methodLink RX0 68 yX1_keeps, Cond.static yX1_keeps, Cond.initialized RX1, Cond.code yX1_keeps cX1_keeps 8 (some .int), Cond.methodLink RX0 98 yX0_weightNow, Cond.instanceMethod yX0_weightNow, Cond.selects RX0 yX0_weightNow yX0_weightNow, Cond.code yX0_weightNow cX0_weightNow 1 (some .int), Cond.methodLink RX0 65 yX0_onCount, Cond.instanceMethod yX0_onCount, Cond.selects RX0 yX0_onCount yX0_onCount, Cond.code yX0_onCount cX0_onCount 3 (some .int), Cond.methodLink RX0 111 yX0_tryGrips]
def wsX4_send_r5 : List Cond := [Cond.instanceMethod yX0_tryGrips, Cond.selects RX0 yX0_tryGrips yX0_tryGrips, Cond.code yX0_tryGrips cX0_tryGrips 2 none, Cond.methodLink RX0 114 yX0_letSpeak, Cond.instanceMethod yX0_letSpeak, Cond.selects RX0 yX0_letSpeak yX0_letSpeak, Cond.code yX0_letSpeak cX0_letSpeak 4 none, Cond.methodLink RX0 117 yX0_speaksNow, Cond.instanceMethod yX0_speaksNow, Cond.selects RX0 yX0_speaksNow yX0_speaksNow, Cond.code yX0_speaksNow cX0_speaksNow 4 (some .boolean), Cond.methodLink RX0 74 yX1_speaks, Cond.static yX1_speaks, Cond.code yX1_speaks cX1_speaks 7 (some .boolean), Cond.methodLink RX0 121 yX1_tells, Cond.static yX1_tells, Cond.code yX1_tells cX1_tells 4 (some .int)]
def wsX4_send : List Cond := .code yX4_send cX4_send 5 (some .int) :: ((wsX4_send_r1 ++ (wsX4_send_r2 ++ (wsX4_send_r3 ++ (wsX4_send_r4 ++ wsX4_send_r5)))) ++ wsX40 ++ wsX00)
def wsX4_kind_r1 : List Cond := [Cond.fieldLink RX4 10 "UnsaidRound" "live" "LUnsaidRound$Green;", Cond.constant RX4 47 (-1000000001), Cond.fieldLink RX4 16 "UnsaidRound" "trial" "LUnsaidRound$Green;", Cond.fieldLink RX4 101 "UnsaidRound$Green" "kinds" "[I", Cond.fieldLink RX4 69 "UnsaidRound$Green" "turned" "I", Cond.methodLink RX4 98 yX0_hasMother, Cond.instanceMethod yX0_hasMother, Cond.selects RX0 yX0_hasMother yX0_hasMother, Cond.initialized RX0, Cond.code yX0_hasMother cX0_hasMother 2 (some .boolean), Cond.fieldLink RX0 49 "UnsaidRound$Green" "motherCount" "I", Cond.methodLink RX4 172 yX4_isNear, Cond.static yX4_isNear, Cond.initialized RX4, Cond.code yX4_isNear cX4_isNear 1 (some .boolean), Cond.methodLink RX4 48 yX4_tell, Cond.instanceMethod yX4_tell, Cond.selects RX4 yX4_tell yX4_tell, Cond.code yX4_tell cX4_tell 3 (some .int), Cond.fieldLink RX4 36 "UnsaidRound" "findings" "[I", Cond.methodLink RX4 164 yX0_become, Cond.instanceMethod yX0_become, Cond.selects RX0 yX0_become yX0_become, Cond.code yX0_become cX0_become 2 none]
def wsX4_kind_r2 : List Cond := [Cond.fieldLink RX0 37 "UnsaidRound$Green" "minute" "I", Cond.fieldLink RX0 40 "UnsaidRound$Green" "wetParts" "I", Cond.fieldLink RX0 9 "UnsaidRound$Green" "heaviness" "I", Cond.fieldLink RX0 43 "UnsaidRound$Green" "speed" "I", Cond.fieldLink RX0 46 "UnsaidRound$Green" "turned" "I", Cond.fieldLink RX0 15 "UnsaidRound$Green" "kinds" "[I", Cond.methodLink RX0 52 arraycopyName, Cond.native arraycopyName, Cond.static arraycopyName, Cond.initialized "java/lang/System", Cond.fieldLink RX0 19 "UnsaidRound$Green" "outs" "[I", Cond.fieldLink RX0 22 "UnsaidRound$Green" "secrets" "[I", Cond.fieldLink RX0 25 "UnsaidRound$Green" "silents" "[I", Cond.fieldLink RX0 58 "UnsaidRound$Green" "childCount" "I", Cond.fieldLink RX0 28 "UnsaidRound$Green" "grips" "[I", Cond.fieldLink RX0 31 "UnsaidRound$Green" "rides" "[I", Cond.fieldLink RX0 34 "UnsaidRound$Green" "flings" "[I", Cond.methodLink RX4 160 yX0_passMinutes, Cond.instanceMethod yX0_passMinutes, Cond.selects RX0 yX0_passMinutes yX0_passMinutes, Cond.code yX0_passMinutes cX0_passMinutes 3 none, Cond.methodLink RX0 92 yX0_passMinute, Cond.instanceMethod yX0_passMinute, Cond.selects RX0 yX0_passMinute yX0_passMinute]
def wsX4_kind_r3 : List Cond := [Cond.code yX0_passMinute cX0_passMinute 5 none, Cond.methodLink RX0 101 Lib.Math.max.name, Cond.static Lib.Math.max.name, Cond.initialized "java/lang/Math", Cond.code Lib.Math.max.name Lib.Math.max.code 2 (some .int), Cond.methodLink RX0 107 Lib.Math.min.name, Cond.static Lib.Math.min.name, Cond.code Lib.Math.min.name Lib.Math.min.code 2 (some .int), Cond.constant RX0 110 (999999), Cond.methodLink RX0 95 yX0_pushNow, Cond.instanceMethod yX0_pushNow, Cond.selects RX0 yX0_pushNow yX0_pushNow, Cond.code yX0_pushNow cX0_pushNow 5 (some .int), Cond.methodLink RX0 78 yX0_isWet, Cond.instanceMethod yX0_isWet, Cond.selects RX0 yX0_isWet yX0_isWet, Cond.code yX0_isWet cX0_isWet 1 (some .boolean), Cond.methodLink RX0 61 yX0_minuteOfDay, Cond.instanceMethod yX0_minuteOfDay, Cond.selects RX0 yX0_minuteOfDay yX0_minuteOfDay, Cond.code yX0_minuteOfDay cX0_minuteOfDay 1 (some .int), Cond.methodLink RX0 82 yX0_outCount, Cond.instanceMethod yX0_outCount, Cond.selects RX0 yX0_outCount yX0_outCount]
def wsX4_kind_r4 : List Cond := [Cond.code yX0_outCount cX0_outCount 3 (some .int), Cond.methodLink RX0 85 yX0_isNight, Cond.instanceMethod yX0_isNight, Cond.selects RX0 yX0_isNight yX0_isNight, Cond.code yX0_isNight cX0_isNight 1 (some .boolean), Cond.methodLink RX0 88 yX0_keepsNow, Cond.instanceMethod yX0_keepsNow, Cond.selects RX0 yX0_keepsNow yX0_keepsNow, Cond.code yX0_keepsNow cX0_keepsNow 4 (some .int), Cond.methodLink RX0 68 yX1_keeps, Cond.static yX1_keeps, Cond.initialized RX1, Cond.code yX1_keeps cX1_keeps 8 (some .int), Cond.methodLink RX0 98 yX0_weightNow, Cond.instanceMethod yX0_weightNow, Cond.selects RX0 yX0_weightNow yX0_weightNow, Cond.code yX0_weightNow cX0_weightNow 1 (some .int), Cond.methodLink RX0 65 yX0_onCount, Cond.instanceMethod yX0_onCount, Cond.selects RX0 yX0_onCount yX0_onCount, Cond.code yX0_onCount cX0_onCount 3 (some .int), Cond.methodLink RX0 111 yX0_tryGrips, Cond.instanceMethod yX0_tryGrips, Cond.selects RX0 yX0_tryGrips yX0_tryGrips]
def wsX4_kind_r5 : List Cond := [Cond.code yX0_tryGrips cX0_tryGrips 2 none, Cond.methodLink RX0 114 yX0_letSpeak, Cond.instanceMethod yX0_letSpeak, Cond.selects RX0 yX0_letSpeak yX0_letSpeak, Cond.code yX0_letSpeak cX0_letSpeak 4 none, Cond.methodLink RX0 117 yX0_speaksNow, Cond.instanceMethod yX0_speaksNow, Cond.selects RX0 yX0_speaksNow yX0_speaksNow, Cond.code yX0_speaksNow cX0_speaksNow 4 (some .boolean), Cond.methodLink RX0 74 yX1_speaks, Cond.static yX1_speaks, Cond.code yX1_speaks cX1_speaks 7 (some .boolean), Cond.methodLink RX0 121 yX1_tells, Cond.static yX1_tells, Cond.code yX1_tells cX1_tells 4 (some .int)]
def wsX4_kind : List Cond := .code yX4_kind cX4_kind 6 (some .int) :: ((wsX4_kind_r1 ++ (wsX4_kind_r2 ++ (wsX4_kind_r3 ++ (wsX4_kind_r4 ++ wsX4_kind_r5)))) ++ wsX40 ++ wsX00)
def wsX4_holdsWith_r1 : List Cond := [Cond.fieldLink RX4 16 "UnsaidRound" "trial" "LUnsaidRound$Green;", Cond.fieldLink RX4 10 "UnsaidRound" "live" "LUnsaidRound$Green;", Cond.fieldLink RX4 146 "UnsaidRound$Green" "grips" "[I", Cond.fieldLink RX4 152 "UnsaidRound$Green" "flings" "[I", Cond.methodLink RX4 164 yX0_become, Cond.instanceMethod yX0_become, Cond.selects RX0 yX0_become yX0_become, Cond.initialized RX0, Cond.code yX0_become cX0_become 2 none, Cond.fieldLink RX0 37 "UnsaidRound$Green" "minute" "I", Cond.fieldLink RX0 40 "UnsaidRound$Green" "wetParts" "I", Cond.fieldLink RX0 9 "UnsaidRound$Green" "heaviness" "I", Cond.fieldLink RX0 43 "UnsaidRound$Green" "speed" "I", Cond.fieldLink RX0 46 "UnsaidRound$Green" "turned" "I", Cond.fieldLink RX0 49 "UnsaidRound$Green" "motherCount" "I", Cond.fieldLink RX0 15 "UnsaidRound$Green" "kinds" "[I", Cond.methodLink RX0 52 arraycopyName, Cond.native arraycopyName, Cond.static arraycopyName, Cond.initialized "java/lang/System", Cond.fieldLink RX0 19 "UnsaidRound$Green" "outs" "[I", Cond.fieldLink RX0 22 "UnsaidRound$Green" "secrets" "[I", Cond.fieldLink RX0 25 "UnsaidRound$Green" "silents" "[I", Cond.fieldLink RX0 58 "UnsaidRound$Green" "childCount" "I"]
def wsX4_holdsWith_r2 : List Cond := [Cond.fieldLink RX0 28 "UnsaidRound$Green" "grips" "[I", Cond.fieldLink RX0 31 "UnsaidRound$Green" "rides" "[I", Cond.fieldLink RX0 34 "UnsaidRound$Green" "flings" "[I", Cond.methodLink RX4 160 yX0_passMinutes, Cond.instanceMethod yX0_passMinutes, Cond.selects RX0 yX0_passMinutes yX0_passMinutes, Cond.code yX0_passMinutes cX0_passMinutes 3 none, Cond.methodLink RX0 92 yX0_passMinute, Cond.instanceMethod yX0_passMinute, Cond.selects RX0 yX0_passMinute yX0_passMinute, Cond.code yX0_passMinute cX0_passMinute 5 none, Cond.methodLink RX0 101 Lib.Math.max.name, Cond.static Lib.Math.max.name, Cond.initialized "java/lang/Math", Cond.code Lib.Math.max.name Lib.Math.max.code 2 (some .int), Cond.methodLink RX0 107 Lib.Math.min.name, Cond.static Lib.Math.min.name, Cond.code Lib.Math.min.name Lib.Math.min.code 2 (some .int), Cond.constant RX0 110 (999999), Cond.methodLink RX0 95 yX0_pushNow, Cond.instanceMethod yX0_pushNow, Cond.selects RX0 yX0_pushNow yX0_pushNow, Cond.code yX0_pushNow cX0_pushNow 5 (some .int), Cond.methodLink RX0 78 yX0_isWet]
def wsX4_holdsWith_r3 : List Cond := [Cond.instanceMethod yX0_isWet, Cond.selects RX0 yX0_isWet yX0_isWet, Cond.code yX0_isWet cX0_isWet 1 (some .boolean), Cond.methodLink RX0 61 yX0_minuteOfDay, Cond.instanceMethod yX0_minuteOfDay, Cond.selects RX0 yX0_minuteOfDay yX0_minuteOfDay, Cond.code yX0_minuteOfDay cX0_minuteOfDay 1 (some .int), Cond.methodLink RX0 82 yX0_outCount, Cond.instanceMethod yX0_outCount, Cond.selects RX0 yX0_outCount yX0_outCount, Cond.code yX0_outCount cX0_outCount 3 (some .int), Cond.methodLink RX0 85 yX0_isNight, Cond.instanceMethod yX0_isNight, Cond.selects RX0 yX0_isNight yX0_isNight, Cond.code yX0_isNight cX0_isNight 1 (some .boolean), Cond.methodLink RX0 88 yX0_keepsNow, Cond.instanceMethod yX0_keepsNow, Cond.selects RX0 yX0_keepsNow yX0_keepsNow, Cond.code yX0_keepsNow cX0_keepsNow 4 (some .int), Cond.methodLink RX0 68 yX1_keeps, Cond.static yX1_keeps, Cond.initialized RX1, Cond.code yX1_keeps cX1_keeps 8 (some .int), Cond.methodLink RX0 98 yX0_weightNow]
def wsX4_holdsWith_r4 : List Cond := [Cond.instanceMethod yX0_weightNow, Cond.selects RX0 yX0_weightNow yX0_weightNow, Cond.code yX0_weightNow cX0_weightNow 1 (some .int), Cond.methodLink RX0 65 yX0_onCount, Cond.instanceMethod yX0_onCount, Cond.selects RX0 yX0_onCount yX0_onCount, Cond.code yX0_onCount cX0_onCount 3 (some .int), Cond.methodLink RX0 111 yX0_tryGrips, Cond.instanceMethod yX0_tryGrips, Cond.selects RX0 yX0_tryGrips yX0_tryGrips, Cond.code yX0_tryGrips cX0_tryGrips 2 none, Cond.methodLink RX0 114 yX0_letSpeak, Cond.instanceMethod yX0_letSpeak, Cond.selects RX0 yX0_letSpeak yX0_letSpeak, Cond.code yX0_letSpeak cX0_letSpeak 4 none, Cond.methodLink RX0 117 yX0_speaksNow, Cond.instanceMethod yX0_speaksNow, Cond.selects RX0 yX0_speaksNow yX0_speaksNow, Cond.code yX0_speaksNow cX0_speaksNow 4 (some .boolean), Cond.methodLink RX0 74 yX1_speaks, Cond.static yX1_speaks, Cond.code yX1_speaks cX1_speaks 7 (some .boolean), Cond.methodLink RX0 121 yX1_tells, Cond.static yX1_tells]
def wsX4_holdsWith_r5 : List Cond := [Cond.code yX1_tells cX1_tells 4 (some .int)]
def wsX4_holdsWith : List Cond := .code yX4_holdsWith cX4_holdsWith 4 (some .boolean) :: ((wsX4_holdsWith_r1 ++ (wsX4_holdsWith_r2 ++ (wsX4_holdsWith_r3 ++ (wsX4_holdsWith_r4 ++ wsX4_holdsWith_r5)))) ++ wsX40 ++ wsX00)
def wsX4_firm_r1 : List Cond := [Cond.fieldLink RX4 10 "UnsaidRound" "live" "LUnsaidRound$Green;", Cond.constant RX4 47 (-1000000001), Cond.constant RX4 171 (-1000000004), Cond.methodLink RX4 143 yX0_hasChild, Cond.instanceMethod yX0_hasChild, Cond.selects RX0 yX0_hasChild yX0_hasChild, Cond.initialized RX0, Cond.code yX0_hasChild cX0_hasChild 2 (some .boolean), Cond.fieldLink RX0 58 "UnsaidRound$Green" "childCount" "I", Cond.methodLink RX4 172 yX4_isNear, Cond.static yX4_isNear, Cond.initialized RX4, Cond.code yX4_isNear cX4_isNear 1 (some .boolean), Cond.methodLink RX4 48 yX4_tell, Cond.instanceMethod yX4_tell, Cond.selects RX4 yX4_tell yX4_tell, Cond.code yX4_tell cX4_tell 3 (some .int), Cond.fieldLink RX4 36 "UnsaidRound" "findings" "[I", Cond.methodLink RX4 175 yX4_holdsWith, Cond.instanceMethod yX4_holdsWith, Cond.selects RX4 yX4_holdsWith yX4_holdsWith, Cond.code yX4_holdsWith cX4_holdsWith 4 (some .boolean), Cond.fieldLink RX4 16 "UnsaidRound" "trial" "LUnsaidRound$Green;", Cond.fieldLink RX4 146 "UnsaidRound$Green" "grips" "[I"]
def wsX4_firm_r2 : List Cond := [Cond.fieldLink RX4 152 "UnsaidRound$Green" "flings" "[I", Cond.methodLink RX4 164 yX0_become, Cond.instanceMethod yX0_become, Cond.selects RX0 yX0_become yX0_become, Cond.code yX0_become cX0_become 2 none, Cond.fieldLink RX0 37 "UnsaidRound$Green" "minute" "I", Cond.fieldLink RX0 40 "UnsaidRound$Green" "wetParts" "I", Cond.fieldLink RX0 9 "UnsaidRound$Green" "heaviness" "I", Cond.fieldLink RX0 43 "UnsaidRound$Green" "speed" "I", Cond.fieldLink RX0 46 "UnsaidRound$Green" "turned" "I", Cond.fieldLink RX0 49 "UnsaidRound$Green" "motherCount" "I", Cond.fieldLink RX0 15 "UnsaidRound$Green" "kinds" "[I", Cond.methodLink RX0 52 arraycopyName, Cond.native arraycopyName, Cond.static arraycopyName, Cond.initialized "java/lang/System", Cond.fieldLink RX0 19 "UnsaidRound$Green" "outs" "[I", Cond.fieldLink RX0 22 "UnsaidRound$Green" "secrets" "[I", Cond.fieldLink RX0 25 "UnsaidRound$Green" "silents" "[I", Cond.fieldLink RX0 28 "UnsaidRound$Green" "grips" "[I", Cond.fieldLink RX0 31 "UnsaidRound$Green" "rides" "[I", Cond.fieldLink RX0 34 "UnsaidRound$Green" "flings" "[I", Cond.methodLink RX4 160 yX0_passMinutes, Cond.instanceMethod yX0_passMinutes]
def wsX4_firm_r3 : List Cond := [Cond.selects RX0 yX0_passMinutes yX0_passMinutes, Cond.code yX0_passMinutes cX0_passMinutes 3 none, Cond.methodLink RX0 92 yX0_passMinute, Cond.instanceMethod yX0_passMinute, Cond.selects RX0 yX0_passMinute yX0_passMinute, Cond.code yX0_passMinute cX0_passMinute 5 none, Cond.methodLink RX0 101 Lib.Math.max.name, Cond.static Lib.Math.max.name, Cond.initialized "java/lang/Math", Cond.code Lib.Math.max.name Lib.Math.max.code 2 (some .int), Cond.methodLink RX0 107 Lib.Math.min.name, Cond.static Lib.Math.min.name, Cond.code Lib.Math.min.name Lib.Math.min.code 2 (some .int), Cond.constant RX0 110 (999999), Cond.methodLink RX0 95 yX0_pushNow, Cond.instanceMethod yX0_pushNow, Cond.selects RX0 yX0_pushNow yX0_pushNow, Cond.code yX0_pushNow cX0_pushNow 5 (some .int), Cond.methodLink RX0 78 yX0_isWet, Cond.instanceMethod yX0_isWet, Cond.selects RX0 yX0_isWet yX0_isWet, Cond.code yX0_isWet cX0_isWet 1 (some .boolean), Cond.methodLink RX0 61 yX0_minuteOfDay, Cond.instanceMethod yX0_minuteOfDay]
def wsX4_firm_r4 : List Cond := [Cond.selects RX0 yX0_minuteOfDay yX0_minuteOfDay, Cond.code yX0_minuteOfDay cX0_minuteOfDay 1 (some .int), Cond.methodLink RX0 82 yX0_outCount, Cond.instanceMethod yX0_outCount, Cond.selects RX0 yX0_outCount yX0_outCount, Cond.code yX0_outCount cX0_outCount 3 (some .int), Cond.methodLink RX0 85 yX0_isNight, Cond.instanceMethod yX0_isNight, Cond.selects RX0 yX0_isNight yX0_isNight, Cond.code yX0_isNight cX0_isNight 1 (some .boolean), Cond.methodLink RX0 88 yX0_keepsNow, Cond.instanceMethod yX0_keepsNow, Cond.selects RX0 yX0_keepsNow yX0_keepsNow, Cond.code yX0_keepsNow cX0_keepsNow 4 (some .int), Cond.methodLink RX0 68 yX1_keeps, Cond.static yX1_keeps, Cond.initialized RX1, Cond.code yX1_keeps cX1_keeps 8 (some .int), Cond.methodLink RX0 98 yX0_weightNow, Cond.instanceMethod yX0_weightNow, Cond.selects RX0 yX0_weightNow yX0_weightNow, Cond.code yX0_weightNow cX0_weightNow 1 (some .int), Cond.methodLink RX0 65 yX0_onCount, Cond.instanceMethod yX0_onCount]
def wsX4_firm_r5 : List Cond := [Cond.selects RX0 yX0_onCount yX0_onCount, Cond.code yX0_onCount cX0_onCount 3 (some .int), Cond.methodLink RX0 111 yX0_tryGrips, Cond.instanceMethod yX0_tryGrips, Cond.selects RX0 yX0_tryGrips yX0_tryGrips, Cond.code yX0_tryGrips cX0_tryGrips 2 none, Cond.methodLink RX0 114 yX0_letSpeak, Cond.instanceMethod yX0_letSpeak, Cond.selects RX0 yX0_letSpeak yX0_letSpeak, Cond.code yX0_letSpeak cX0_letSpeak 4 none, Cond.methodLink RX0 117 yX0_speaksNow, Cond.instanceMethod yX0_speaksNow, Cond.selects RX0 yX0_speaksNow yX0_speaksNow, Cond.code yX0_speaksNow cX0_speaksNow 4 (some .boolean), Cond.methodLink RX0 74 yX1_speaks, Cond.static yX1_speaks, Cond.code yX1_speaks cX1_speaks 7 (some .boolean), Cond.methodLink RX0 121 yX1_tells, Cond.static yX1_tells, Cond.code yX1_tells cX1_tells 4 (some .int)]
def wsX4_firm : List Cond := .code yX4_firm cX4_firm 7 (some .int) :: ((wsX4_firm_r1 ++ (wsX4_firm_r2 ++ (wsX4_firm_r3 ++ (wsX4_firm_r4 ++ wsX4_firm_r5)))) ++ wsX40 ++ wsX00)
def wsX4_heavy_r1 : List Cond := [Cond.constant RX4 47 (-1000000001), Cond.fieldLink RX4 10 "UnsaidRound" "live" "LUnsaidRound$Green;", Cond.fieldLink RX4 16 "UnsaidRound" "trial" "LUnsaidRound$Green;", Cond.fieldLink RX4 40 "UnsaidRound$Green" "heaviness" "I", Cond.constant RX4 171 (-1000000004), Cond.methodLink RX4 172 yX4_isNear, Cond.static yX4_isNear, Cond.initialized RX4, Cond.code yX4_isNear cX4_isNear 1 (some .boolean), Cond.methodLink RX4 48 yX4_tell, Cond.instanceMethod yX4_tell, Cond.selects RX4 yX4_tell yX4_tell, Cond.code yX4_tell cX4_tell 3 (some .int), Cond.fieldLink RX4 36 "UnsaidRound" "findings" "[I", Cond.methodLink RX4 179 yX0_flingsOfAll, Cond.instanceMethod yX0_flingsOfAll, Cond.selects RX0 yX0_flingsOfAll yX0_flingsOfAll, Cond.initialized RX0, Cond.code yX0_flingsOfAll cX0_flingsOfAll 3 (some .int), Cond.fieldLink RX0 58 "UnsaidRound$Green" "childCount" "I", Cond.fieldLink RX0 34 "UnsaidRound$Green" "flings" "[I", Cond.methodLink RX4 164 yX0_become, Cond.instanceMethod yX0_become, Cond.selects RX0 yX0_become yX0_become]
def wsX4_heavy_r2 : List Cond := [Cond.code yX0_become cX0_become 2 none, Cond.fieldLink RX0 37 "UnsaidRound$Green" "minute" "I", Cond.fieldLink RX0 40 "UnsaidRound$Green" "wetParts" "I", Cond.fieldLink RX0 9 "UnsaidRound$Green" "heaviness" "I", Cond.fieldLink RX0 43 "UnsaidRound$Green" "speed" "I", Cond.fieldLink RX0 46 "UnsaidRound$Green" "turned" "I", Cond.fieldLink RX0 49 "UnsaidRound$Green" "motherCount" "I", Cond.fieldLink RX0 15 "UnsaidRound$Green" "kinds" "[I", Cond.methodLink RX0 52 arraycopyName, Cond.native arraycopyName, Cond.static arraycopyName, Cond.initialized "java/lang/System", Cond.fieldLink RX0 19 "UnsaidRound$Green" "outs" "[I", Cond.fieldLink RX0 22 "UnsaidRound$Green" "secrets" "[I", Cond.fieldLink RX0 25 "UnsaidRound$Green" "silents" "[I", Cond.fieldLink RX0 28 "UnsaidRound$Green" "grips" "[I", Cond.fieldLink RX0 31 "UnsaidRound$Green" "rides" "[I", Cond.methodLink RX4 160 yX0_passMinutes, Cond.instanceMethod yX0_passMinutes, Cond.selects RX0 yX0_passMinutes yX0_passMinutes, Cond.code yX0_passMinutes cX0_passMinutes 3 none, Cond.methodLink RX0 92 yX0_passMinute, Cond.instanceMethod yX0_passMinute, Cond.selects RX0 yX0_passMinute yX0_passMinute]
def wsX4_heavy_r3 : List Cond := [Cond.code yX0_passMinute cX0_passMinute 5 none, Cond.methodLink RX0 101 Lib.Math.max.name, Cond.static Lib.Math.max.name, Cond.initialized "java/lang/Math", Cond.code Lib.Math.max.name Lib.Math.max.code 2 (some .int), Cond.methodLink RX0 107 Lib.Math.min.name, Cond.static Lib.Math.min.name, Cond.code Lib.Math.min.name Lib.Math.min.code 2 (some .int), Cond.constant RX0 110 (999999), Cond.methodLink RX0 95 yX0_pushNow, Cond.instanceMethod yX0_pushNow, Cond.selects RX0 yX0_pushNow yX0_pushNow, Cond.code yX0_pushNow cX0_pushNow 5 (some .int), Cond.methodLink RX0 78 yX0_isWet, Cond.instanceMethod yX0_isWet, Cond.selects RX0 yX0_isWet yX0_isWet, Cond.code yX0_isWet cX0_isWet 1 (some .boolean), Cond.methodLink RX0 61 yX0_minuteOfDay, Cond.instanceMethod yX0_minuteOfDay, Cond.selects RX0 yX0_minuteOfDay yX0_minuteOfDay, Cond.code yX0_minuteOfDay cX0_minuteOfDay 1 (some .int), Cond.methodLink RX0 82 yX0_outCount, Cond.instanceMethod yX0_outCount, Cond.selects RX0 yX0_outCount yX0_outCount]
def wsX4_heavy_r4 : List Cond := [Cond.code yX0_outCount cX0_outCount 3 (some .int), Cond.methodLink RX0 85 yX0_isNight, Cond.instanceMethod yX0_isNight, Cond.selects RX0 yX0_isNight yX0_isNight, Cond.code yX0_isNight cX0_isNight 1 (some .boolean), Cond.methodLink RX0 88 yX0_keepsNow, Cond.instanceMethod yX0_keepsNow, Cond.selects RX0 yX0_keepsNow yX0_keepsNow, Cond.code yX0_keepsNow cX0_keepsNow 4 (some .int), Cond.methodLink RX0 68 yX1_keeps, Cond.static yX1_keeps, Cond.initialized RX1, Cond.code yX1_keeps cX1_keeps 8 (some .int), Cond.methodLink RX0 98 yX0_weightNow, Cond.instanceMethod yX0_weightNow, Cond.selects RX0 yX0_weightNow yX0_weightNow, Cond.code yX0_weightNow cX0_weightNow 1 (some .int), Cond.methodLink RX0 65 yX0_onCount, Cond.instanceMethod yX0_onCount, Cond.selects RX0 yX0_onCount yX0_onCount, Cond.code yX0_onCount cX0_onCount 3 (some .int), Cond.methodLink RX0 111 yX0_tryGrips, Cond.instanceMethod yX0_tryGrips, Cond.selects RX0 yX0_tryGrips yX0_tryGrips]
def wsX4_heavy_r5 : List Cond := [Cond.code yX0_tryGrips cX0_tryGrips 2 none, Cond.methodLink RX0 114 yX0_letSpeak, Cond.instanceMethod yX0_letSpeak, Cond.selects RX0 yX0_letSpeak yX0_letSpeak, Cond.code yX0_letSpeak cX0_letSpeak 4 none, Cond.methodLink RX0 117 yX0_speaksNow, Cond.instanceMethod yX0_speaksNow, Cond.selects RX0 yX0_speaksNow yX0_speaksNow, Cond.code yX0_speaksNow cX0_speaksNow 4 (some .boolean), Cond.methodLink RX0 74 yX1_speaks, Cond.static yX1_speaks, Cond.code yX1_speaks cX1_speaks 7 (some .boolean), Cond.methodLink RX0 121 yX1_tells, Cond.static yX1_tells, Cond.code yX1_tells cX1_tells 4 (some .int)]
def wsX4_heavy : List Cond := .code yX4_heavy cX4_heavy 4 (some .int) :: ((wsX4_heavy_r1 ++ (wsX4_heavy_r2 ++ (wsX4_heavy_r3 ++ (wsX4_heavy_r4 ++ wsX4_heavy_r5)))) ++ wsX40 ++ wsX00)
def wsJ6_bitCount_0f7a4 : List Cond := .code yJ6_bitCount_0f7a4 cJ6_bitCount_0f7a4 1 (some .int) :: ([.constant RJ6 265 (1431655765), .constant RJ6 266 (858993459), .constant RJ6 267 (252645135)])
def wsX4_pushWith_r1 : List Cond := [Cond.fieldLink RX4 16 "UnsaidRound" "trial" "LUnsaidRound$Green;", Cond.fieldLink RX4 10 "UnsaidRound" "live" "LUnsaidRound$Green;", Cond.fieldLink RX4 90 "UnsaidRound$Green" "motherCount" "I", Cond.methodLink RX4 164 yX0_become, Cond.instanceMethod yX0_become, Cond.selects RX0 yX0_become yX0_become, Cond.initialized RX0, Cond.code yX0_become cX0_become 2 none, Cond.fieldLink RX0 37 "UnsaidRound$Green" "minute" "I", Cond.fieldLink RX0 40 "UnsaidRound$Green" "wetParts" "I", Cond.fieldLink RX0 9 "UnsaidRound$Green" "heaviness" "I", Cond.fieldLink RX0 43 "UnsaidRound$Green" "speed" "I", Cond.fieldLink RX0 46 "UnsaidRound$Green" "turned" "I", Cond.fieldLink RX0 49 "UnsaidRound$Green" "motherCount" "I", Cond.fieldLink RX0 15 "UnsaidRound$Green" "kinds" "[I", Cond.methodLink RX0 52 arraycopyName, Cond.native arraycopyName, Cond.static arraycopyName, Cond.initialized "java/lang/System", Cond.fieldLink RX0 19 "UnsaidRound$Green" "outs" "[I", Cond.fieldLink RX0 22 "UnsaidRound$Green" "secrets" "[I", Cond.fieldLink RX0 25 "UnsaidRound$Green" "silents" "[I", Cond.fieldLink RX0 58 "UnsaidRound$Green" "childCount" "I", Cond.fieldLink RX0 28 "UnsaidRound$Green" "grips" "[I"]
def wsX4_pushWith_r2 : List Cond := [Cond.fieldLink RX0 31 "UnsaidRound$Green" "rides" "[I", Cond.fieldLink RX0 34 "UnsaidRound$Green" "flings" "[I", Cond.methodLink RX4 127 yX0_moveMother, Cond.instanceMethod yX0_moveMother, Cond.selects RX0 yX0_moveMother yX0_moveMother, Cond.code yX0_moveMother cX0_moveMother 3 none, Cond.methodLink RX4 75 yX0_pushNow, Cond.instanceMethod yX0_pushNow, Cond.selects RX0 yX0_pushNow yX0_pushNow, Cond.code yX0_pushNow cX0_pushNow 5 (some .int), Cond.methodLink RX0 78 yX0_isWet, Cond.instanceMethod yX0_isWet, Cond.selects RX0 yX0_isWet yX0_isWet, Cond.code yX0_isWet cX0_isWet 1 (some .boolean), Cond.methodLink RX0 61 yX0_minuteOfDay, Cond.instanceMethod yX0_minuteOfDay, Cond.selects RX0 yX0_minuteOfDay yX0_minuteOfDay, Cond.code yX0_minuteOfDay cX0_minuteOfDay 1 (some .int), Cond.methodLink RX0 82 yX0_outCount, Cond.instanceMethod yX0_outCount, Cond.selects RX0 yX0_outCount yX0_outCount, Cond.code yX0_outCount cX0_outCount 3 (some .int), Cond.methodLink RX0 85 yX0_isNight, Cond.instanceMethod yX0_isNight]
def wsX4_pushWith_r3 : List Cond := [Cond.selects RX0 yX0_isNight yX0_isNight, Cond.code yX0_isNight cX0_isNight 1 (some .boolean), Cond.methodLink RX0 88 yX0_keepsNow, Cond.instanceMethod yX0_keepsNow, Cond.selects RX0 yX0_keepsNow yX0_keepsNow, Cond.code yX0_keepsNow cX0_keepsNow 4 (some .int), Cond.methodLink RX0 68 yX1_keeps, Cond.static yX1_keeps, Cond.initialized RX1, Cond.code yX1_keeps cX1_keeps 8 (some .int)]
def wsX4_pushWith : List Cond := .code yX4_pushWith cX4_pushWith 3 (some .int) :: ((wsX4_pushWith_r1 ++ (wsX4_pushWith_r2 ++ wsX4_pushWith_r3)) ++ wsX40 ++ wsX00)
def wsX4_fewest_r1 : List Cond := [Cond.constant RX4 47 (-1000000001), Cond.fieldLink RX4 10 "UnsaidRound" "live" "LUnsaidRound$Green;", Cond.fieldLink RX4 90 "UnsaidRound$Green" "motherCount" "I", Cond.constant RX4 171 (-1000000004), Cond.methodLink RX4 48 yX4_tell, Cond.instanceMethod yX4_tell, Cond.selects RX4 yX4_tell yX4_tell, Cond.initialized RX4, Cond.code yX4_tell cX4_tell 3 (some .int), Cond.fieldLink RX4 36 "UnsaidRound" "findings" "[I", Cond.methodLink RX4 78 yX0_outSet, Cond.instanceMethod yX0_outSet, Cond.selects RX0 yX0_outSet yX0_outSet, Cond.initialized RX0, Cond.code yX0_outSet cX0_outSet 3 (some .int), Cond.fieldLink RX0 49 "UnsaidRound$Green" "motherCount" "I", Cond.fieldLink RX0 19 "UnsaidRound$Green" "outs" "[I", Cond.methodLink RX4 182 yJ6_bitCount_0f7a4, Cond.static yJ6_bitCount_0f7a4, Cond.initialized RJ6, Cond.code yJ6_bitCount_0f7a4 cJ6_bitCount_0f7a4 1 (some .int), Cond.constant RJ6 265 (1431655765), Cond.constant RJ6 266 (858993459), Cond.constant RJ6 267 (252645135)]
def wsX4_fewest_r2 : List Cond := [Cond.methodLink RX4 187 yX4_pushWith, Cond.instanceMethod yX4_pushWith, Cond.selects RX4 yX4_pushWith yX4_pushWith, Cond.code yX4_pushWith cX4_pushWith 3 (some .int), Cond.fieldLink RX4 16 "UnsaidRound" "trial" "LUnsaidRound$Green;", Cond.methodLink RX4 164 yX0_become, Cond.instanceMethod yX0_become, Cond.selects RX0 yX0_become yX0_become, Cond.code yX0_become cX0_become 2 none, Cond.fieldLink RX0 37 "UnsaidRound$Green" "minute" "I", Cond.fieldLink RX0 40 "UnsaidRound$Green" "wetParts" "I", Cond.fieldLink RX0 9 "UnsaidRound$Green" "heaviness" "I", Cond.fieldLink RX0 43 "UnsaidRound$Green" "speed" "I", Cond.fieldLink RX0 46 "UnsaidRound$Green" "turned" "I", Cond.fieldLink RX0 15 "UnsaidRound$Green" "kinds" "[I", Cond.methodLink RX0 52 arraycopyName, Cond.native arraycopyName, Cond.static arraycopyName, Cond.initialized "java/lang/System", Cond.fieldLink RX0 22 "UnsaidRound$Green" "secrets" "[I", Cond.fieldLink RX0 25 "UnsaidRound$Green" "silents" "[I", Cond.fieldLink RX0 58 "UnsaidRound$Green" "childCount" "I", Cond.fieldLink RX0 28 "UnsaidRound$Green" "grips" "[I", Cond.fieldLink RX0 31 "UnsaidRound$Green" "rides" "[I"]
def wsX4_fewest_r3 : List Cond := [Cond.fieldLink RX0 34 "UnsaidRound$Green" "flings" "[I", Cond.methodLink RX4 127 yX0_moveMother, Cond.instanceMethod yX0_moveMother, Cond.selects RX0 yX0_moveMother yX0_moveMother, Cond.code yX0_moveMother cX0_moveMother 3 none, Cond.methodLink RX4 75 yX0_pushNow, Cond.instanceMethod yX0_pushNow, Cond.selects RX0 yX0_pushNow yX0_pushNow, Cond.code yX0_pushNow cX0_pushNow 5 (some .int), Cond.methodLink RX0 78 yX0_isWet, Cond.instanceMethod yX0_isWet, Cond.selects RX0 yX0_isWet yX0_isWet, Cond.code yX0_isWet cX0_isWet 1 (some .boolean), Cond.methodLink RX0 61 yX0_minuteOfDay, Cond.instanceMethod yX0_minuteOfDay, Cond.selects RX0 yX0_minuteOfDay yX0_minuteOfDay, Cond.code yX0_minuteOfDay cX0_minuteOfDay 1 (some .int), Cond.methodLink RX0 82 yX0_outCount, Cond.instanceMethod yX0_outCount, Cond.selects RX0 yX0_outCount yX0_outCount, Cond.code yX0_outCount cX0_outCount 3 (some .int), Cond.methodLink RX0 85 yX0_isNight, Cond.instanceMethod yX0_isNight, Cond.selects RX0 yX0_isNight yX0_isNight]
def wsX4_fewest_r4 : List Cond := [Cond.code yX0_isNight cX0_isNight 1 (some .boolean), Cond.methodLink RX0 88 yX0_keepsNow, Cond.instanceMethod yX0_keepsNow, Cond.selects RX0 yX0_keepsNow yX0_keepsNow, Cond.code yX0_keepsNow cX0_keepsNow 4 (some .int), Cond.methodLink RX0 68 yX1_keeps, Cond.static yX1_keeps, Cond.initialized RX1, Cond.code yX1_keeps cX1_keeps 8 (some .int)]
def wsX4_fewest : List Cond := .code yX4_fewest cX4_fewest 8 (some .int) :: ((wsX4_fewest_r1 ++ (wsX4_fewest_r2 ++ (wsX4_fewest_r3 ++ wsX4_fewest_r4))) ++ wsX40 ++ wsX00)
def wsX4_weather_r1 : List Cond := [Cond.constant RX4 47 (-1000000001), Cond.fieldLink RX4 16 "UnsaidRound" "trial" "LUnsaidRound$Green;", Cond.fieldLink RX4 10 "UnsaidRound" "live" "LUnsaidRound$Green;", Cond.fieldLink RX4 69 "UnsaidRound$Green" "turned" "I", Cond.fieldLink RX4 52 "UnsaidRound$Green" "wetParts" "I", Cond.methodLink RX4 190 Lib.Math.abs.name, Cond.static Lib.Math.abs.name, Cond.initialized "java/lang/Math", Cond.code Lib.Math.abs.name Lib.Math.abs.code 1 (some .int), Cond.methodLink RX4 172 yX4_isNear, Cond.static yX4_isNear, Cond.initialized RX4, Cond.code yX4_isNear cX4_isNear 1 (some .boolean), Cond.methodLink RX4 48 yX4_tell, Cond.instanceMethod yX4_tell, Cond.selects RX4 yX4_tell yX4_tell, Cond.code yX4_tell cX4_tell 3 (some .int), Cond.fieldLink RX4 36 "UnsaidRound" "findings" "[I", Cond.methodLink RX4 164 yX0_become, Cond.instanceMethod yX0_become, Cond.selects RX0 yX0_become yX0_become, Cond.initialized RX0, Cond.code yX0_become cX0_become 2 none, Cond.fieldLink RX0 37 "UnsaidRound$Green" "minute" "I"]
def wsX4_weather_r2 : List Cond := [Cond.fieldLink RX0 40 "UnsaidRound$Green" "wetParts" "I", Cond.fieldLink RX0 9 "UnsaidRound$Green" "heaviness" "I", Cond.fieldLink RX0 43 "UnsaidRound$Green" "speed" "I", Cond.fieldLink RX0 46 "UnsaidRound$Green" "turned" "I", Cond.fieldLink RX0 49 "UnsaidRound$Green" "motherCount" "I", Cond.fieldLink RX0 15 "UnsaidRound$Green" "kinds" "[I", Cond.methodLink RX0 52 arraycopyName, Cond.native arraycopyName, Cond.static arraycopyName, Cond.initialized "java/lang/System", Cond.fieldLink RX0 19 "UnsaidRound$Green" "outs" "[I", Cond.fieldLink RX0 22 "UnsaidRound$Green" "secrets" "[I", Cond.fieldLink RX0 25 "UnsaidRound$Green" "silents" "[I", Cond.fieldLink RX0 58 "UnsaidRound$Green" "childCount" "I", Cond.fieldLink RX0 28 "UnsaidRound$Green" "grips" "[I", Cond.fieldLink RX0 31 "UnsaidRound$Green" "rides" "[I", Cond.fieldLink RX0 34 "UnsaidRound$Green" "flings" "[I", Cond.methodLink RX4 160 yX0_passMinutes, Cond.instanceMethod yX0_passMinutes, Cond.selects RX0 yX0_passMinutes yX0_passMinutes, Cond.code yX0_passMinutes cX0_passMinutes 3 none, Cond.methodLink RX0 92 yX0_passMinute, Cond.instanceMethod yX0_passMinute, Cond.selects RX0 yX0_passMinute yX0_passMinute]
def wsX4_weather_r3 : List Cond := [Cond.code yX0_passMinute cX0_passMinute 5 none, Cond.methodLink RX0 101 Lib.Math.max.name, Cond.static Lib.Math.max.name, Cond.code Lib.Math.max.name Lib.Math.max.code 2 (some .int), Cond.methodLink RX0 107 Lib.Math.min.name, Cond.static Lib.Math.min.name, Cond.code Lib.Math.min.name Lib.Math.min.code 2 (some .int), Cond.constant RX0 110 (999999), Cond.methodLink RX0 95 yX0_pushNow, Cond.instanceMethod yX0_pushNow, Cond.selects RX0 yX0_pushNow yX0_pushNow, Cond.code yX0_pushNow cX0_pushNow 5 (some .int), Cond.methodLink RX0 78 yX0_isWet, Cond.instanceMethod yX0_isWet, Cond.selects RX0 yX0_isWet yX0_isWet, Cond.code yX0_isWet cX0_isWet 1 (some .boolean), Cond.methodLink RX0 61 yX0_minuteOfDay, Cond.instanceMethod yX0_minuteOfDay, Cond.selects RX0 yX0_minuteOfDay yX0_minuteOfDay, Cond.code yX0_minuteOfDay cX0_minuteOfDay 1 (some .int), Cond.methodLink RX0 82 yX0_outCount, Cond.instanceMethod yX0_outCount, Cond.selects RX0 yX0_outCount yX0_outCount, Cond.code yX0_outCount cX0_outCount 3 (some .int)]
def wsX4_weather_r4 : List Cond := [Cond.methodLink RX0 85 yX0_isNight, Cond.instanceMethod yX0_isNight, Cond.selects RX0 yX0_isNight yX0_isNight, Cond.code yX0_isNight cX0_isNight 1 (some .boolean), Cond.methodLink RX0 88 yX0_keepsNow, Cond.instanceMethod yX0_keepsNow, Cond.selects RX0 yX0_keepsNow yX0_keepsNow, Cond.code yX0_keepsNow cX0_keepsNow 4 (some .int), Cond.methodLink RX0 68 yX1_keeps, Cond.static yX1_keeps, Cond.initialized RX1, Cond.code yX1_keeps cX1_keeps 8 (some .int), Cond.methodLink RX0 98 yX0_weightNow, Cond.instanceMethod yX0_weightNow, Cond.selects RX0 yX0_weightNow yX0_weightNow, Cond.code yX0_weightNow cX0_weightNow 1 (some .int), Cond.methodLink RX0 65 yX0_onCount, Cond.instanceMethod yX0_onCount, Cond.selects RX0 yX0_onCount yX0_onCount, Cond.code yX0_onCount cX0_onCount 3 (some .int), Cond.methodLink RX0 111 yX0_tryGrips, Cond.instanceMethod yX0_tryGrips, Cond.selects RX0 yX0_tryGrips yX0_tryGrips, Cond.code yX0_tryGrips cX0_tryGrips 2 none]
def wsX4_weather_r5 : List Cond := [Cond.methodLink RX0 114 yX0_letSpeak, Cond.instanceMethod yX0_letSpeak, Cond.selects RX0 yX0_letSpeak yX0_letSpeak, Cond.code yX0_letSpeak cX0_letSpeak 4 none, Cond.methodLink RX0 117 yX0_speaksNow, Cond.instanceMethod yX0_speaksNow, Cond.selects RX0 yX0_speaksNow yX0_speaksNow, Cond.code yX0_speaksNow cX0_speaksNow 4 (some .boolean), Cond.methodLink RX0 74 yX1_speaks, Cond.static yX1_speaks, Cond.code yX1_speaks cX1_speaks 7 (some .boolean), Cond.methodLink RX0 121 yX1_tells, Cond.static yX1_tells, Cond.code yX1_tells cX1_tells 4 (some .int)]
def wsX4_weather : List Cond := .code yX4_weather cX4_weather 7 (some .int) :: ((wsX4_weather_r1 ++ (wsX4_weather_r2 ++ (wsX4_weather_r3 ++ (wsX4_weather_r4 ++ wsX4_weather_r5)))) ++ wsX40 ++ wsX00)
def wsX4_deepest_r1 : List Cond := [Cond.constant RX4 47 (-1000000001), Cond.fieldLink RX4 16 "UnsaidRound" "trial" "LUnsaidRound$Green;", Cond.fieldLink RX4 10 "UnsaidRound" "live" "LUnsaidRound$Green;", Cond.fieldLink RX4 90 "UnsaidRound$Green" "motherCount" "I", Cond.fieldLink RX4 104 "UnsaidRound$Green" "outs" "[I", Cond.constant RX4 171 (-1000000004), Cond.methodLink RX4 48 yX4_tell, Cond.instanceMethod yX4_tell, Cond.selects RX4 yX4_tell yX4_tell, Cond.initialized RX4, Cond.code yX4_tell cX4_tell 3 (some .int), Cond.fieldLink RX4 36 "UnsaidRound" "findings" "[I", Cond.methodLink RX4 164 yX0_become, Cond.instanceMethod yX0_become, Cond.selects RX0 yX0_become yX0_become, Cond.initialized RX0, Cond.code yX0_become cX0_become 2 none, Cond.fieldLink RX0 37 "UnsaidRound$Green" "minute" "I", Cond.fieldLink RX0 40 "UnsaidRound$Green" "wetParts" "I", Cond.fieldLink RX0 9 "UnsaidRound$Green" "heaviness" "I", Cond.fieldLink RX0 43 "UnsaidRound$Green" "speed" "I", Cond.fieldLink RX0 46 "UnsaidRound$Green" "turned" "I", Cond.fieldLink RX0 49 "UnsaidRound$Green" "motherCount" "I", Cond.fieldLink RX0 15 "UnsaidRound$Green" "kinds" "[I"]
def wsX4_deepest_r2 : List Cond := [Cond.methodLink RX0 52 arraycopyName, Cond.native arraycopyName, Cond.static arraycopyName, Cond.initialized "java/lang/System", Cond.fieldLink RX0 19 "UnsaidRound$Green" "outs" "[I", Cond.fieldLink RX0 22 "UnsaidRound$Green" "secrets" "[I", Cond.fieldLink RX0 25 "UnsaidRound$Green" "silents" "[I", Cond.fieldLink RX0 58 "UnsaidRound$Green" "childCount" "I", Cond.fieldLink RX0 28 "UnsaidRound$Green" "grips" "[I", Cond.fieldLink RX0 31 "UnsaidRound$Green" "rides" "[I", Cond.fieldLink RX0 34 "UnsaidRound$Green" "flings" "[I", Cond.methodLink RX4 160 yX0_passMinutes, Cond.instanceMethod yX0_passMinutes, Cond.selects RX0 yX0_passMinutes yX0_passMinutes, Cond.code yX0_passMinutes cX0_passMinutes 3 none, Cond.methodLink RX0 92 yX0_passMinute, Cond.instanceMethod yX0_passMinute, Cond.selects RX0 yX0_passMinute yX0_passMinute, Cond.code yX0_passMinute cX0_passMinute 5 none, Cond.methodLink RX0 101 Lib.Math.max.name, Cond.static Lib.Math.max.name, Cond.initialized "java/lang/Math", Cond.code Lib.Math.max.name Lib.Math.max.code 2 (some .int), Cond.methodLink RX0 107 Lib.Math.min.name]
def wsX4_deepest_r3 : List Cond := [Cond.static Lib.Math.min.name, Cond.code Lib.Math.min.name Lib.Math.min.code 2 (some .int), Cond.constant RX0 110 (999999), Cond.methodLink RX0 95 yX0_pushNow, Cond.instanceMethod yX0_pushNow, Cond.selects RX0 yX0_pushNow yX0_pushNow, Cond.code yX0_pushNow cX0_pushNow 5 (some .int), Cond.methodLink RX0 78 yX0_isWet, Cond.instanceMethod yX0_isWet, Cond.selects RX0 yX0_isWet yX0_isWet, Cond.code yX0_isWet cX0_isWet 1 (some .boolean), Cond.methodLink RX0 61 yX0_minuteOfDay, Cond.instanceMethod yX0_minuteOfDay, Cond.selects RX0 yX0_minuteOfDay yX0_minuteOfDay, Cond.code yX0_minuteOfDay cX0_minuteOfDay 1 (some .int), Cond.methodLink RX0 82 yX0_outCount, Cond.instanceMethod yX0_outCount, Cond.selects RX0 yX0_outCount yX0_outCount, Cond.code yX0_outCount cX0_outCount 3 (some .int), Cond.methodLink RX0 85 yX0_isNight, Cond.instanceMethod yX0_isNight, Cond.selects RX0 yX0_isNight yX0_isNight, Cond.code yX0_isNight cX0_isNight 1 (some .boolean), Cond.methodLink RX0 88 yX0_keepsNow]
def wsX4_deepest_r4 : List Cond := [Cond.instanceMethod yX0_keepsNow, Cond.selects RX0 yX0_keepsNow yX0_keepsNow, Cond.code yX0_keepsNow cX0_keepsNow 4 (some .int), Cond.methodLink RX0 68 yX1_keeps, Cond.static yX1_keeps, Cond.initialized RX1, Cond.code yX1_keeps cX1_keeps 8 (some .int), Cond.methodLink RX0 98 yX0_weightNow, Cond.instanceMethod yX0_weightNow, Cond.selects RX0 yX0_weightNow yX0_weightNow, Cond.code yX0_weightNow cX0_weightNow 1 (some .int), Cond.methodLink RX0 65 yX0_onCount, Cond.instanceMethod yX0_onCount, Cond.selects RX0 yX0_onCount yX0_onCount, Cond.code yX0_onCount cX0_onCount 3 (some .int), Cond.methodLink RX0 111 yX0_tryGrips, Cond.instanceMethod yX0_tryGrips, Cond.selects RX0 yX0_tryGrips yX0_tryGrips, Cond.code yX0_tryGrips cX0_tryGrips 2 none, Cond.methodLink RX0 114 yX0_letSpeak, Cond.instanceMethod yX0_letSpeak, Cond.selects RX0 yX0_letSpeak yX0_letSpeak, Cond.code yX0_letSpeak cX0_letSpeak 4 none, Cond.methodLink RX0 117 yX0_speaksNow]
def wsX4_deepest_r5 : List Cond := [Cond.instanceMethod yX0_speaksNow, Cond.selects RX0 yX0_speaksNow yX0_speaksNow, Cond.code yX0_speaksNow cX0_speaksNow 4 (some .boolean), Cond.methodLink RX0 74 yX1_speaks, Cond.static yX1_speaks, Cond.code yX1_speaks cX1_speaks 7 (some .boolean), Cond.methodLink RX0 121 yX1_tells, Cond.static yX1_tells, Cond.code yX1_tells cX1_tells 4 (some .int), Cond.methodLink RX4 113 yX0_outCount, Cond.methodLink RX4 62 yX0_isNight, Cond.methodLink RX4 116 yX0_keepsNow]
def wsX4_deepest : List Cond := .code yX4_deepest cX4_deepest 8 (some .int) :: ((wsX4_deepest_r1 ++ (wsX4_deepest_r2 ++ (wsX4_deepest_r3 ++ (wsX4_deepest_r4 ++ wsX4_deepest_r5)))) ++ wsX40 ++ wsX00)
def wsX4_feed : List Cond := .code yX4_feed cX4_feed 4 (some .int) :: ([.constant RX4 47 (-1000000001), .fieldLink RX4 25 "UnsaidRound" "tape" "LUnsaidRound$Tape;", .fieldLink RX4 195 "UnsaidRound$Tape" "length" "I", .constant RX4 93 (-1000000002), .fieldLink RX4 198 "UnsaidRound$Tape" "bytes" "[I", .methodLink RX4 48 yX4_tell, .instanceMethod yX4_tell, .selects RX4 yX4_tell yX4_tell, .initialized RX4, .code yX4_tell cX4_tell 3 (some .int), .fieldLink RX4 36 "UnsaidRound" "findings" "[I"] ++ wsX40 ++ wsX30)
def wsX4_wipe : List Cond := .code yX4_wipe cX4_wipe 2 (some .int) :: ([.fieldLink RX4 25 "UnsaidRound" "tape" "LUnsaidRound$Tape;", .fieldLink RX4 195 "UnsaidRound$Tape" "length" "I"] ++ wsX40 ++ wsX30)
def wsX4_green_r1 : List Cond := [Cond.fieldLink RX4 16 "UnsaidRound" "trial" "LUnsaidRound$Green;", Cond.fieldLink RX4 10 "UnsaidRound" "live" "LUnsaidRound$Green;", Cond.fieldLink RX4 25 "UnsaidRound" "tape" "LUnsaidRound$Tape;", Cond.fieldLink RX4 195 "UnsaidRound$Tape" "length" "I", Cond.methodLink RX4 164 yX0_become, Cond.instanceMethod yX0_become, Cond.selects RX0 yX0_become yX0_become, Cond.initialized RX0, Cond.code yX0_become cX0_become 2 none, Cond.fieldLink RX0 37 "UnsaidRound$Green" "minute" "I", Cond.fieldLink RX0 40 "UnsaidRound$Green" "wetParts" "I", Cond.fieldLink RX0 9 "UnsaidRound$Green" "heaviness" "I", Cond.fieldLink RX0 43 "UnsaidRound$Green" "speed" "I", Cond.fieldLink RX0 46 "UnsaidRound$Green" "turned" "I", Cond.fieldLink RX0 49 "UnsaidRound$Green" "motherCount" "I", Cond.fieldLink RX0 15 "UnsaidRound$Green" "kinds" "[I", Cond.methodLink RX0 52 arraycopyName, Cond.native arraycopyName, Cond.static arraycopyName, Cond.initialized "java/lang/System", Cond.fieldLink RX0 19 "UnsaidRound$Green" "outs" "[I", Cond.fieldLink RX0 22 "UnsaidRound$Green" "secrets" "[I", Cond.fieldLink RX0 25 "UnsaidRound$Green" "silents" "[I", Cond.fieldLink RX0 58 "UnsaidRound$Green" "childCount" "I"]
def wsX4_green_r2 : List Cond := [Cond.fieldLink RX0 28 "UnsaidRound$Green" "grips" "[I", Cond.fieldLink RX0 31 "UnsaidRound$Green" "rides" "[I", Cond.fieldLink RX0 34 "UnsaidRound$Green" "flings" "[I", Cond.methodLink RX4 201 yX3_addItems, Cond.instanceMethod yX3_addItems, Cond.selects RX3 yX3_addItems yX3_addItems, Cond.initialized RX3, Cond.code yX3_addItems cX3_addItems 3 (some .int), Cond.fieldLink RX3 15 "UnsaidRound$Tape" "behind" "I", Cond.fieldLink RX3 26 "UnsaidRound$Tape" "start" "I", Cond.fieldLink RX3 29 "UnsaidRound$Tape" "sort" "I", Cond.methodLink RX3 19 yX3_advance, Cond.instanceMethod yX3_advance, Cond.selects RX3 yX3_advance yX3_advance, Cond.code yX3_advance cX3_advance 3 none, Cond.fieldLink RX3 126 "UnsaidRound$Tape" "length" "I", Cond.fieldLink RX3 89 "UnsaidRound$Tape" "number" "I", Cond.methodLink RX3 131 Lib.Math.min.name, Cond.static Lib.Math.min.name, Cond.initialized "java/lang/Math", Cond.code Lib.Math.min.name Lib.Math.min.code 2 (some .int), Cond.methodLink RX3 118 yX3_byteAt, Cond.instanceMethod yX3_byteAt, Cond.selects RX3 yX3_byteAt yX3_byteAt]
def wsX4_green_r3 : List Cond := [Cond.code yX3_byteAt cX3_byteAt 2 (some .int), Cond.fieldLink RX3 11 "UnsaidRound$Tape" "bytes" "[I", Cond.methodLink RX3 128 yX3_sortOf, Cond.static yX3_sortOf, Cond.code yX3_sortOf cX3_sortOf 1 (some .int), Cond.methodLink RX3 22 yX3_takeItem, Cond.instanceMethod yX3_takeItem, Cond.selects RX3 yX3_takeItem yX3_takeItem, Cond.code yX3_takeItem cX3_takeItem 3 (some .boolean), Cond.methodLink RX3 32 yX3_kindNamed, Cond.instanceMethod yX3_kindNamed, Cond.selects RX3 yX3_kindNamed yX3_kindNamed, Cond.code yX3_kindNamed cX3_kindNamed 1 (some .int), Cond.methodLink RX3 42 yX3_isWord, Cond.instanceMethod yX3_isWord, Cond.selects RX3 yX3_isWord yX3_isWord, Cond.code yX3_isWord cX3_isWord 3 (some .boolean), Cond.methodLink RX3 113 yJ0_length_8abf5, Cond.instanceMethod yJ0_length_8abf5, Cond.selects RJ0 yJ0_length_8abf5 yJ0_length_8abf5, Cond.initialized RJ0, Cond.code yJ0_length_8abf5 cJ0_length_8abf5 1 (some .int), Cond.fieldLink RJ0 9 "java/lang/String" "value" "[B", Cond.methodLink RJ0 335 yJ0_coder_7d493]
def wsX4_green_r4 : List Cond := [Cond.instanceMethod yJ0_coder_7d493, Cond.selects RJ0 yJ0_coder_7d493 yJ0_coder_7d493, Cond.code yJ0_coder_7d493 cJ0_coder_7d493 1 (some .byte), Cond.fieldLink RJ0 38 "java/lang/String" "COMPACT_STRINGS" "Z", Cond.fieldLink RJ0 15 "java/lang/String" "coder" "B", Cond.methodLink RX3 122 yJ0_charAt_5068e, Cond.instanceMethod yJ0_charAt_5068e, Cond.selects RJ0 yJ0_charAt_5068e yJ0_charAt_5068e, Cond.code yJ0_charAt_5068e cJ0_charAt_5068e 2 (some .char), Cond.methodLink RJ0 492 yJ0_isLatin1_aae02, Cond.instanceMethod yJ0_isLatin1_aae02, Cond.selects RJ0 yJ0_isLatin1_aae02 yJ0_isLatin1_aae02, Cond.code yJ0_isLatin1_aae02 cJ0_isLatin1_aae02 1 (some .boolean), Cond.methodLink RJ0 495 yJ1_charAt_3b067, Cond.static yJ1_charAt_3b067, Cond.initialized RJ1, Cond.code yJ1_charAt_3b067 cJ1_charAt_3b067 2 (some .char), Cond.methodLink RJ1 9 yJ0_checkIndex_df160, Cond.static yJ0_checkIndex_df160, Cond.code yJ0_checkIndex_df160 cJ0_checkIndex_df160 2 none, Cond.fieldLink RJ0 1053 "jdk/internal/util/Preconditions" "SIOOBE_FORMATTER" "Ljava/util/function/BiFunction;", Cond.methodLink RJ0 1059 yJ3_checkIndex_8e157, Cond.static yJ3_checkIndex_8e157, Cond.initialized RJ3]
def wsX4_green_r5 : List Cond := [Cond.code yJ3_checkIndex_8e157 cJ3_checkIndex_8e157 3 (some .int), Cond.methodLink RJ0 498 yJ2_charAt_3b067, Cond.static yJ2_charAt_3b067, Cond.initialized RJ2, Cond.code yJ2_charAt_3b067 cJ2_charAt_3b067 2 (some .char), Cond.methodLink RJ2 67 yJ2_checkIndex_2214a, Cond.static yJ2_checkIndex_2214a, Cond.code yJ2_checkIndex_2214a cJ2_checkIndex_2214a 2 none, Cond.methodLink RJ2 48 yJ2_length_9d52b, Cond.static yJ2_length_9d52b, Cond.code yJ2_length_9d52b cJ2_length_9d52b 1 (some .int), Cond.methodLink RJ2 414 yJ0_checkIndex_df160, Cond.methodLink RJ2 71 yJ2_getChar_3b067, Cond.static yJ2_getChar_3b067, Cond.code yJ2_getChar_3b067 cJ2_getChar_3b067 2 (some .char), Cond.fieldLink RJ2 44 "java/lang/StringUTF16" "$assertionsDisabled" "Z", Cond.fieldLink RJ2 59 "java/lang/StringUTF16" "HI_BYTE_SHIFT" "I", Cond.fieldLink RJ2 63 "java/lang/StringUTF16" "LO_BYTE_SHIFT" "I", Cond.methodLink RX3 36 yX3_takeMother, Cond.instanceMethod yX3_takeMother, Cond.selects RX3 yX3_takeMother yX3_takeMother, Cond.code yX3_takeMother cX3_takeMother 5 (some .boolean), Cond.fieldLink RX3 78 "UnsaidRound$Green" "motherCount" "I", Cond.methodLink RX3 85 yX3_takeNumber]
def wsX4_green_r6 : List Cond := [Cond.instanceMethod yX3_takeNumber, Cond.selects RX3 yX3_takeNumber yX3_takeNumber, Cond.code yX3_takeNumber cX3_takeNumber 3 (some .boolean), Cond.methodLink RX3 94 yX0_addMother, Cond.instanceMethod yX0_addMother, Cond.selects RX0 yX0_addMother yX0_addMother, Cond.code yX0_addMother cX0_addMother 5 (some .int), Cond.methodLink RX3 46 yX3_takeChild, Cond.instanceMethod yX3_takeChild, Cond.selects RX3 yX3_takeChild yX3_takeChild, Cond.code yX3_takeChild cX3_takeChild 4 (some .boolean), Cond.fieldLink RX3 98 "UnsaidRound$Green" "childCount" "I", Cond.methodLink RX3 103 yX0_addChild, Cond.instanceMethod yX0_addChild, Cond.selects RX0 yX0_addChild yX0_addChild, Cond.code yX0_addChild cX0_addChild 4 (some .int), Cond.methodLink RX3 51 yX3_takeWet, Cond.instanceMethod yX3_takeWet, Cond.selects RX3 yX3_takeWet yX3_takeWet, Cond.code yX3_takeWet cX3_takeWet 2 (some .boolean), Cond.fieldLink RX3 107 "UnsaidRound$Green" "wetParts" "I", Cond.methodLink RX3 56 yX3_takeDry, Cond.instanceMethod yX3_takeDry, Cond.selects RX3 yX3_takeDry yX3_takeDry]
def wsX4_green_r7 : List Cond := [Cond.code yX3_takeDry cX3_takeDry 2 (some .boolean), Cond.methodLink RX3 61 yX3_takeHeavy, Cond.instanceMethod yX3_takeHeavy, Cond.selects RX3 yX3_takeHeavy yX3_takeHeavy, Cond.code yX3_takeHeavy cX3_takeHeavy 2 (some .boolean), Cond.fieldLink RX3 110 "UnsaidRound$Green" "heaviness" "I"]
def wsX4_green : List Cond := .code yX4_green cX4_green 2 (some .int) :: ((wsX4_green_r1 ++ (wsX4_green_r2 ++ (wsX4_green_r3 ++ (wsX4_green_r4 ++ (wsX4_green_r5 ++ (wsX4_green_r6 ++ wsX4_green_r7)))))) ++ wsX40 ++ wsX30 ++ wsX00)
def wsX4_sheet : List Cond := .code yX4_sheet cX4_sheet 4 (some .int) :: ([.fieldLink RX4 32 "UnsaidRound" "sheets" "LUnsaidRound$Sheets;", .constant RX4 47 (-1000000001), .constant RX4 208 (-1000000007), .methodLink RX4 205 yX2_isSheet, .instanceMethod yX2_isSheet, .selects RX2 yX2_isSheet yX2_isSheet, .initialized RX2, .code yX2_isSheet cX2_isSheet 2 (some .boolean), .methodLink RX4 48 yX4_tell, .instanceMethod yX4_tell, .selects RX4 yX4_tell yX4_tell, .initialized RX4, .code yX4_tell cX4_tell 3 (some .int), .fieldLink RX4 36 "UnsaidRound" "findings" "[I", .methodLink RX4 209 yX2_lay, .instanceMethod yX2_lay, .selects RX2 yX2_lay yX2_lay, .code yX2_lay cX2_lay 5 (some .int), .fieldLink RX2 9 "UnsaidRound$Sheets" "widths" "[I", .fieldLink RX2 13 "UnsaidRound$Sheets" "lengths" "[I", .fieldLink RX2 16 "UnsaidRound$Sheets" "numbers" "[J"] ++ wsX40 ++ wsX20)
def wsX4_write_r1 : List Cond := [Cond.fieldLink RX4 32 "UnsaidRound" "sheets" "LUnsaidRound$Sheets;", Cond.constant RX4 47 (-1000000001), Cond.constant RX4 215 (-1000000006), Cond.fieldLink RX4 216 "UnsaidRound$Sheets" "lengths" "[I", Cond.methodLink RX4 205 yX2_isSheet, Cond.instanceMethod yX2_isSheet, Cond.selects RX2 yX2_isSheet yX2_isSheet, Cond.initialized RX2, Cond.code yX2_isSheet cX2_isSheet 2 (some .boolean), Cond.methodLink RX4 48 yX4_tell, Cond.instanceMethod yX4_tell, Cond.selects RX4 yX4_tell yX4_tell, Cond.initialized RX4, Cond.code yX4_tell cX4_tell 3 (some .int), Cond.fieldLink RX4 36 "UnsaidRound" "findings" "[I", Cond.methodLink RX4 212 yX2_isMissing, Cond.instanceMethod yX2_isMissing, Cond.selects RX2 yX2_isMissing yX2_isMissing, Cond.code yX2_isMissing cX2_isMissing 2 (some .boolean), Cond.fieldLink RX2 9 "UnsaidRound$Sheets" "widths" "[I", Cond.methodLink RX4 219 yX2_numberAt, Cond.instanceMethod yX2_numberAt, Cond.selects RX2 yX2_numberAt yX2_numberAt, Cond.code yX2_numberAt cX2_numberAt 3 (some .long)]
def wsX4_write_r2 : List Cond := [Cond.fieldLink RX2 16 "UnsaidRound$Sheets" "numbers" "[J", Cond.methodLink RX4 223 yX2_put, Cond.instanceMethod yX2_put, Cond.selects RX2 yX2_put yX2_put, Cond.code yX2_put cX2_put 7 none]
def wsX4_write : List Cond := .code yX4_write cX4_write 7 (some .long) :: ((wsX4_write_r1 ++ wsX4_write_r2) ++ wsX40 ++ wsX20)
def wsX4_copy_r1 : List Cond := [Cond.fieldLink RX4 32 "UnsaidRound" "sheets" "LUnsaidRound$Sheets;", Cond.constant RX4 47 (-1000000001), Cond.constant RX4 215 (-1000000006), Cond.fieldLink RX4 227 "UnsaidRound$Sheets" "widths" "[I", Cond.constant RX4 135 (-1000000003), Cond.methodLink RX4 205 yX2_isSheet, Cond.instanceMethod yX2_isSheet, Cond.selects RX2 yX2_isSheet yX2_isSheet, Cond.initialized RX2, Cond.code yX2_isSheet cX2_isSheet 2 (some .boolean), Cond.methodLink RX4 48 yX4_tell, Cond.instanceMethod yX4_tell, Cond.selects RX4 yX4_tell yX4_tell, Cond.initialized RX4, Cond.code yX4_tell cX4_tell 3 (some .int), Cond.fieldLink RX4 36 "UnsaidRound" "findings" "[I", Cond.methodLink RX4 212 yX2_isMissing, Cond.instanceMethod yX2_isMissing, Cond.selects RX2 yX2_isMissing yX2_isMissing, Cond.code yX2_isMissing cX2_isMissing 2 (some .boolean), Cond.fieldLink RX2 9 "UnsaidRound$Sheets" "widths" "[I", Cond.methodLink RX4 230 yX2_hasRange, Cond.instanceMethod yX2_hasRange, Cond.selects RX2 yX2_hasRange yX2_hasRange]
def wsX4_copy_r2 : List Cond := [Cond.code yX2_hasRange cX2_hasRange 4 (some .boolean), Cond.fieldLink RX2 13 "UnsaidRound$Sheets" "lengths" "[I", Cond.methodLink RX4 233 yX2_move, Cond.instanceMethod yX2_move, Cond.selects RX2 yX2_move yX2_move, Cond.code yX2_move cX2_move 6 none, Cond.fieldLink RX2 16 "UnsaidRound$Sheets" "numbers" "[J", Cond.methodLink RX2 20 arraycopyName, Cond.native arraycopyName, Cond.static arraycopyName, Cond.initialized "java/lang/System"]
def wsX4_copy : List Cond := .code yX4_copy cX4_copy 6 (some .int) :: ((wsX4_copy_r1 ++ wsX4_copy_r2) ++ wsX40 ++ wsX20)
def wsX4_lays_r1 : List Cond := [Cond.fieldLink RX4 32 "UnsaidRound" "sheets" "LUnsaidRound$Sheets;", Cond.constant RX4 47 (-1000000001), Cond.constant RX4 215 (-1000000006), Cond.fieldLink RX4 216 "UnsaidRound$Sheets" "lengths" "[I", Cond.fieldLink RX4 10 "UnsaidRound" "live" "LUnsaidRound$Green;", Cond.fieldLink RX4 90 "UnsaidRound$Green" "motherCount" "I", Cond.constantLong RX4 237 (99), Cond.fieldLink RX4 107 "UnsaidRound$Green" "secrets" "[I", Cond.methodLink RX4 205 yX2_isSheet, Cond.instanceMethod yX2_isSheet, Cond.selects RX2 yX2_isSheet yX2_isSheet, Cond.initialized RX2, Cond.code yX2_isSheet cX2_isSheet 2 (some .boolean), Cond.methodLink RX4 48 yX4_tell, Cond.instanceMethod yX4_tell, Cond.selects RX4 yX4_tell yX4_tell, Cond.initialized RX4, Cond.code yX4_tell cX4_tell 3 (some .int), Cond.fieldLink RX4 36 "UnsaidRound" "findings" "[I", Cond.methodLink RX4 212 yX2_isMissing, Cond.instanceMethod yX2_isMissing, Cond.selects RX2 yX2_isMissing yX2_isMissing, Cond.code yX2_isMissing cX2_isMissing 2 (some .boolean), Cond.fieldLink RX2 9 "UnsaidRound$Sheets" "widths" "[I"]
def wsX4_lays_r2 : List Cond := [Cond.methodLink RX4 219 yX2_numberAt, Cond.instanceMethod yX2_numberAt, Cond.selects RX2 yX2_numberAt yX2_numberAt, Cond.code yX2_numberAt cX2_numberAt 3 (some .long), Cond.fieldLink RX2 16 "UnsaidRound$Sheets" "numbers" "[J"]
def wsX4_lays : List Cond := .code yX4_lays cX4_lays 6 (some .int) :: ((wsX4_lays_r1 ++ wsX4_lays_r2) ++ wsX40 ++ wsX20 ++ wsX00)
def wsX4_book_r1 : List Cond := [Cond.fieldLink RX4 32 "UnsaidRound" "sheets" "LUnsaidRound$Sheets;", Cond.constant RX4 47 (-1000000001), Cond.constant RX4 215 (-1000000006), Cond.fieldLink RX4 16 "UnsaidRound" "trial" "LUnsaidRound$Green;", Cond.fieldLink RX4 10 "UnsaidRound" "live" "LUnsaidRound$Green;", Cond.fieldLink RX4 216 "UnsaidRound$Sheets" "lengths" "[I", Cond.fieldLink RX4 44 "UnsaidRound$Green" "speed" "I", Cond.methodLink RX4 205 yX2_isSheet, Cond.instanceMethod yX2_isSheet, Cond.selects RX2 yX2_isSheet yX2_isSheet, Cond.initialized RX2, Cond.code yX2_isSheet cX2_isSheet 2 (some .boolean), Cond.methodLink RX4 48 yX4_tell, Cond.instanceMethod yX4_tell, Cond.selects RX4 yX4_tell yX4_tell, Cond.initialized RX4, Cond.code yX4_tell cX4_tell 3 (some .int), Cond.fieldLink RX4 36 "UnsaidRound" "findings" "[I", Cond.methodLink RX4 212 yX2_isMissing, Cond.instanceMethod yX2_isMissing, Cond.selects RX2 yX2_isMissing yX2_isMissing, Cond.code yX2_isMissing cX2_isMissing 2 (some .boolean), Cond.fieldLink RX2 9 "UnsaidRound$Sheets" "widths" "[I", Cond.methodLink RX4 164 yX0_become]
def wsX4_book_r2 : List Cond := [Cond.instanceMethod yX0_become, Cond.selects RX0 yX0_become yX0_become, Cond.initialized RX0, Cond.code yX0_become cX0_become 2 none, Cond.fieldLink RX0 37 "UnsaidRound$Green" "minute" "I", Cond.fieldLink RX0 40 "UnsaidRound$Green" "wetParts" "I", Cond.fieldLink RX0 9 "UnsaidRound$Green" "heaviness" "I", Cond.fieldLink RX0 43 "UnsaidRound$Green" "speed" "I", Cond.fieldLink RX0 46 "UnsaidRound$Green" "turned" "I", Cond.fieldLink RX0 49 "UnsaidRound$Green" "motherCount" "I", Cond.fieldLink RX0 15 "UnsaidRound$Green" "kinds" "[I", Cond.methodLink RX0 52 arraycopyName, Cond.native arraycopyName, Cond.static arraycopyName, Cond.initialized "java/lang/System", Cond.fieldLink RX0 19 "UnsaidRound$Green" "outs" "[I", Cond.fieldLink RX0 22 "UnsaidRound$Green" "secrets" "[I", Cond.fieldLink RX0 25 "UnsaidRound$Green" "silents" "[I", Cond.fieldLink RX0 58 "UnsaidRound$Green" "childCount" "I", Cond.fieldLink RX0 28 "UnsaidRound$Green" "grips" "[I", Cond.fieldLink RX0 31 "UnsaidRound$Green" "rides" "[I", Cond.fieldLink RX0 34 "UnsaidRound$Green" "flings" "[I", Cond.methodLink RX4 223 yX2_put, Cond.instanceMethod yX2_put]
def wsX4_book_r3 : List Cond := [Cond.selects RX2 yX2_put yX2_put, Cond.code yX2_put cX2_put 7 none, Cond.fieldLink RX2 16 "UnsaidRound$Sheets" "numbers" "[J", Cond.methodLink RX4 168 yX0_passMinute, Cond.instanceMethod yX0_passMinute, Cond.selects RX0 yX0_passMinute yX0_passMinute, Cond.code yX0_passMinute cX0_passMinute 5 none, Cond.methodLink RX0 101 Lib.Math.max.name, Cond.static Lib.Math.max.name, Cond.initialized "java/lang/Math", Cond.code Lib.Math.max.name Lib.Math.max.code 2 (some .int), Cond.methodLink RX0 107 Lib.Math.min.name, Cond.static Lib.Math.min.name, Cond.code Lib.Math.min.name Lib.Math.min.code 2 (some .int), Cond.constant RX0 110 (999999), Cond.methodLink RX0 95 yX0_pushNow, Cond.instanceMethod yX0_pushNow, Cond.selects RX0 yX0_pushNow yX0_pushNow, Cond.code yX0_pushNow cX0_pushNow 5 (some .int), Cond.methodLink RX0 78 yX0_isWet, Cond.instanceMethod yX0_isWet, Cond.selects RX0 yX0_isWet yX0_isWet, Cond.code yX0_isWet cX0_isWet 1 (some .boolean), Cond.methodLink RX0 61 yX0_minuteOfDay]
def wsX4_book_r4 : List Cond := [Cond.instanceMethod yX0_minuteOfDay, Cond.selects RX0 yX0_minuteOfDay yX0_minuteOfDay, Cond.code yX0_minuteOfDay cX0_minuteOfDay 1 (some .int), Cond.methodLink RX0 82 yX0_outCount, Cond.instanceMethod yX0_outCount, Cond.selects RX0 yX0_outCount yX0_outCount, Cond.code yX0_outCount cX0_outCount 3 (some .int), Cond.methodLink RX0 85 yX0_isNight, Cond.instanceMethod yX0_isNight, Cond.selects RX0 yX0_isNight yX0_isNight, Cond.code yX0_isNight cX0_isNight 1 (some .boolean), Cond.methodLink RX0 88 yX0_keepsNow, Cond.instanceMethod yX0_keepsNow, Cond.selects RX0 yX0_keepsNow yX0_keepsNow, Cond.code yX0_keepsNow cX0_keepsNow 4 (some .int), Cond.methodLink RX0 68 yX1_keeps, Cond.static yX1_keeps, Cond.initialized RX1, Cond.code yX1_keeps cX1_keeps 8 (some .int), Cond.methodLink RX0 98 yX0_weightNow, Cond.instanceMethod yX0_weightNow, Cond.selects RX0 yX0_weightNow yX0_weightNow, Cond.code yX0_weightNow cX0_weightNow 1 (some .int), Cond.methodLink RX0 65 yX0_onCount]
def wsX4_book_r5 : List Cond := [Cond.instanceMethod yX0_onCount, Cond.selects RX0 yX0_onCount yX0_onCount, Cond.code yX0_onCount cX0_onCount 3 (some .int), Cond.methodLink RX0 111 yX0_tryGrips, Cond.instanceMethod yX0_tryGrips, Cond.selects RX0 yX0_tryGrips yX0_tryGrips, Cond.code yX0_tryGrips cX0_tryGrips 2 none, Cond.methodLink RX0 114 yX0_letSpeak, Cond.instanceMethod yX0_letSpeak, Cond.selects RX0 yX0_letSpeak yX0_letSpeak, Cond.code yX0_letSpeak cX0_letSpeak 4 none, Cond.methodLink RX0 117 yX0_speaksNow, Cond.instanceMethod yX0_speaksNow, Cond.selects RX0 yX0_speaksNow yX0_speaksNow, Cond.code yX0_speaksNow cX0_speaksNow 4 (some .boolean), Cond.methodLink RX0 74 yX1_speaks, Cond.static yX1_speaks, Cond.code yX1_speaks cX1_speaks 7 (some .boolean), Cond.methodLink RX0 121 yX1_tells, Cond.static yX1_tells, Cond.code yX1_tells cX1_tells 4 (some .int)]
def wsX4_book : List Cond := .code yX4_book cX4_book 3 (some .int) :: ((wsX4_book_r1 ++ (wsX4_book_r2 ++ (wsX4_book_r3 ++ (wsX4_book_r4 ++ wsX4_book_r5)))) ++ wsX40 ++ wsX20 ++ wsX00)
def wsX4_turnsAsTold_r1 : List Cond := [Cond.fieldLink RX4 16 "UnsaidRound" "trial" "LUnsaidRound$Green;", Cond.fieldLink RX4 10 "UnsaidRound" "live" "LUnsaidRound$Green;", Cond.fieldLink RX4 101 "UnsaidRound$Green" "kinds" "[I", Cond.fieldLink RX4 107 "UnsaidRound$Green" "secrets" "[I", Cond.fieldLink RX4 32 "UnsaidRound" "sheets" "LUnsaidRound$Sheets;", Cond.fieldLink RX4 216 "UnsaidRound$Sheets" "lengths" "[I", Cond.fieldLink RX4 44 "UnsaidRound$Green" "speed" "I", Cond.methodLink RX4 164 yX0_become, Cond.instanceMethod yX0_become, Cond.selects RX0 yX0_become yX0_become, Cond.initialized RX0, Cond.code yX0_become cX0_become 2 none, Cond.fieldLink RX0 37 "UnsaidRound$Green" "minute" "I", Cond.fieldLink RX0 40 "UnsaidRound$Green" "wetParts" "I", Cond.fieldLink RX0 9 "UnsaidRound$Green" "heaviness" "I", Cond.fieldLink RX0 43 "UnsaidRound$Green" "speed" "I", Cond.fieldLink RX0 46 "UnsaidRound$Green" "turned" "I", Cond.fieldLink RX0 49 "UnsaidRound$Green" "motherCount" "I", Cond.fieldLink RX0 15 "UnsaidRound$Green" "kinds" "[I", Cond.methodLink RX0 52 arraycopyName, Cond.native arraycopyName, Cond.static arraycopyName, Cond.initialized "java/lang/System", Cond.fieldLink RX0 19 "UnsaidRound$Green" "outs" "[I"]
def wsX4_turnsAsTold_r2 : List Cond := [Cond.fieldLink RX0 22 "UnsaidRound$Green" "secrets" "[I", Cond.fieldLink RX0 25 "UnsaidRound$Green" "silents" "[I", Cond.fieldLink RX0 58 "UnsaidRound$Green" "childCount" "I", Cond.fieldLink RX0 28 "UnsaidRound$Green" "grips" "[I", Cond.fieldLink RX0 31 "UnsaidRound$Green" "rides" "[I", Cond.fieldLink RX0 34 "UnsaidRound$Green" "flings" "[I", Cond.methodLink RX4 168 yX0_passMinute, Cond.instanceMethod yX0_passMinute, Cond.selects RX0 yX0_passMinute yX0_passMinute, Cond.code yX0_passMinute cX0_passMinute 5 none, Cond.methodLink RX0 101 Lib.Math.max.name, Cond.static Lib.Math.max.name, Cond.initialized "java/lang/Math", Cond.code Lib.Math.max.name Lib.Math.max.code 2 (some .int), Cond.methodLink RX0 107 Lib.Math.min.name, Cond.static Lib.Math.min.name, Cond.code Lib.Math.min.name Lib.Math.min.code 2 (some .int), Cond.constant RX0 110 (999999), Cond.methodLink RX0 95 yX0_pushNow, Cond.instanceMethod yX0_pushNow, Cond.selects RX0 yX0_pushNow yX0_pushNow, Cond.code yX0_pushNow cX0_pushNow 5 (some .int), Cond.methodLink RX0 78 yX0_isWet, Cond.instanceMethod yX0_isWet]
def wsX4_turnsAsTold_r3 : List Cond := [Cond.selects RX0 yX0_isWet yX0_isWet, Cond.code yX0_isWet cX0_isWet 1 (some .boolean), Cond.methodLink RX0 61 yX0_minuteOfDay, Cond.instanceMethod yX0_minuteOfDay, Cond.selects RX0 yX0_minuteOfDay yX0_minuteOfDay, Cond.code yX0_minuteOfDay cX0_minuteOfDay 1 (some .int), Cond.methodLink RX0 82 yX0_outCount, Cond.instanceMethod yX0_outCount, Cond.selects RX0 yX0_outCount yX0_outCount, Cond.code yX0_outCount cX0_outCount 3 (some .int), Cond.methodLink RX0 85 yX0_isNight, Cond.instanceMethod yX0_isNight, Cond.selects RX0 yX0_isNight yX0_isNight, Cond.code yX0_isNight cX0_isNight 1 (some .boolean), Cond.methodLink RX0 88 yX0_keepsNow, Cond.instanceMethod yX0_keepsNow, Cond.selects RX0 yX0_keepsNow yX0_keepsNow, Cond.code yX0_keepsNow cX0_keepsNow 4 (some .int), Cond.methodLink RX0 68 yX1_keeps, Cond.static yX1_keeps, Cond.initialized RX1, Cond.code yX1_keeps cX1_keeps 8 (some .int), Cond.methodLink RX0 98 yX0_weightNow, Cond.instanceMethod yX0_weightNow]
def wsX4_turnsAsTold_r4 : List Cond := [Cond.selects RX0 yX0_weightNow yX0_weightNow, Cond.code yX0_weightNow cX0_weightNow 1 (some .int), Cond.methodLink RX0 65 yX0_onCount, Cond.instanceMethod yX0_onCount, Cond.selects RX0 yX0_onCount yX0_onCount, Cond.code yX0_onCount cX0_onCount 3 (some .int), Cond.methodLink RX0 111 yX0_tryGrips, Cond.instanceMethod yX0_tryGrips, Cond.selects RX0 yX0_tryGrips yX0_tryGrips, Cond.code yX0_tryGrips cX0_tryGrips 2 none, Cond.methodLink RX0 114 yX0_letSpeak, Cond.instanceMethod yX0_letSpeak, Cond.selects RX0 yX0_letSpeak yX0_letSpeak, Cond.code yX0_letSpeak cX0_letSpeak 4 none, Cond.methodLink RX0 117 yX0_speaksNow, Cond.instanceMethod yX0_speaksNow, Cond.selects RX0 yX0_speaksNow yX0_speaksNow, Cond.code yX0_speaksNow cX0_speaksNow 4 (some .boolean), Cond.methodLink RX0 74 yX1_speaks, Cond.static yX1_speaks, Cond.code yX1_speaks cX1_speaks 7 (some .boolean), Cond.methodLink RX0 121 yX1_tells, Cond.static yX1_tells, Cond.code yX1_tells cX1_tells 4 (some .int)]
def wsX4_turnsAsTold_r5 : List Cond := [Cond.methodLink RX4 219 yX2_numberAt, Cond.instanceMethod yX2_numberAt, Cond.selects RX2 yX2_numberAt yX2_numberAt, Cond.initialized RX2, Cond.code yX2_numberAt cX2_numberAt 3 (some .long), Cond.fieldLink RX2 16 "UnsaidRound$Sheets" "numbers" "[J"]
def wsX4_turnsAsTold : List Cond := .code yX4_turnsAsTold cX4_turnsAsTold 6 (some .boolean) :: ((wsX4_turnsAsTold_r1 ++ (wsX4_turnsAsTold_r2 ++ (wsX4_turnsAsTold_r3 ++ (wsX4_turnsAsTold_r4 ++ wsX4_turnsAsTold_r5)))) ++ wsX40 ++ wsX00 ++ wsX20)
def wsX4_read_r1 : List Cond := [Cond.fieldLink RX4 32 "UnsaidRound" "sheets" "LUnsaidRound$Sheets;", Cond.constant RX4 47 (-1000000001), Cond.constant RX4 215 (-1000000006), Cond.fieldLink RX4 10 "UnsaidRound" "live" "LUnsaidRound$Green;", Cond.fieldLink RX4 104 "UnsaidRound$Green" "outs" "[I", Cond.methodLink RX4 205 yX2_isSheet, Cond.instanceMethod yX2_isSheet, Cond.selects RX2 yX2_isSheet yX2_isSheet, Cond.initialized RX2, Cond.code yX2_isSheet cX2_isSheet 2 (some .boolean), Cond.methodLink RX4 48 yX4_tell, Cond.instanceMethod yX4_tell, Cond.selects RX4 yX4_tell yX4_tell, Cond.initialized RX4, Cond.code yX4_tell cX4_tell 3 (some .int), Cond.fieldLink RX4 36 "UnsaidRound" "findings" "[I", Cond.methodLink RX4 212 yX2_isMissing, Cond.instanceMethod yX2_isMissing, Cond.selects RX2 yX2_isMissing yX2_isMissing, Cond.code yX2_isMissing cX2_isMissing 2 (some .boolean), Cond.fieldLink RX2 9 "UnsaidRound$Sheets" "widths" "[I", Cond.methodLink RX4 98 yX0_hasMother, Cond.instanceMethod yX0_hasMother, Cond.selects RX0 yX0_hasMother yX0_hasMother]
def wsX4_read_r2 : List Cond := [Cond.initialized RX0, Cond.code yX0_hasMother cX0_hasMother 2 (some .boolean), Cond.fieldLink RX0 49 "UnsaidRound$Green" "motherCount" "I", Cond.methodLink RX4 239 yX4_turnsAsTold, Cond.instanceMethod yX4_turnsAsTold, Cond.selects RX4 yX4_turnsAsTold yX4_turnsAsTold, Cond.code yX4_turnsAsTold cX4_turnsAsTold 6 (some .boolean), Cond.fieldLink RX4 16 "UnsaidRound" "trial" "LUnsaidRound$Green;", Cond.fieldLink RX4 101 "UnsaidRound$Green" "kinds" "[I", Cond.fieldLink RX4 107 "UnsaidRound$Green" "secrets" "[I", Cond.fieldLink RX4 216 "UnsaidRound$Sheets" "lengths" "[I", Cond.fieldLink RX4 44 "UnsaidRound$Green" "speed" "I", Cond.methodLink RX4 164 yX0_become, Cond.instanceMethod yX0_become, Cond.selects RX0 yX0_become yX0_become, Cond.code yX0_become cX0_become 2 none, Cond.fieldLink RX0 37 "UnsaidRound$Green" "minute" "I", Cond.fieldLink RX0 40 "UnsaidRound$Green" "wetParts" "I", Cond.fieldLink RX0 9 "UnsaidRound$Green" "heaviness" "I", Cond.fieldLink RX0 43 "UnsaidRound$Green" "speed" "I", Cond.fieldLink RX0 46 "UnsaidRound$Green" "turned" "I", Cond.fieldLink RX0 15 "UnsaidRound$Green" "kinds" "[I", Cond.methodLink RX0 52 arraycopyName, Cond.native arraycopyName]
def wsX4_read_r3 : List Cond := [Cond.static arraycopyName, Cond.initialized "java/lang/System", Cond.fieldLink RX0 19 "UnsaidRound$Green" "outs" "[I", Cond.fieldLink RX0 22 "UnsaidRound$Green" "secrets" "[I", Cond.fieldLink RX0 25 "UnsaidRound$Green" "silents" "[I", Cond.fieldLink RX0 58 "UnsaidRound$Green" "childCount" "I", Cond.fieldLink RX0 28 "UnsaidRound$Green" "grips" "[I", Cond.fieldLink RX0 31 "UnsaidRound$Green" "rides" "[I", Cond.fieldLink RX0 34 "UnsaidRound$Green" "flings" "[I", Cond.methodLink RX4 168 yX0_passMinute, Cond.instanceMethod yX0_passMinute, Cond.selects RX0 yX0_passMinute yX0_passMinute, Cond.code yX0_passMinute cX0_passMinute 5 none, Cond.methodLink RX0 101 Lib.Math.max.name, Cond.static Lib.Math.max.name, Cond.initialized "java/lang/Math", Cond.code Lib.Math.max.name Lib.Math.max.code 2 (some .int), Cond.methodLink RX0 107 Lib.Math.min.name, Cond.static Lib.Math.min.name, Cond.code Lib.Math.min.name Lib.Math.min.code 2 (some .int), Cond.constant RX0 110 (999999), Cond.methodLink RX0 95 yX0_pushNow, Cond.instanceMethod yX0_pushNow, Cond.selects RX0 yX0_pushNow yX0_pushNow]
def wsX4_read_r4 : List Cond := [Cond.code yX0_pushNow cX0_pushNow 5 (some .int), Cond.methodLink RX0 78 yX0_isWet, Cond.instanceMethod yX0_isWet, Cond.selects RX0 yX0_isWet yX0_isWet, Cond.code yX0_isWet cX0_isWet 1 (some .boolean), Cond.methodLink RX0 61 yX0_minuteOfDay, Cond.instanceMethod yX0_minuteOfDay, Cond.selects RX0 yX0_minuteOfDay yX0_minuteOfDay, Cond.code yX0_minuteOfDay cX0_minuteOfDay 1 (some .int), Cond.methodLink RX0 82 yX0_outCount, Cond.instanceMethod yX0_outCount, Cond.selects RX0 yX0_outCount yX0_outCount, Cond.code yX0_outCount cX0_outCount 3 (some .int), Cond.methodLink RX0 85 yX0_isNight, Cond.instanceMethod yX0_isNight, Cond.selects RX0 yX0_isNight yX0_isNight, Cond.code yX0_isNight cX0_isNight 1 (some .boolean), Cond.methodLink RX0 88 yX0_keepsNow, Cond.instanceMethod yX0_keepsNow, Cond.selects RX0 yX0_keepsNow yX0_keepsNow, Cond.code yX0_keepsNow cX0_keepsNow 4 (some .int), Cond.methodLink RX0 68 yX1_keeps, Cond.static yX1_keeps, Cond.initialized RX1]
def wsX4_read_r5 : List Cond := [Cond.code yX1_keeps cX1_keeps 8 (some .int), Cond.methodLink RX0 98 yX0_weightNow, Cond.instanceMethod yX0_weightNow, Cond.selects RX0 yX0_weightNow yX0_weightNow, Cond.code yX0_weightNow cX0_weightNow 1 (some .int), Cond.methodLink RX0 65 yX0_onCount, Cond.instanceMethod yX0_onCount, Cond.selects RX0 yX0_onCount yX0_onCount, Cond.code yX0_onCount cX0_onCount 3 (some .int), Cond.methodLink RX0 111 yX0_tryGrips, Cond.instanceMethod yX0_tryGrips, Cond.selects RX0 yX0_tryGrips yX0_tryGrips, Cond.code yX0_tryGrips cX0_tryGrips 2 none, Cond.methodLink RX0 114 yX0_letSpeak, Cond.instanceMethod yX0_letSpeak, Cond.selects RX0 yX0_letSpeak yX0_letSpeak, Cond.code yX0_letSpeak cX0_letSpeak 4 none, Cond.methodLink RX0 117 yX0_speaksNow, Cond.instanceMethod yX0_speaksNow, Cond.selects RX0 yX0_speaksNow yX0_speaksNow, Cond.code yX0_speaksNow cX0_speaksNow 4 (some .boolean), Cond.methodLink RX0 74 yX1_speaks, Cond.static yX1_speaks, Cond.code yX1_speaks cX1_speaks 7 (some .boolean)]
def wsX4_read_r6 : List Cond := [Cond.methodLink RX0 121 yX1_tells, Cond.static yX1_tells, Cond.code yX1_tells cX1_tells 4 (some .int), Cond.methodLink RX4 219 yX2_numberAt, Cond.instanceMethod yX2_numberAt, Cond.selects RX2 yX2_numberAt yX2_numberAt, Cond.code yX2_numberAt cX2_numberAt 3 (some .long), Cond.fieldLink RX2 16 "UnsaidRound$Sheets" "numbers" "[J"]
def wsX4_read : List Cond := .code yX4_read cX4_read 6 (some .int) :: ((wsX4_read_r1 ++ (wsX4_read_r2 ++ (wsX4_read_r3 ++ (wsX4_read_r4 ++ (wsX4_read_r5 ++ wsX4_read_r6))))) ++ wsX40 ++ wsX00 ++ wsX20)
def wsX4_image_r1 : List Cond := [Cond.fieldLink RX4 19 "UnsaidRound" "kept" "LUnsaidRound$Green;", Cond.fieldLink RX4 10 "UnsaidRound" "live" "LUnsaidRound$Green;", Cond.fieldLink RX4 243 "UnsaidRound" "isKept" "Z", Cond.methodLink RX4 164 yX0_become, Cond.instanceMethod yX0_become, Cond.selects RX0 yX0_become yX0_become, Cond.initialized RX0, Cond.code yX0_become cX0_become 2 none, Cond.fieldLink RX0 37 "UnsaidRound$Green" "minute" "I", Cond.fieldLink RX0 40 "UnsaidRound$Green" "wetParts" "I", Cond.fieldLink RX0 9 "UnsaidRound$Green" "heaviness" "I", Cond.fieldLink RX0 43 "UnsaidRound$Green" "speed" "I", Cond.fieldLink RX0 46 "UnsaidRound$Green" "turned" "I", Cond.fieldLink RX0 49 "UnsaidRound$Green" "motherCount" "I", Cond.fieldLink RX0 15 "UnsaidRound$Green" "kinds" "[I", Cond.methodLink RX0 52 arraycopyName, Cond.native arraycopyName, Cond.static arraycopyName, Cond.initialized "java/lang/System", Cond.fieldLink RX0 19 "UnsaidRound$Green" "outs" "[I", Cond.fieldLink RX0 22 "UnsaidRound$Green" "secrets" "[I", Cond.fieldLink RX0 25 "UnsaidRound$Green" "silents" "[I", Cond.fieldLink RX0 58 "UnsaidRound$Green" "childCount" "I", Cond.fieldLink RX0 28 "UnsaidRound$Green" "grips" "[I"]
def wsX4_image_r2 : List Cond := [Cond.fieldLink RX0 31 "UnsaidRound$Green" "rides" "[I", Cond.fieldLink RX0 34 "UnsaidRound$Green" "flings" "[I"]
def wsX4_image : List Cond := .code yX4_image cX4_image 1 (some .int) :: ((wsX4_image_r1 ++ wsX4_image_r2) ++ wsX40 ++ wsX00)
def wsX4_undo_r1 : List Cond := [Cond.fieldLink RX4 243 "UnsaidRound" "isKept" "Z", Cond.constant RX4 171 (-1000000004), Cond.fieldLink RX4 10 "UnsaidRound" "live" "LUnsaidRound$Green;", Cond.fieldLink RX4 19 "UnsaidRound" "kept" "LUnsaidRound$Green;", Cond.fieldLink RX4 90 "UnsaidRound$Green" "motherCount" "I", Cond.methodLink RX4 48 yX4_tell, Cond.instanceMethod yX4_tell, Cond.selects RX4 yX4_tell yX4_tell, Cond.initialized RX4, Cond.code yX4_tell cX4_tell 3 (some .int), Cond.constant RX4 47 (-1000000001), Cond.fieldLink RX4 36 "UnsaidRound" "findings" "[I", Cond.methodLink RX4 164 yX0_become, Cond.instanceMethod yX0_become, Cond.selects RX0 yX0_become yX0_become, Cond.initialized RX0, Cond.code yX0_become cX0_become 2 none, Cond.fieldLink RX0 37 "UnsaidRound$Green" "minute" "I", Cond.fieldLink RX0 40 "UnsaidRound$Green" "wetParts" "I", Cond.fieldLink RX0 9 "UnsaidRound$Green" "heaviness" "I", Cond.fieldLink RX0 43 "UnsaidRound$Green" "speed" "I", Cond.fieldLink RX0 46 "UnsaidRound$Green" "turned" "I", Cond.fieldLink RX0 49 "UnsaidRound$Green" "motherCount" "I", Cond.fieldLink RX0 15 "UnsaidRound$Green" "kinds" "[I"]
def wsX4_undo_r2 : List Cond := [Cond.methodLink RX0 52 arraycopyName, Cond.native arraycopyName, Cond.static arraycopyName, Cond.initialized "java/lang/System", Cond.fieldLink RX0 19 "UnsaidRound$Green" "outs" "[I", Cond.fieldLink RX0 22 "UnsaidRound$Green" "secrets" "[I", Cond.fieldLink RX0 25 "UnsaidRound$Green" "silents" "[I", Cond.fieldLink RX0 58 "UnsaidRound$Green" "childCount" "I", Cond.fieldLink RX0 28 "UnsaidRound$Green" "grips" "[I", Cond.fieldLink RX0 31 "UnsaidRound$Green" "rides" "[I", Cond.fieldLink RX0 34 "UnsaidRound$Green" "flings" "[I"]
def wsX4_undo : List Cond := .code yX4_undo cX4_undo 1 (some .int) :: ((wsX4_undo_r1 ++ wsX4_undo_r2) ++ wsX40 ++ wsX00)
def wsX4_tear : List Cond := .code yX4_tear cX4_tear 2 (some .int) :: ([.fieldLink RX4 243 "UnsaidRound" "isKept" "Z"] ++ wsX40)
def wsX4_count : List Cond := .code yX4_count cX4_count 2 (some .int) :: ([.fieldLink RX4 10 "UnsaidRound" "live" "LUnsaidRound$Green;", .fieldLink RX4 90 "UnsaidRound$Green" "motherCount" "I", .fieldLink RX4 136 "UnsaidRound$Green" "childCount" "I", .fieldLink RX4 25 "UnsaidRound" "tape" "LUnsaidRound$Tape;", .fieldLink RX4 195 "UnsaidRound$Tape" "length" "I", .constant RX4 47 (-1000000001), .methodLink RX4 179 yX0_flingsOfAll, .instanceMethod yX0_flingsOfAll, .selects RX0 yX0_flingsOfAll yX0_flingsOfAll, .initialized RX0, .code yX0_flingsOfAll cX0_flingsOfAll 3 (some .int), .fieldLink RX0 58 "UnsaidRound$Green" "childCount" "I", .fieldLink RX0 34 "UnsaidRound$Green" "flings" "[I", .methodLink RX4 48 yX4_tell, .instanceMethod yX4_tell, .selects RX4 yX4_tell yX4_tell, .initialized RX4, .code yX4_tell cX4_tell 3 (some .int), .fieldLink RX4 36 "UnsaidRound" "findings" "[I"] ++ wsX40 ++ wsX00 ++ wsX30)
def wsX4_status : List Cond := .code yX4_status cX4_status 4 (some .int) :: ([.constant RX4 47 (-1000000001), .fieldLink RX4 36 "UnsaidRound" "findings" "[I", .methodLink RX4 48 yX4_tell, .instanceMethod yX4_tell, .selects RX4 yX4_tell yX4_tell, .initialized RX4, .code yX4_tell cX4_tell 3 (some .int)] ++ wsX40)
def wsX5_init : List Cond := .code yX5_init cX5_init 1 none :: ([.methodLink RX5 3 objectInit, .instanceMethod objectInit, .code objectInit ⟨#[0xb1]⟩ 1 none, .arrayClass .int, .fieldLink RX5 9 "UnsaidRoundModel" "m" "[I", .fieldLink RX5 13 "UnsaidRoundModel" "kept" "[I", .fieldLink RX5 16 "UnsaidRoundModel" "was" "[I", .fieldLink RX5 19 "UnsaidRoundModel" "found" "[I", .fieldLink RX5 22 "UnsaidRoundModel" "tape" "[I", .fieldLink RX5 25 "UnsaidRoundModel" "bitsOf" "[I", .fieldLink RX5 28 "UnsaidRoundModel" "sizeOf" "[I", .arrayClass .long, .fieldLink RX5 31 "UnsaidRoundModel" "cells" "[J"] ++ wsX50)
def wsX5_finds : List Cond := .code yX5_finds cX5_finds 2 (some .int) :: ([.fieldLink RX5 19 "UnsaidRoundModel" "found" "[I", .constant RX5 35 (-1000000001)] ++ wsX50)
def wsX5_orNone : List Cond := .code yX5_orNone cX5_orNone 2 (some .int) :: ([.constant RX5 36 (-1000000004), .methodLink RX5 37 yX5_finds, .instanceMethod yX5_finds, .selects RX5 yX5_finds yX5_finds, .initialized RX5, .code yX5_finds cX5_finds 2 (some .int), .fieldLink RX5 19 "UnsaidRoundModel" "found" "[I", .constant RX5 35 (-1000000001)] ++ wsX50)
def wsX5_in : List Cond := .code yX5_in cX5_in 4 (some .boolean) :: ([])
def wsX5_held : List Cond := .code yX5_held cX5_held 3 (some .int) :: ([])
def wsX5_copyAll : List Cond := .code yX5_copyAll cX5_copyAll 3 none :: ([])
def wsX5_bits : List Cond := .code yX5_bits cX5_bits 3 (some .int) :: ([])
def wsX5_becomes : List Cond := .code yX5_becomes cX5_becomes 4 (some .int) :: ([.fieldLink RX5 9 "UnsaidRoundModel" "m" "[I"] ++ wsX50)
def wsX5_isMother : List Cond := .code yX5_isMother cX5_isMother 2 (some .boolean) :: ([.fieldLink RX5 9 "UnsaidRoundModel" "m" "[I", .methodLink RX5 41 yX5_in, .static yX5_in, .initialized RX5, .code yX5_in cX5_in 4 (some .boolean)] ++ wsX50)
def wsX5_isChild : List Cond := .code yX5_isChild cX5_isChild 2 (some .boolean) :: ([.fieldLink RX5 9 "UnsaidRoundModel" "m" "[I", .methodLink RX5 41 yX5_in, .static yX5_in, .initialized RX5, .code yX5_in cX5_in 4 (some .boolean)] ++ wsX50)
def wsX5_it : List Cond := .code yX5_it cX5_it 3 (some .int) :: ([.fieldLink RX5 9 "UnsaidRoundModel" "m" "[I"] ++ wsX50)
def wsX5_put : List Cond := .code yX5_put cX5_put 4 none :: ([.fieldLink RX5 9 "UnsaidRoundModel" "m" "[I"] ++ wsX50)
def wsX5_about : List Cond := .code yX5_about cX5_about 3 (some .int) :: ([.fieldLink RX5 9 "UnsaidRoundModel" "m" "[I"] ++ wsX50)
def wsX5_lets : List Cond := .code yX5_lets cX5_lets 4 none :: ([.fieldLink RX5 9 "UnsaidRoundModel" "m" "[I"] ++ wsX50)
def wsX5_clock : List Cond := .code yX5_clock cX5_clock 1 (some .int) :: ([.fieldLink RX5 9 "UnsaidRoundModel" "m" "[I"] ++ wsX50)
def wsX5_isNight : List Cond := .code yX5_isNight cX5_isNight 1 (some .boolean) :: ([.methodLink RX5 45 yX5_clock, .instanceMethod yX5_clock, .selects RX5 yX5_clock yX5_clock, .initialized RX5, .code yX5_clock cX5_clock 1 (some .int), .fieldLink RX5 9 "UnsaidRoundModel" "m" "[I"] ++ wsX50)
def wsX5_isWet : List Cond := .code yX5_isWet cX5_isWet 1 (some .boolean) :: ([.fieldLink RX5 9 "UnsaidRoundModel" "m" "[I", .methodLink RX5 45 yX5_clock, .instanceMethod yX5_clock, .selects RX5 yX5_clock yX5_clock, .initialized RX5, .code yX5_clock cX5_clock 1 (some .int)] ++ wsX50)
def wsX5_outOnes : List Cond := .code yX5_outOnes cX5_outOnes 3 (some .int) :: ([.fieldLink RX5 9 "UnsaidRoundModel" "m" "[I", .methodLink RX5 49 yX5_it, .instanceMethod yX5_it, .selects RX5 yX5_it yX5_it, .initialized RX5, .code yX5_it cX5_it 3 (some .int)] ++ wsX50)
def wsX5_others : List Cond := .code yX5_others cX5_others 2 (some .int) :: ([.methodLink RX5 53 yX5_outOnes, .instanceMethod yX5_outOnes, .selects RX5 yX5_outOnes yX5_outOnes, .initialized RX5, .code yX5_outOnes cX5_outOnes 3 (some .int), .fieldLink RX5 9 "UnsaidRoundModel" "m" "[I", .methodLink RX5 49 yX5_it, .instanceMethod yX5_it, .selects RX5 yX5_it yX5_it, .code yX5_it cX5_it 3 (some .int), .methodLink RX5 56 yX5_bits, .static yX5_bits, .code yX5_bits cX5_bits 3 (some .int)] ++ wsX50)
def wsX5_keepsBack_r1 : List Cond := [Cond.methodLink RX5 49 yX5_it, Cond.instanceMethod yX5_it, Cond.selects RX5 yX5_it yX5_it, Cond.initialized RX5, Cond.code yX5_it cX5_it 3 (some .int), Cond.fieldLink RX5 9 "UnsaidRoundModel" "m" "[I", Cond.methodLink RX5 59 yX5_others, Cond.instanceMethod yX5_others, Cond.selects RX5 yX5_others yX5_others, Cond.code yX5_others cX5_others 2 (some .int), Cond.methodLink RX5 53 yX5_outOnes, Cond.instanceMethod yX5_outOnes, Cond.selects RX5 yX5_outOnes yX5_outOnes, Cond.code yX5_outOnes cX5_outOnes 3 (some .int), Cond.methodLink RX5 56 yX5_bits, Cond.static yX5_bits, Cond.code yX5_bits cX5_bits 3 (some .int), Cond.methodLink RX5 62 yX5_isNight, Cond.instanceMethod yX5_isNight, Cond.selects RX5 yX5_isNight yX5_isNight, Cond.code yX5_isNight cX5_isNight 1 (some .boolean), Cond.methodLink RX5 45 yX5_clock, Cond.instanceMethod yX5_clock, Cond.selects RX5 yX5_clock yX5_clock]
def wsX5_keepsBack_r2 : List Cond := [Cond.code yX5_clock cX5_clock 1 (some .int)]
def wsX5_keepsBack : List Cond := .code yX5_keepsBack cX5_keepsBack 6 (some .int) :: ((wsX5_keepsBack_r1 ++ wsX5_keepsBack_r2) ++ wsX50)
def wsX5_doesSpeak_r1 : List Cond := [Cond.fieldLink RX5 9 "UnsaidRoundModel" "m" "[I", Cond.methodLink RX5 49 yX5_it, Cond.instanceMethod yX5_it, Cond.selects RX5 yX5_it yX5_it, Cond.initialized RX5, Cond.code yX5_it cX5_it 3 (some .int), Cond.methodLink RX5 59 yX5_others, Cond.instanceMethod yX5_others, Cond.selects RX5 yX5_others yX5_others, Cond.code yX5_others cX5_others 2 (some .int), Cond.methodLink RX5 53 yX5_outOnes, Cond.instanceMethod yX5_outOnes, Cond.selects RX5 yX5_outOnes yX5_outOnes, Cond.code yX5_outOnes cX5_outOnes 3 (some .int), Cond.methodLink RX5 56 yX5_bits, Cond.static yX5_bits, Cond.code yX5_bits cX5_bits 3 (some .int), Cond.methodLink RX5 62 yX5_isNight, Cond.instanceMethod yX5_isNight, Cond.selects RX5 yX5_isNight yX5_isNight, Cond.code yX5_isNight cX5_isNight 1 (some .boolean), Cond.methodLink RX5 45 yX5_clock, Cond.instanceMethod yX5_clock, Cond.selects RX5 yX5_clock yX5_clock]
def wsX5_doesSpeak_r2 : List Cond := [Cond.code yX5_clock cX5_clock 1 (some .int)]
def wsX5_doesSpeak : List Cond := .code yX5_doesSpeak cX5_doesSpeak 4 (some .boolean) :: ((wsX5_doesSpeak_r1 ++ wsX5_doesSpeak_r2) ++ wsX50)
def wsX5_lessBy : List Cond := .code yX5_lessBy cX5_lessBy 2 (some .int) :: ([.methodLink RX5 49 yX5_it, .instanceMethod yX5_it, .selects RX5 yX5_it yX5_it, .initialized RX5, .code yX5_it cX5_it 3 (some .int), .fieldLink RX5 9 "UnsaidRoundModel" "m" "[I"] ++ wsX50)
def wsX5_iron : List Cond := .code yX5_iron cX5_iron 4 (some .int) :: ([.constant RX5 35 (-1000000001), .methodLink RX5 41 yX5_in, .static yX5_in, .initialized RX5, .code yX5_in cX5_in 4 (some .boolean), .methodLink RX5 66 yX5_becomes, .instanceMethod yX5_becomes, .selects RX5 yX5_becomes yX5_becomes, .code yX5_becomes cX5_becomes 4 (some .int), .fieldLink RX5 9 "UnsaidRoundModel" "m" "[I", .methodLink RX5 37 yX5_finds, .instanceMethod yX5_finds, .selects RX5 yX5_finds yX5_finds, .code yX5_finds cX5_finds 2 (some .int), .fieldLink RX5 19 "UnsaidRoundModel" "found" "[I"] ++ wsX50)
def wsX5_rain : List Cond := .code yX5_rain cX5_rain 2 (some .int) :: ([.constant RX5 35 (-1000000001), .methodLink RX5 41 yX5_in, .static yX5_in, .initialized RX5, .code yX5_in cX5_in 4 (some .boolean), .methodLink RX5 66 yX5_becomes, .instanceMethod yX5_becomes, .selects RX5 yX5_becomes yX5_becomes, .code yX5_becomes cX5_becomes 4 (some .int), .fieldLink RX5 9 "UnsaidRoundModel" "m" "[I", .methodLink RX5 37 yX5_finds, .instanceMethod yX5_finds, .selects RX5 yX5_finds yX5_finds, .code yX5_finds cX5_finds 2 (some .int), .fieldLink RX5 19 "UnsaidRoundModel" "found" "[I"] ++ wsX50)
def wsX5_riders : List Cond := .code yX5_riders cX5_riders 3 (some .int) :: ([.fieldLink RX5 9 "UnsaidRoundModel" "m" "[I", .methodLink RX5 69 yX5_about, .instanceMethod yX5_about, .selects RX5 yX5_about yX5_about, .initialized RX5, .code yX5_about cX5_about 3 (some .int)] ++ wsX50)
def wsX5_weight : List Cond := .code yX5_weight cX5_weight 1 (some .int) :: ([.fieldLink RX5 9 "UnsaidRoundModel" "m" "[I", .methodLink RX5 72 yX5_riders, .instanceMethod yX5_riders, .selects RX5 yX5_riders yX5_riders, .initialized RX5, .code yX5_riders cX5_riders 3 (some .int), .methodLink RX5 69 yX5_about, .instanceMethod yX5_about, .selects RX5 yX5_about yX5_about, .code yX5_about cX5_about 3 (some .int), .methodLink RX5 56 yX5_bits, .static yX5_bits, .code yX5_bits cX5_bits 3 (some .int)] ++ wsX50)
def wsX5_push_r1 : List Cond := [Cond.fieldLink RX5 9 "UnsaidRoundModel" "m" "[I", Cond.methodLink RX5 49 yX5_it, Cond.instanceMethod yX5_it, Cond.selects RX5 yX5_it yX5_it, Cond.initialized RX5, Cond.code yX5_it cX5_it 3 (some .int), Cond.methodLink RX5 75 yX5_keepsBack, Cond.instanceMethod yX5_keepsBack, Cond.selects RX5 yX5_keepsBack yX5_keepsBack, Cond.code yX5_keepsBack cX5_keepsBack 6 (some .int), Cond.methodLink RX5 59 yX5_others, Cond.instanceMethod yX5_others, Cond.selects RX5 yX5_others yX5_others, Cond.code yX5_others cX5_others 2 (some .int), Cond.methodLink RX5 53 yX5_outOnes, Cond.instanceMethod yX5_outOnes, Cond.selects RX5 yX5_outOnes yX5_outOnes, Cond.code yX5_outOnes cX5_outOnes 3 (some .int), Cond.methodLink RX5 56 yX5_bits, Cond.static yX5_bits, Cond.code yX5_bits cX5_bits 3 (some .int), Cond.methodLink RX5 62 yX5_isNight, Cond.instanceMethod yX5_isNight, Cond.selects RX5 yX5_isNight yX5_isNight]
def wsX5_push_r2 : List Cond := [Cond.code yX5_isNight cX5_isNight 1 (some .boolean), Cond.methodLink RX5 45 yX5_clock, Cond.instanceMethod yX5_clock, Cond.selects RX5 yX5_clock yX5_clock, Cond.code yX5_clock cX5_clock 1 (some .int), Cond.methodLink RX5 78 yX5_isWet, Cond.instanceMethod yX5_isWet, Cond.selects RX5 yX5_isWet yX5_isWet, Cond.code yX5_isWet cX5_isWet 1 (some .boolean)]
def wsX5_push : List Cond := .code yX5_push cX5_push 3 (some .int) :: ((wsX5_push_r1 ++ wsX5_push_r2) ++ wsX50)
def wsX5_now_r1 : List Cond := [Cond.fieldLink RX5 9 "UnsaidRoundModel" "m" "[I", Cond.constant RX5 35 (-1000000001), Cond.methodLink RX5 45 yX5_clock, Cond.instanceMethod yX5_clock, Cond.selects RX5 yX5_clock yX5_clock, Cond.initialized RX5, Cond.code yX5_clock cX5_clock 1 (some .int), Cond.methodLink RX5 62 yX5_isNight, Cond.instanceMethod yX5_isNight, Cond.selects RX5 yX5_isNight yX5_isNight, Cond.code yX5_isNight cX5_isNight 1 (some .boolean), Cond.methodLink RX5 78 yX5_isWet, Cond.instanceMethod yX5_isWet, Cond.selects RX5 yX5_isWet yX5_isWet, Cond.code yX5_isWet cX5_isWet 1 (some .boolean), Cond.methodLink RX5 81 yX5_weight, Cond.instanceMethod yX5_weight, Cond.selects RX5 yX5_weight yX5_weight, Cond.code yX5_weight cX5_weight 1 (some .int), Cond.methodLink RX5 72 yX5_riders, Cond.instanceMethod yX5_riders, Cond.selects RX5 yX5_riders yX5_riders, Cond.code yX5_riders cX5_riders 3 (some .int), Cond.methodLink RX5 69 yX5_about]
def wsX5_now_r2 : List Cond := [Cond.instanceMethod yX5_about, Cond.selects RX5 yX5_about yX5_about, Cond.code yX5_about cX5_about 3 (some .int), Cond.methodLink RX5 56 yX5_bits, Cond.static yX5_bits, Cond.code yX5_bits cX5_bits 3 (some .int), Cond.methodLink RX5 84 yX5_push, Cond.instanceMethod yX5_push, Cond.selects RX5 yX5_push yX5_push, Cond.code yX5_push cX5_push 3 (some .int), Cond.methodLink RX5 49 yX5_it, Cond.instanceMethod yX5_it, Cond.selects RX5 yX5_it yX5_it, Cond.code yX5_it cX5_it 3 (some .int), Cond.methodLink RX5 75 yX5_keepsBack, Cond.instanceMethod yX5_keepsBack, Cond.selects RX5 yX5_keepsBack yX5_keepsBack, Cond.code yX5_keepsBack cX5_keepsBack 6 (some .int), Cond.methodLink RX5 59 yX5_others, Cond.instanceMethod yX5_others, Cond.selects RX5 yX5_others yX5_others, Cond.code yX5_others cX5_others 2 (some .int), Cond.methodLink RX5 53 yX5_outOnes, Cond.instanceMethod yX5_outOnes]
def wsX5_now_r3 : List Cond := [Cond.selects RX5 yX5_outOnes yX5_outOnes, Cond.code yX5_outOnes cX5_outOnes 3 (some .int), Cond.methodLink RX5 37 yX5_finds, Cond.instanceMethod yX5_finds, Cond.selects RX5 yX5_finds yX5_finds, Cond.code yX5_finds cX5_finds 2 (some .int), Cond.fieldLink RX5 19 "UnsaidRoundModel" "found" "[I"]
def wsX5_now : List Cond := .code yX5_now cX5_now 2 (some .int) :: ((wsX5_now_r1 ++ (wsX5_now_r2 ++ wsX5_now_r3)) ++ wsX50)
def wsX5_comesAs : List Cond := .code yX5_comesAs cX5_comesAs 5 (some .int) :: ([.fieldLink RX5 9 "UnsaidRoundModel" "m" "[I", .methodLink RX5 87 yX5_put, .instanceMethod yX5_put, .selects RX5 yX5_put yX5_put, .initialized RX5, .code yX5_put cX5_put 4 none] ++ wsX50)
def wsX5_mother : List Cond := .code yX5_mother cX5_mother 2 (some .int) :: ([.constant RX5 35 (-1000000001), .fieldLink RX5 9 "UnsaidRoundModel" "m" "[I", .constant RX5 91 (-1000000002), .methodLink RX5 41 yX5_in, .static yX5_in, .initialized RX5, .code yX5_in cX5_in 4 (some .boolean), .methodLink RX5 37 yX5_finds, .instanceMethod yX5_finds, .selects RX5 yX5_finds yX5_finds, .code yX5_finds cX5_finds 2 (some .int), .fieldLink RX5 19 "UnsaidRoundModel" "found" "[I", .methodLink RX5 92 yX5_comesAs, .instanceMethod yX5_comesAs, .selects RX5 yX5_comesAs yX5_comesAs, .code yX5_comesAs cX5_comesAs 5 (some .int), .methodLink RX5 87 yX5_put, .instanceMethod yX5_put, .selects RX5 yX5_put yX5_put, .code yX5_put cX5_put 4 none] ++ wsX50)
def wsX5_of_r1 : List Cond := [Cond.constant RX5 35 (-1000000001), Cond.methodLink RX5 96 yX5_isMother, Cond.instanceMethod yX5_isMother, Cond.selects RX5 yX5_isMother yX5_isMother, Cond.initialized RX5, Cond.code yX5_isMother cX5_isMother 2 (some .boolean), Cond.fieldLink RX5 9 "UnsaidRoundModel" "m" "[I", Cond.methodLink RX5 41 yX5_in, Cond.static yX5_in, Cond.code yX5_in cX5_in 4 (some .boolean), Cond.methodLink RX5 37 yX5_finds, Cond.instanceMethod yX5_finds, Cond.selects RX5 yX5_finds yX5_finds, Cond.code yX5_finds cX5_finds 2 (some .int), Cond.fieldLink RX5 19 "UnsaidRoundModel" "found" "[I", Cond.methodLink RX5 75 yX5_keepsBack, Cond.instanceMethod yX5_keepsBack, Cond.selects RX5 yX5_keepsBack yX5_keepsBack, Cond.code yX5_keepsBack cX5_keepsBack 6 (some .int), Cond.methodLink RX5 49 yX5_it, Cond.instanceMethod yX5_it, Cond.selects RX5 yX5_it yX5_it, Cond.code yX5_it cX5_it 3 (some .int), Cond.methodLink RX5 59 yX5_others]
def wsX5_of_r2 : List Cond := [Cond.instanceMethod yX5_others, Cond.selects RX5 yX5_others yX5_others, Cond.code yX5_others cX5_others 2 (some .int), Cond.methodLink RX5 53 yX5_outOnes, Cond.instanceMethod yX5_outOnes, Cond.selects RX5 yX5_outOnes yX5_outOnes, Cond.code yX5_outOnes cX5_outOnes 3 (some .int), Cond.methodLink RX5 56 yX5_bits, Cond.static yX5_bits, Cond.code yX5_bits cX5_bits 3 (some .int), Cond.methodLink RX5 62 yX5_isNight, Cond.instanceMethod yX5_isNight, Cond.selects RX5 yX5_isNight yX5_isNight, Cond.code yX5_isNight cX5_isNight 1 (some .boolean), Cond.methodLink RX5 45 yX5_clock, Cond.instanceMethod yX5_clock, Cond.selects RX5 yX5_clock yX5_clock, Cond.code yX5_clock cX5_clock 1 (some .int), Cond.methodLink RX5 100 yX5_doesSpeak, Cond.instanceMethod yX5_doesSpeak, Cond.selects RX5 yX5_doesSpeak yX5_doesSpeak, Cond.code yX5_doesSpeak cX5_doesSpeak 4 (some .boolean), Cond.methodLink RX5 103 yX5_lessBy, Cond.instanceMethod yX5_lessBy]
def wsX5_of_r3 : List Cond := [Cond.selects RX5 yX5_lessBy yX5_lessBy, Cond.code yX5_lessBy cX5_lessBy 2 (some .int)]
def wsX5_of : List Cond := .code yX5_of cX5_of 3 (some .int) :: ((wsX5_of_r1 ++ (wsX5_of_r2 ++ wsX5_of_r3)) ++ wsX50)
def wsX5_set : List Cond := .code yX5_set cX5_set 5 (some .int) :: ([.constant RX5 35 (-1000000001), .methodLink RX5 96 yX5_isMother, .instanceMethod yX5_isMother, .selects RX5 yX5_isMother yX5_isMother, .initialized RX5, .code yX5_isMother cX5_isMother 2 (some .boolean), .fieldLink RX5 9 "UnsaidRoundModel" "m" "[I", .methodLink RX5 41 yX5_in, .static yX5_in, .code yX5_in cX5_in 4 (some .boolean), .methodLink RX5 66 yX5_becomes, .instanceMethod yX5_becomes, .selects RX5 yX5_becomes yX5_becomes, .code yX5_becomes cX5_becomes 4 (some .int), .methodLink RX5 37 yX5_finds, .instanceMethod yX5_finds, .selects RX5 yX5_finds yX5_finds, .code yX5_finds cX5_finds 2 (some .int), .fieldLink RX5 19 "UnsaidRoundModel" "found" "[I"] ++ wsX50)
def wsX5_moves : List Cond := .code yX5_moves cX5_moves 3 (some .int) :: ([.methodLink RX5 87 yX5_put, .instanceMethod yX5_put, .selects RX5 yX5_put yX5_put, .initialized RX5, .code yX5_put cX5_put 4 none, .fieldLink RX5 9 "UnsaidRoundModel" "m" "[I", .methodLink RX5 66 yX5_becomes, .instanceMethod yX5_becomes, .selects RX5 yX5_becomes yX5_becomes, .code yX5_becomes cX5_becomes 4 (some .int)] ++ wsX50)
def wsX5_out_r1 : List Cond := [Cond.constant RX5 35 (-1000000001), Cond.methodLink RX5 96 yX5_isMother, Cond.instanceMethod yX5_isMother, Cond.selects RX5 yX5_isMother yX5_isMother, Cond.initialized RX5, Cond.code yX5_isMother cX5_isMother 2 (some .boolean), Cond.fieldLink RX5 9 "UnsaidRoundModel" "m" "[I", Cond.methodLink RX5 41 yX5_in, Cond.static yX5_in, Cond.code yX5_in cX5_in 4 (some .boolean), Cond.methodLink RX5 106 yX5_moves, Cond.instanceMethod yX5_moves, Cond.selects RX5 yX5_moves yX5_moves, Cond.code yX5_moves cX5_moves 3 (some .int), Cond.methodLink RX5 87 yX5_put, Cond.instanceMethod yX5_put, Cond.selects RX5 yX5_put yX5_put, Cond.code yX5_put cX5_put 4 none, Cond.methodLink RX5 66 yX5_becomes, Cond.instanceMethod yX5_becomes, Cond.selects RX5 yX5_becomes yX5_becomes, Cond.code yX5_becomes cX5_becomes 4 (some .int), Cond.methodLink RX5 37 yX5_finds, Cond.instanceMethod yX5_finds]
def wsX5_out_r2 : List Cond := [Cond.selects RX5 yX5_finds yX5_finds, Cond.code yX5_finds cX5_finds 2 (some .int), Cond.fieldLink RX5 19 "UnsaidRoundModel" "found" "[I"]
def wsX5_out : List Cond := .code yX5_out cX5_out 3 (some .int) :: ((wsX5_out_r1 ++ wsX5_out_r2) ++ wsX50)
def wsX5_turn : List Cond := .code yX5_turn cX5_turn 3 (some .int) :: ([.constant RX5 35 (-1000000001), .methodLink RX5 96 yX5_isMother, .instanceMethod yX5_isMother, .selects RX5 yX5_isMother yX5_isMother, .initialized RX5, .code yX5_isMother cX5_isMother 2 (some .boolean), .fieldLink RX5 9 "UnsaidRoundModel" "m" "[I", .methodLink RX5 41 yX5_in, .static yX5_in, .code yX5_in cX5_in 4 (some .boolean), .methodLink RX5 66 yX5_becomes, .instanceMethod yX5_becomes, .selects RX5 yX5_becomes yX5_becomes, .code yX5_becomes cX5_becomes 4 (some .int), .methodLink RX5 37 yX5_finds, .instanceMethod yX5_finds, .selects RX5 yX5_finds yX5_finds, .code yX5_finds cX5_finds 2 (some .int), .fieldLink RX5 19 "UnsaidRoundModel" "found" "[I"] ++ wsX50)
def wsX5_as : List Cond := .code yX5_as cX5_as 5 (some .int) :: ([.constant RX5 35 (-1000000001), .constant RX5 109 (-1000000003), .methodLink RX5 96 yX5_isMother, .instanceMethod yX5_isMother, .selects RX5 yX5_isMother yX5_isMother, .initialized RX5, .code yX5_isMother cX5_isMother 2 (some .boolean), .fieldLink RX5 9 "UnsaidRoundModel" "m" "[I", .methodLink RX5 41 yX5_in, .static yX5_in, .code yX5_in cX5_in 4 (some .boolean), .methodLink RX5 37 yX5_finds, .instanceMethod yX5_finds, .selects RX5 yX5_finds yX5_finds, .code yX5_finds cX5_finds 2 (some .int), .fieldLink RX5 19 "UnsaidRoundModel" "found" "[I", .methodLink RX5 49 yX5_it, .instanceMethod yX5_it, .selects RX5 yX5_it yX5_it, .code yX5_it cX5_it 3 (some .int)] ++ wsX50)
def wsX5_getsOn : List Cond := .code yX5_getsOn cX5_getsOn 4 (some .int) :: ([.fieldLink RX5 9 "UnsaidRoundModel" "m" "[I", .methodLink RX5 110 yX5_lets, .instanceMethod yX5_lets, .selects RX5 yX5_lets yX5_lets, .initialized RX5, .code yX5_lets cX5_lets 4 none] ++ wsX50)
def wsX5_child : List Cond := .code yX5_child cX5_child 2 (some .int) :: ([.constant RX5 35 (-1000000001), .fieldLink RX5 9 "UnsaidRoundModel" "m" "[I", .constant RX5 91 (-1000000002), .methodLink RX5 41 yX5_in, .static yX5_in, .initialized RX5, .code yX5_in cX5_in 4 (some .boolean), .methodLink RX5 37 yX5_finds, .instanceMethod yX5_finds, .selects RX5 yX5_finds yX5_finds, .code yX5_finds cX5_finds 2 (some .int), .fieldLink RX5 19 "UnsaidRoundModel" "found" "[I", .methodLink RX5 113 yX5_getsOn, .instanceMethod yX5_getsOn, .selects RX5 yX5_getsOn yX5_getsOn, .code yX5_getsOn cX5_getsOn 4 (some .int), .methodLink RX5 110 yX5_lets, .instanceMethod yX5_lets, .selects RX5 yX5_lets yX5_lets, .code yX5_lets cX5_lets 4 none] ++ wsX50)
def wsX5_childOf : List Cond := .code yX5_childOf cX5_childOf 3 (some .int) :: ([.constant RX5 35 (-1000000001), .methodLink RX5 116 yX5_isChild, .instanceMethod yX5_isChild, .selects RX5 yX5_isChild yX5_isChild, .initialized RX5, .code yX5_isChild cX5_isChild 2 (some .boolean), .fieldLink RX5 9 "UnsaidRoundModel" "m" "[I", .methodLink RX5 41 yX5_in, .static yX5_in, .code yX5_in cX5_in 4 (some .boolean), .methodLink RX5 69 yX5_about, .instanceMethod yX5_about, .selects RX5 yX5_about yX5_about, .code yX5_about cX5_about 3 (some .int), .methodLink RX5 37 yX5_finds, .instanceMethod yX5_finds, .selects RX5 yX5_finds yX5_finds, .code yX5_finds cX5_finds 2 (some .int), .fieldLink RX5 19 "UnsaidRoundModel" "found" "[I"] ++ wsX50)
def wsX5_grip : List Cond := .code yX5_grip cX5_grip 3 (some .int) :: ([.constant RX5 35 (-1000000001), .methodLink RX5 116 yX5_isChild, .instanceMethod yX5_isChild, .selects RX5 yX5_isChild yX5_isChild, .initialized RX5, .code yX5_isChild cX5_isChild 2 (some .boolean), .fieldLink RX5 9 "UnsaidRoundModel" "m" "[I", .methodLink RX5 41 yX5_in, .static yX5_in, .code yX5_in cX5_in 4 (some .boolean), .methodLink RX5 66 yX5_becomes, .instanceMethod yX5_becomes, .selects RX5 yX5_becomes yX5_becomes, .code yX5_becomes cX5_becomes 4 (some .int), .methodLink RX5 37 yX5_finds, .instanceMethod yX5_finds, .selects RX5 yX5_finds yX5_finds, .code yX5_finds cX5_finds 2 (some .int), .fieldLink RX5 19 "UnsaidRoundModel" "found" "[I"] ++ wsX50)
def wsX5_ride_r1 : List Cond := [Cond.constant RX5 35 (-1000000001), Cond.methodLink RX5 116 yX5_isChild, Cond.instanceMethod yX5_isChild, Cond.selects RX5 yX5_isChild yX5_isChild, Cond.initialized RX5, Cond.code yX5_isChild cX5_isChild 2 (some .boolean), Cond.fieldLink RX5 9 "UnsaidRoundModel" "m" "[I", Cond.methodLink RX5 41 yX5_in, Cond.static yX5_in, Cond.code yX5_in cX5_in 4 (some .boolean), Cond.methodLink RX5 37 yX5_finds, Cond.instanceMethod yX5_finds, Cond.selects RX5 yX5_finds yX5_finds, Cond.code yX5_finds cX5_finds 2 (some .int), Cond.fieldLink RX5 19 "UnsaidRoundModel" "found" "[I", Cond.methodLink RX5 110 yX5_lets, Cond.instanceMethod yX5_lets, Cond.selects RX5 yX5_lets yX5_lets, Cond.code yX5_lets cX5_lets 4 none, Cond.methodLink RX5 72 yX5_riders, Cond.instanceMethod yX5_riders, Cond.selects RX5 yX5_riders yX5_riders, Cond.code yX5_riders cX5_riders 3 (some .int), Cond.methodLink RX5 69 yX5_about]
def wsX5_ride_r2 : List Cond := [Cond.instanceMethod yX5_about, Cond.selects RX5 yX5_about yX5_about, Cond.code yX5_about cX5_about 3 (some .int), Cond.methodLink RX5 56 yX5_bits, Cond.static yX5_bits, Cond.code yX5_bits cX5_bits 3 (some .int)]
def wsX5_ride : List Cond := .code yX5_ride cX5_ride 3 (some .int) :: ((wsX5_ride_r1 ++ wsX5_ride_r2) ++ wsX50)
def wsX5_holds : List Cond := .code yX5_holds cX5_holds 2 none :: ([.fieldLink RX5 9 "UnsaidRoundModel" "m" "[I", .methodLink RX5 69 yX5_about, .instanceMethod yX5_about, .selects RX5 yX5_about yX5_about, .initialized RX5, .code yX5_about cX5_about 3 (some .int), .methodLink RX5 110 yX5_lets, .instanceMethod yX5_lets, .selects RX5 yX5_lets yX5_lets, .code yX5_lets cX5_lets 4 none, .methodLink RX5 119 yX5_held, .static yX5_held, .code yX5_held cX5_held 3 (some .int)] ++ wsX50)
def wsX5_goes_r1 : List Cond := [Cond.fieldLink RX5 9 "UnsaidRoundModel" "m" "[I", Cond.constant RX5 122 (999999), Cond.methodLink RX5 84 yX5_push, Cond.instanceMethod yX5_push, Cond.selects RX5 yX5_push yX5_push, Cond.initialized RX5, Cond.code yX5_push cX5_push 3 (some .int), Cond.methodLink RX5 49 yX5_it, Cond.instanceMethod yX5_it, Cond.selects RX5 yX5_it yX5_it, Cond.code yX5_it cX5_it 3 (some .int), Cond.methodLink RX5 75 yX5_keepsBack, Cond.instanceMethod yX5_keepsBack, Cond.selects RX5 yX5_keepsBack yX5_keepsBack, Cond.code yX5_keepsBack cX5_keepsBack 6 (some .int), Cond.methodLink RX5 59 yX5_others, Cond.instanceMethod yX5_others, Cond.selects RX5 yX5_others yX5_others, Cond.code yX5_others cX5_others 2 (some .int), Cond.methodLink RX5 53 yX5_outOnes, Cond.instanceMethod yX5_outOnes, Cond.selects RX5 yX5_outOnes yX5_outOnes, Cond.code yX5_outOnes cX5_outOnes 3 (some .int), Cond.methodLink RX5 56 yX5_bits]
def wsX5_goes_r2 : List Cond := [Cond.static yX5_bits, Cond.code yX5_bits cX5_bits 3 (some .int), Cond.methodLink RX5 62 yX5_isNight, Cond.instanceMethod yX5_isNight, Cond.selects RX5 yX5_isNight yX5_isNight, Cond.code yX5_isNight cX5_isNight 1 (some .boolean), Cond.methodLink RX5 45 yX5_clock, Cond.instanceMethod yX5_clock, Cond.selects RX5 yX5_clock yX5_clock, Cond.code yX5_clock cX5_clock 1 (some .int), Cond.methodLink RX5 78 yX5_isWet, Cond.instanceMethod yX5_isWet, Cond.selects RX5 yX5_isWet yX5_isWet, Cond.code yX5_isWet cX5_isWet 1 (some .boolean), Cond.methodLink RX5 81 yX5_weight, Cond.instanceMethod yX5_weight, Cond.selects RX5 yX5_weight yX5_weight, Cond.code yX5_weight cX5_weight 1 (some .int), Cond.methodLink RX5 72 yX5_riders, Cond.instanceMethod yX5_riders, Cond.selects RX5 yX5_riders yX5_riders, Cond.code yX5_riders cX5_riders 3 (some .int), Cond.methodLink RX5 69 yX5_about, Cond.instanceMethod yX5_about]
def wsX5_goes_r3 : List Cond := [Cond.selects RX5 yX5_about yX5_about, Cond.code yX5_about cX5_about 3 (some .int), Cond.methodLink RX5 119 yX5_held, Cond.static yX5_held, Cond.code yX5_held cX5_held 3 (some .int), Cond.methodLink RX5 123 yX5_holds, Cond.instanceMethod yX5_holds, Cond.selects RX5 yX5_holds yX5_holds, Cond.code yX5_holds cX5_holds 2 none, Cond.methodLink RX5 110 yX5_lets, Cond.instanceMethod yX5_lets, Cond.selects RX5 yX5_lets yX5_lets, Cond.code yX5_lets cX5_lets 4 none, Cond.methodLink RX5 100 yX5_doesSpeak, Cond.instanceMethod yX5_doesSpeak, Cond.selects RX5 yX5_doesSpeak yX5_doesSpeak, Cond.code yX5_doesSpeak cX5_doesSpeak 4 (some .boolean), Cond.methodLink RX5 103 yX5_lessBy, Cond.instanceMethod yX5_lessBy, Cond.selects RX5 yX5_lessBy yX5_lessBy, Cond.code yX5_lessBy cX5_lessBy 2 (some .int), Cond.methodLink RX5 87 yX5_put, Cond.instanceMethod yX5_put, Cond.selects RX5 yX5_put yX5_put]
def wsX5_goes_r4 : List Cond := [Cond.code yX5_put cX5_put 4 none]
def wsX5_goes : List Cond := .code yX5_goes cX5_goes 6 none :: ((wsX5_goes_r1 ++ (wsX5_goes_r2 ++ (wsX5_goes_r3 ++ wsX5_goes_r4))) ++ wsX50)
def wsX5_goesFor_r1 : List Cond := [Cond.methodLink RX5 127 yX5_goes, Cond.instanceMethod yX5_goes, Cond.selects RX5 yX5_goes yX5_goes, Cond.initialized RX5, Cond.code yX5_goes cX5_goes 6 none, Cond.fieldLink RX5 9 "UnsaidRoundModel" "m" "[I", Cond.constant RX5 122 (999999), Cond.methodLink RX5 84 yX5_push, Cond.instanceMethod yX5_push, Cond.selects RX5 yX5_push yX5_push, Cond.code yX5_push cX5_push 3 (some .int), Cond.methodLink RX5 49 yX5_it, Cond.instanceMethod yX5_it, Cond.selects RX5 yX5_it yX5_it, Cond.code yX5_it cX5_it 3 (some .int), Cond.methodLink RX5 75 yX5_keepsBack, Cond.instanceMethod yX5_keepsBack, Cond.selects RX5 yX5_keepsBack yX5_keepsBack, Cond.code yX5_keepsBack cX5_keepsBack 6 (some .int), Cond.methodLink RX5 59 yX5_others, Cond.instanceMethod yX5_others, Cond.selects RX5 yX5_others yX5_others, Cond.code yX5_others cX5_others 2 (some .int), Cond.methodLink RX5 53 yX5_outOnes]
def wsX5_goesFor_r2 : List Cond := [Cond.instanceMethod yX5_outOnes, Cond.selects RX5 yX5_outOnes yX5_outOnes, Cond.code yX5_outOnes cX5_outOnes 3 (some .int), Cond.methodLink RX5 56 yX5_bits, Cond.static yX5_bits, Cond.code yX5_bits cX5_bits 3 (some .int), Cond.methodLink RX5 62 yX5_isNight, Cond.instanceMethod yX5_isNight, Cond.selects RX5 yX5_isNight yX5_isNight, Cond.code yX5_isNight cX5_isNight 1 (some .boolean), Cond.methodLink RX5 45 yX5_clock, Cond.instanceMethod yX5_clock, Cond.selects RX5 yX5_clock yX5_clock, Cond.code yX5_clock cX5_clock 1 (some .int), Cond.methodLink RX5 78 yX5_isWet, Cond.instanceMethod yX5_isWet, Cond.selects RX5 yX5_isWet yX5_isWet, Cond.code yX5_isWet cX5_isWet 1 (some .boolean), Cond.methodLink RX5 81 yX5_weight, Cond.instanceMethod yX5_weight, Cond.selects RX5 yX5_weight yX5_weight, Cond.code yX5_weight cX5_weight 1 (some .int), Cond.methodLink RX5 72 yX5_riders, Cond.instanceMethod yX5_riders]
def wsX5_goesFor_r3 : List Cond := [Cond.selects RX5 yX5_riders yX5_riders, Cond.code yX5_riders cX5_riders 3 (some .int), Cond.methodLink RX5 69 yX5_about, Cond.instanceMethod yX5_about, Cond.selects RX5 yX5_about yX5_about, Cond.code yX5_about cX5_about 3 (some .int), Cond.methodLink RX5 119 yX5_held, Cond.static yX5_held, Cond.code yX5_held cX5_held 3 (some .int), Cond.methodLink RX5 123 yX5_holds, Cond.instanceMethod yX5_holds, Cond.selects RX5 yX5_holds yX5_holds, Cond.code yX5_holds cX5_holds 2 none, Cond.methodLink RX5 110 yX5_lets, Cond.instanceMethod yX5_lets, Cond.selects RX5 yX5_lets yX5_lets, Cond.code yX5_lets cX5_lets 4 none, Cond.methodLink RX5 100 yX5_doesSpeak, Cond.instanceMethod yX5_doesSpeak, Cond.selects RX5 yX5_doesSpeak yX5_doesSpeak, Cond.code yX5_doesSpeak cX5_doesSpeak 4 (some .boolean), Cond.methodLink RX5 103 yX5_lessBy, Cond.instanceMethod yX5_lessBy, Cond.selects RX5 yX5_lessBy yX5_lessBy]
def wsX5_goesFor_r4 : List Cond := [Cond.code yX5_lessBy cX5_lessBy 2 (some .int), Cond.methodLink RX5 87 yX5_put, Cond.instanceMethod yX5_put, Cond.selects RX5 yX5_put yX5_put, Cond.code yX5_put cX5_put 4 none]
def wsX5_goesFor : List Cond := .code yX5_goesFor cX5_goesFor 3 none :: ((wsX5_goesFor_r1 ++ (wsX5_goesFor_r2 ++ (wsX5_goesFor_r3 ++ wsX5_goesFor_r4))) ++ wsX50)
def wsX5_minutes_r1 : List Cond := [Cond.constant RX5 35 (-1000000001), Cond.fieldLink RX5 9 "UnsaidRoundModel" "m" "[I", Cond.constant RX5 130 (99999), Cond.constant RX5 131 (-1000000005), Cond.methodLink RX5 41 yX5_in, Cond.static yX5_in, Cond.initialized RX5, Cond.code yX5_in cX5_in 4 (some .boolean), Cond.methodLink RX5 37 yX5_finds, Cond.instanceMethod yX5_finds, Cond.selects RX5 yX5_finds yX5_finds, Cond.code yX5_finds cX5_finds 2 (some .int), Cond.fieldLink RX5 19 "UnsaidRoundModel" "found" "[I", Cond.methodLink RX5 132 yX5_goesFor, Cond.instanceMethod yX5_goesFor, Cond.selects RX5 yX5_goesFor yX5_goesFor, Cond.code yX5_goesFor cX5_goesFor 3 none, Cond.methodLink RX5 127 yX5_goes, Cond.instanceMethod yX5_goes, Cond.selects RX5 yX5_goes yX5_goes, Cond.code yX5_goes cX5_goes 6 none, Cond.constant RX5 122 (999999), Cond.methodLink RX5 84 yX5_push, Cond.instanceMethod yX5_push]
def wsX5_minutes_r2 : List Cond := [Cond.selects RX5 yX5_push yX5_push, Cond.code yX5_push cX5_push 3 (some .int), Cond.methodLink RX5 49 yX5_it, Cond.instanceMethod yX5_it, Cond.selects RX5 yX5_it yX5_it, Cond.code yX5_it cX5_it 3 (some .int), Cond.methodLink RX5 75 yX5_keepsBack, Cond.instanceMethod yX5_keepsBack, Cond.selects RX5 yX5_keepsBack yX5_keepsBack, Cond.code yX5_keepsBack cX5_keepsBack 6 (some .int), Cond.methodLink RX5 59 yX5_others, Cond.instanceMethod yX5_others, Cond.selects RX5 yX5_others yX5_others, Cond.code yX5_others cX5_others 2 (some .int), Cond.methodLink RX5 53 yX5_outOnes, Cond.instanceMethod yX5_outOnes, Cond.selects RX5 yX5_outOnes yX5_outOnes, Cond.code yX5_outOnes cX5_outOnes 3 (some .int), Cond.methodLink RX5 56 yX5_bits, Cond.static yX5_bits, Cond.code yX5_bits cX5_bits 3 (some .int), Cond.methodLink RX5 62 yX5_isNight, Cond.instanceMethod yX5_isNight, Cond.selects RX5 yX5_isNight yX5_isNight]
def wsX5_minutes_r3 : List Cond := [Cond.code yX5_isNight cX5_isNight 1 (some .boolean), Cond.methodLink RX5 45 yX5_clock, Cond.instanceMethod yX5_clock, Cond.selects RX5 yX5_clock yX5_clock, Cond.code yX5_clock cX5_clock 1 (some .int), Cond.methodLink RX5 78 yX5_isWet, Cond.instanceMethod yX5_isWet, Cond.selects RX5 yX5_isWet yX5_isWet, Cond.code yX5_isWet cX5_isWet 1 (some .boolean), Cond.methodLink RX5 81 yX5_weight, Cond.instanceMethod yX5_weight, Cond.selects RX5 yX5_weight yX5_weight, Cond.code yX5_weight cX5_weight 1 (some .int), Cond.methodLink RX5 72 yX5_riders, Cond.instanceMethod yX5_riders, Cond.selects RX5 yX5_riders yX5_riders, Cond.code yX5_riders cX5_riders 3 (some .int), Cond.methodLink RX5 69 yX5_about, Cond.instanceMethod yX5_about, Cond.selects RX5 yX5_about yX5_about, Cond.code yX5_about cX5_about 3 (some .int), Cond.methodLink RX5 119 yX5_held, Cond.static yX5_held, Cond.code yX5_held cX5_held 3 (some .int)]
def wsX5_minutes_r4 : List Cond := [Cond.methodLink RX5 123 yX5_holds, Cond.instanceMethod yX5_holds, Cond.selects RX5 yX5_holds yX5_holds, Cond.code yX5_holds cX5_holds 2 none, Cond.methodLink RX5 110 yX5_lets, Cond.instanceMethod yX5_lets, Cond.selects RX5 yX5_lets yX5_lets, Cond.code yX5_lets cX5_lets 4 none, Cond.methodLink RX5 100 yX5_doesSpeak, Cond.instanceMethod yX5_doesSpeak, Cond.selects RX5 yX5_doesSpeak yX5_doesSpeak, Cond.code yX5_doesSpeak cX5_doesSpeak 4 (some .boolean), Cond.methodLink RX5 103 yX5_lessBy, Cond.instanceMethod yX5_lessBy, Cond.selects RX5 yX5_lessBy yX5_lessBy, Cond.code yX5_lessBy cX5_lessBy 2 (some .int), Cond.methodLink RX5 87 yX5_put, Cond.instanceMethod yX5_put, Cond.selects RX5 yX5_put yX5_put, Cond.code yX5_put cX5_put 4 none]
def wsX5_minutes : List Cond := .code yX5_minutes cX5_minutes 2 (some .int) :: ((wsX5_minutes_r1 ++ (wsX5_minutes_r2 ++ (wsX5_minutes_r3 ++ wsX5_minutes_r4))) ++ wsX50)
def wsX5_thinks : List Cond := .code yX5_thinks cX5_thinks 1 none :: ([.fieldLink RX5 9 "UnsaidRoundModel" "m" "[I", .fieldLink RX5 16 "UnsaidRoundModel" "was" "[I", .methodLink RX5 135 yX5_copyAll, .static yX5_copyAll, .initialized RX5, .code yX5_copyAll cX5_copyAll 3 none] ++ wsX50)
def wsX5_putsBack : List Cond := .code yX5_putsBack cX5_putsBack 1 none :: ([.fieldLink RX5 16 "UnsaidRoundModel" "was" "[I", .fieldLink RX5 9 "UnsaidRoundModel" "m" "[I", .methodLink RX5 135 yX5_copyAll, .static yX5_copyAll, .initialized RX5, .code yX5_copyAll cX5_copyAll 3 none] ++ wsX50)
def wsX5_on_r1 : List Cond := [Cond.constant RX5 35 (-1000000001), Cond.fieldLink RX5 9 "UnsaidRoundModel" "m" "[I", Cond.methodLink RX5 41 yX5_in, Cond.static yX5_in, Cond.initialized RX5, Cond.code yX5_in cX5_in 4 (some .boolean), Cond.methodLink RX5 37 yX5_finds, Cond.instanceMethod yX5_finds, Cond.selects RX5 yX5_finds yX5_finds, Cond.code yX5_finds cX5_finds 2 (some .int), Cond.fieldLink RX5 19 "UnsaidRoundModel" "found" "[I", Cond.methodLink RX5 139 yX5_thinks, Cond.instanceMethod yX5_thinks, Cond.selects RX5 yX5_thinks yX5_thinks, Cond.code yX5_thinks cX5_thinks 1 none, Cond.fieldLink RX5 16 "UnsaidRoundModel" "was" "[I", Cond.methodLink RX5 135 yX5_copyAll, Cond.static yX5_copyAll, Cond.code yX5_copyAll cX5_copyAll 3 none, Cond.methodLink RX5 132 yX5_goesFor, Cond.instanceMethod yX5_goesFor, Cond.selects RX5 yX5_goesFor yX5_goesFor, Cond.code yX5_goesFor cX5_goesFor 3 none, Cond.methodLink RX5 127 yX5_goes]
def wsX5_on_r2 : List Cond := [Cond.instanceMethod yX5_goes, Cond.selects RX5 yX5_goes yX5_goes, Cond.code yX5_goes cX5_goes 6 none, Cond.constant RX5 122 (999999), Cond.methodLink RX5 84 yX5_push, Cond.instanceMethod yX5_push, Cond.selects RX5 yX5_push yX5_push, Cond.code yX5_push cX5_push 3 (some .int), Cond.methodLink RX5 49 yX5_it, Cond.instanceMethod yX5_it, Cond.selects RX5 yX5_it yX5_it, Cond.code yX5_it cX5_it 3 (some .int), Cond.methodLink RX5 75 yX5_keepsBack, Cond.instanceMethod yX5_keepsBack, Cond.selects RX5 yX5_keepsBack yX5_keepsBack, Cond.code yX5_keepsBack cX5_keepsBack 6 (some .int), Cond.methodLink RX5 59 yX5_others, Cond.instanceMethod yX5_others, Cond.selects RX5 yX5_others yX5_others, Cond.code yX5_others cX5_others 2 (some .int), Cond.methodLink RX5 53 yX5_outOnes, Cond.instanceMethod yX5_outOnes, Cond.selects RX5 yX5_outOnes yX5_outOnes, Cond.code yX5_outOnes cX5_outOnes 3 (some .int)]
def wsX5_on_r3 : List Cond := [Cond.methodLink RX5 56 yX5_bits, Cond.static yX5_bits, Cond.code yX5_bits cX5_bits 3 (some .int), Cond.methodLink RX5 62 yX5_isNight, Cond.instanceMethod yX5_isNight, Cond.selects RX5 yX5_isNight yX5_isNight, Cond.code yX5_isNight cX5_isNight 1 (some .boolean), Cond.methodLink RX5 45 yX5_clock, Cond.instanceMethod yX5_clock, Cond.selects RX5 yX5_clock yX5_clock, Cond.code yX5_clock cX5_clock 1 (some .int), Cond.methodLink RX5 78 yX5_isWet, Cond.instanceMethod yX5_isWet, Cond.selects RX5 yX5_isWet yX5_isWet, Cond.code yX5_isWet cX5_isWet 1 (some .boolean), Cond.methodLink RX5 81 yX5_weight, Cond.instanceMethod yX5_weight, Cond.selects RX5 yX5_weight yX5_weight, Cond.code yX5_weight cX5_weight 1 (some .int), Cond.methodLink RX5 72 yX5_riders, Cond.instanceMethod yX5_riders, Cond.selects RX5 yX5_riders yX5_riders, Cond.code yX5_riders cX5_riders 3 (some .int), Cond.methodLink RX5 69 yX5_about]
def wsX5_on_r4 : List Cond := [Cond.instanceMethod yX5_about, Cond.selects RX5 yX5_about yX5_about, Cond.code yX5_about cX5_about 3 (some .int), Cond.methodLink RX5 119 yX5_held, Cond.static yX5_held, Cond.code yX5_held cX5_held 3 (some .int), Cond.methodLink RX5 123 yX5_holds, Cond.instanceMethod yX5_holds, Cond.selects RX5 yX5_holds yX5_holds, Cond.code yX5_holds cX5_holds 2 none, Cond.methodLink RX5 110 yX5_lets, Cond.instanceMethod yX5_lets, Cond.selects RX5 yX5_lets yX5_lets, Cond.code yX5_lets cX5_lets 4 none, Cond.methodLink RX5 100 yX5_doesSpeak, Cond.instanceMethod yX5_doesSpeak, Cond.selects RX5 yX5_doesSpeak yX5_doesSpeak, Cond.code yX5_doesSpeak cX5_doesSpeak 4 (some .boolean), Cond.methodLink RX5 103 yX5_lessBy, Cond.instanceMethod yX5_lessBy, Cond.selects RX5 yX5_lessBy yX5_lessBy, Cond.code yX5_lessBy cX5_lessBy 2 (some .int), Cond.methodLink RX5 87 yX5_put, Cond.instanceMethod yX5_put]
def wsX5_on_r5 : List Cond := [Cond.selects RX5 yX5_put yX5_put, Cond.code yX5_put cX5_put 4 none, Cond.methodLink RX5 142 yX5_putsBack, Cond.instanceMethod yX5_putsBack, Cond.selects RX5 yX5_putsBack yX5_putsBack, Cond.code yX5_putsBack cX5_putsBack 1 none]
def wsX5_on : List Cond := .code yX5_on cX5_on 4 (some .int) :: ((wsX5_on_r1 ++ (wsX5_on_r2 ++ (wsX5_on_r3 ++ (wsX5_on_r4 ++ wsX5_on_r5)))) ++ wsX50)
def wsX5_then_r1 : List Cond := [Cond.constant RX5 35 (-1000000001), Cond.methodLink RX5 96 yX5_isMother, Cond.instanceMethod yX5_isMother, Cond.selects RX5 yX5_isMother yX5_isMother, Cond.initialized RX5, Cond.code yX5_isMother cX5_isMother 2 (some .boolean), Cond.fieldLink RX5 9 "UnsaidRoundModel" "m" "[I", Cond.methodLink RX5 41 yX5_in, Cond.static yX5_in, Cond.code yX5_in cX5_in 4 (some .boolean), Cond.methodLink RX5 37 yX5_finds, Cond.instanceMethod yX5_finds, Cond.selects RX5 yX5_finds yX5_finds, Cond.code yX5_finds cX5_finds 2 (some .int), Cond.fieldLink RX5 19 "UnsaidRoundModel" "found" "[I", Cond.methodLink RX5 139 yX5_thinks, Cond.instanceMethod yX5_thinks, Cond.selects RX5 yX5_thinks yX5_thinks, Cond.code yX5_thinks cX5_thinks 1 none, Cond.fieldLink RX5 16 "UnsaidRoundModel" "was" "[I", Cond.methodLink RX5 135 yX5_copyAll, Cond.static yX5_copyAll, Cond.code yX5_copyAll cX5_copyAll 3 none, Cond.methodLink RX5 132 yX5_goesFor]
def wsX5_then_r2 : List Cond := [Cond.instanceMethod yX5_goesFor, Cond.selects RX5 yX5_goesFor yX5_goesFor, Cond.code yX5_goesFor cX5_goesFor 3 none, Cond.methodLink RX5 127 yX5_goes, Cond.instanceMethod yX5_goes, Cond.selects RX5 yX5_goes yX5_goes, Cond.code yX5_goes cX5_goes 6 none, Cond.constant RX5 122 (999999), Cond.methodLink RX5 84 yX5_push, Cond.instanceMethod yX5_push, Cond.selects RX5 yX5_push yX5_push, Cond.code yX5_push cX5_push 3 (some .int), Cond.methodLink RX5 49 yX5_it, Cond.instanceMethod yX5_it, Cond.selects RX5 yX5_it yX5_it, Cond.code yX5_it cX5_it 3 (some .int), Cond.methodLink RX5 75 yX5_keepsBack, Cond.instanceMethod yX5_keepsBack, Cond.selects RX5 yX5_keepsBack yX5_keepsBack, Cond.code yX5_keepsBack cX5_keepsBack 6 (some .int), Cond.methodLink RX5 59 yX5_others, Cond.instanceMethod yX5_others, Cond.selects RX5 yX5_others yX5_others, Cond.code yX5_others cX5_others 2 (some .int)]
def wsX5_then_r3 : List Cond := [Cond.methodLink RX5 53 yX5_outOnes, Cond.instanceMethod yX5_outOnes, Cond.selects RX5 yX5_outOnes yX5_outOnes, Cond.code yX5_outOnes cX5_outOnes 3 (some .int), Cond.methodLink RX5 56 yX5_bits, Cond.static yX5_bits, Cond.code yX5_bits cX5_bits 3 (some .int), Cond.methodLink RX5 62 yX5_isNight, Cond.instanceMethod yX5_isNight, Cond.selects RX5 yX5_isNight yX5_isNight, Cond.code yX5_isNight cX5_isNight 1 (some .boolean), Cond.methodLink RX5 45 yX5_clock, Cond.instanceMethod yX5_clock, Cond.selects RX5 yX5_clock yX5_clock, Cond.code yX5_clock cX5_clock 1 (some .int), Cond.methodLink RX5 78 yX5_isWet, Cond.instanceMethod yX5_isWet, Cond.selects RX5 yX5_isWet yX5_isWet, Cond.code yX5_isWet cX5_isWet 1 (some .boolean), Cond.methodLink RX5 81 yX5_weight, Cond.instanceMethod yX5_weight, Cond.selects RX5 yX5_weight yX5_weight, Cond.code yX5_weight cX5_weight 1 (some .int), Cond.methodLink RX5 72 yX5_riders]
def wsX5_then_r4 : List Cond := [Cond.instanceMethod yX5_riders, Cond.selects RX5 yX5_riders yX5_riders, Cond.code yX5_riders cX5_riders 3 (some .int), Cond.methodLink RX5 69 yX5_about, Cond.instanceMethod yX5_about, Cond.selects RX5 yX5_about yX5_about, Cond.code yX5_about cX5_about 3 (some .int), Cond.methodLink RX5 119 yX5_held, Cond.static yX5_held, Cond.code yX5_held cX5_held 3 (some .int), Cond.methodLink RX5 123 yX5_holds, Cond.instanceMethod yX5_holds, Cond.selects RX5 yX5_holds yX5_holds, Cond.code yX5_holds cX5_holds 2 none, Cond.methodLink RX5 110 yX5_lets, Cond.instanceMethod yX5_lets, Cond.selects RX5 yX5_lets yX5_lets, Cond.code yX5_lets cX5_lets 4 none, Cond.methodLink RX5 100 yX5_doesSpeak, Cond.instanceMethod yX5_doesSpeak, Cond.selects RX5 yX5_doesSpeak yX5_doesSpeak, Cond.code yX5_doesSpeak cX5_doesSpeak 4 (some .boolean), Cond.methodLink RX5 103 yX5_lessBy, Cond.instanceMethod yX5_lessBy]
def wsX5_then_r5 : List Cond := [Cond.selects RX5 yX5_lessBy yX5_lessBy, Cond.code yX5_lessBy cX5_lessBy 2 (some .int), Cond.methodLink RX5 87 yX5_put, Cond.instanceMethod yX5_put, Cond.selects RX5 yX5_put yX5_put, Cond.code yX5_put cX5_put 4 none, Cond.methodLink RX5 142 yX5_putsBack, Cond.instanceMethod yX5_putsBack, Cond.selects RX5 yX5_putsBack yX5_putsBack, Cond.code yX5_putsBack cX5_putsBack 1 none]
def wsX5_then : List Cond := .code yX5_then cX5_then 5 (some .int) :: ((wsX5_then_r1 ++ (wsX5_then_r2 ++ (wsX5_then_r3 ++ (wsX5_then_r4 ++ wsX5_then_r5)))) ++ wsX50)
def wsX5_quick_r1 : List Cond := [Cond.constant RX5 35 (-1000000001), Cond.fieldLink RX5 9 "UnsaidRoundModel" "m" "[I", Cond.constant RX5 36 (-1000000004), Cond.methodLink RX5 41 yX5_in, Cond.static yX5_in, Cond.initialized RX5, Cond.code yX5_in cX5_in 4 (some .boolean), Cond.methodLink RX5 37 yX5_finds, Cond.instanceMethod yX5_finds, Cond.selects RX5 yX5_finds yX5_finds, Cond.code yX5_finds cX5_finds 2 (some .int), Cond.fieldLink RX5 19 "UnsaidRoundModel" "found" "[I", Cond.methodLink RX5 139 yX5_thinks, Cond.instanceMethod yX5_thinks, Cond.selects RX5 yX5_thinks yX5_thinks, Cond.code yX5_thinks cX5_thinks 1 none, Cond.fieldLink RX5 16 "UnsaidRoundModel" "was" "[I", Cond.methodLink RX5 135 yX5_copyAll, Cond.static yX5_copyAll, Cond.code yX5_copyAll cX5_copyAll 3 none, Cond.methodLink RX5 127 yX5_goes, Cond.instanceMethod yX5_goes, Cond.selects RX5 yX5_goes yX5_goes, Cond.code yX5_goes cX5_goes 6 none]
def wsX5_quick_r2 : List Cond := [Cond.constant RX5 122 (999999), Cond.methodLink RX5 84 yX5_push, Cond.instanceMethod yX5_push, Cond.selects RX5 yX5_push yX5_push, Cond.code yX5_push cX5_push 3 (some .int), Cond.methodLink RX5 49 yX5_it, Cond.instanceMethod yX5_it, Cond.selects RX5 yX5_it yX5_it, Cond.code yX5_it cX5_it 3 (some .int), Cond.methodLink RX5 75 yX5_keepsBack, Cond.instanceMethod yX5_keepsBack, Cond.selects RX5 yX5_keepsBack yX5_keepsBack, Cond.code yX5_keepsBack cX5_keepsBack 6 (some .int), Cond.methodLink RX5 59 yX5_others, Cond.instanceMethod yX5_others, Cond.selects RX5 yX5_others yX5_others, Cond.code yX5_others cX5_others 2 (some .int), Cond.methodLink RX5 53 yX5_outOnes, Cond.instanceMethod yX5_outOnes, Cond.selects RX5 yX5_outOnes yX5_outOnes, Cond.code yX5_outOnes cX5_outOnes 3 (some .int), Cond.methodLink RX5 56 yX5_bits, Cond.static yX5_bits, Cond.code yX5_bits cX5_bits 3 (some .int)]
def wsX5_quick_r3 : List Cond := [Cond.methodLink RX5 62 yX5_isNight, Cond.instanceMethod yX5_isNight, Cond.selects RX5 yX5_isNight yX5_isNight, Cond.code yX5_isNight cX5_isNight 1 (some .boolean), Cond.methodLink RX5 45 yX5_clock, Cond.instanceMethod yX5_clock, Cond.selects RX5 yX5_clock yX5_clock, Cond.code yX5_clock cX5_clock 1 (some .int), Cond.methodLink RX5 78 yX5_isWet, Cond.instanceMethod yX5_isWet, Cond.selects RX5 yX5_isWet yX5_isWet, Cond.code yX5_isWet cX5_isWet 1 (some .boolean), Cond.methodLink RX5 81 yX5_weight, Cond.instanceMethod yX5_weight, Cond.selects RX5 yX5_weight yX5_weight, Cond.code yX5_weight cX5_weight 1 (some .int), Cond.methodLink RX5 72 yX5_riders, Cond.instanceMethod yX5_riders, Cond.selects RX5 yX5_riders yX5_riders, Cond.code yX5_riders cX5_riders 3 (some .int), Cond.methodLink RX5 69 yX5_about, Cond.instanceMethod yX5_about, Cond.selects RX5 yX5_about yX5_about, Cond.code yX5_about cX5_about 3 (some .int)]
def wsX5_quick_r4 : List Cond := [Cond.methodLink RX5 119 yX5_held, Cond.static yX5_held, Cond.code yX5_held cX5_held 3 (some .int), Cond.methodLink RX5 123 yX5_holds, Cond.instanceMethod yX5_holds, Cond.selects RX5 yX5_holds yX5_holds, Cond.code yX5_holds cX5_holds 2 none, Cond.methodLink RX5 110 yX5_lets, Cond.instanceMethod yX5_lets, Cond.selects RX5 yX5_lets yX5_lets, Cond.code yX5_lets cX5_lets 4 none, Cond.methodLink RX5 100 yX5_doesSpeak, Cond.instanceMethod yX5_doesSpeak, Cond.selects RX5 yX5_doesSpeak yX5_doesSpeak, Cond.code yX5_doesSpeak cX5_doesSpeak 4 (some .boolean), Cond.methodLink RX5 103 yX5_lessBy, Cond.instanceMethod yX5_lessBy, Cond.selects RX5 yX5_lessBy yX5_lessBy, Cond.code yX5_lessBy cX5_lessBy 2 (some .int), Cond.methodLink RX5 87 yX5_put, Cond.instanceMethod yX5_put, Cond.selects RX5 yX5_put yX5_put, Cond.code yX5_put cX5_put 4 none, Cond.methodLink RX5 142 yX5_putsBack]
def wsX5_quick_r5 : List Cond := [Cond.instanceMethod yX5_putsBack, Cond.selects RX5 yX5_putsBack yX5_putsBack, Cond.code yX5_putsBack cX5_putsBack 1 none]
def wsX5_quick : List Cond := .code yX5_quick cX5_quick 3 (some .int) :: ((wsX5_quick_r1 ++ (wsX5_quick_r2 ++ (wsX5_quick_r3 ++ (wsX5_quick_r4 ++ wsX5_quick_r5)))) ++ wsX50)
def wsX5_stands_r1 : List Cond := [Cond.fieldLink RX5 9 "UnsaidRoundModel" "m" "[I", Cond.constant RX5 36 (-1000000004), Cond.methodLink RX5 139 yX5_thinks, Cond.instanceMethod yX5_thinks, Cond.selects RX5 yX5_thinks yX5_thinks, Cond.initialized RX5, Cond.code yX5_thinks cX5_thinks 1 none, Cond.fieldLink RX5 16 "UnsaidRoundModel" "was" "[I", Cond.methodLink RX5 135 yX5_copyAll, Cond.static yX5_copyAll, Cond.code yX5_copyAll cX5_copyAll 3 none, Cond.methodLink RX5 127 yX5_goes, Cond.instanceMethod yX5_goes, Cond.selects RX5 yX5_goes yX5_goes, Cond.code yX5_goes cX5_goes 6 none, Cond.constant RX5 122 (999999), Cond.methodLink RX5 84 yX5_push, Cond.instanceMethod yX5_push, Cond.selects RX5 yX5_push yX5_push, Cond.code yX5_push cX5_push 3 (some .int), Cond.methodLink RX5 49 yX5_it, Cond.instanceMethod yX5_it, Cond.selects RX5 yX5_it yX5_it, Cond.code yX5_it cX5_it 3 (some .int)]
def wsX5_stands_r2 : List Cond := [Cond.methodLink RX5 75 yX5_keepsBack, Cond.instanceMethod yX5_keepsBack, Cond.selects RX5 yX5_keepsBack yX5_keepsBack, Cond.code yX5_keepsBack cX5_keepsBack 6 (some .int), Cond.methodLink RX5 59 yX5_others, Cond.instanceMethod yX5_others, Cond.selects RX5 yX5_others yX5_others, Cond.code yX5_others cX5_others 2 (some .int), Cond.methodLink RX5 53 yX5_outOnes, Cond.instanceMethod yX5_outOnes, Cond.selects RX5 yX5_outOnes yX5_outOnes, Cond.code yX5_outOnes cX5_outOnes 3 (some .int), Cond.methodLink RX5 56 yX5_bits, Cond.static yX5_bits, Cond.code yX5_bits cX5_bits 3 (some .int), Cond.methodLink RX5 62 yX5_isNight, Cond.instanceMethod yX5_isNight, Cond.selects RX5 yX5_isNight yX5_isNight, Cond.code yX5_isNight cX5_isNight 1 (some .boolean), Cond.methodLink RX5 45 yX5_clock, Cond.instanceMethod yX5_clock, Cond.selects RX5 yX5_clock yX5_clock, Cond.code yX5_clock cX5_clock 1 (some .int), Cond.methodLink RX5 78 yX5_isWet]
def wsX5_stands_r3 : List Cond := [Cond.instanceMethod yX5_isWet, Cond.selects RX5 yX5_isWet yX5_isWet, Cond.code yX5_isWet cX5_isWet 1 (some .boolean), Cond.methodLink RX5 81 yX5_weight, Cond.instanceMethod yX5_weight, Cond.selects RX5 yX5_weight yX5_weight, Cond.code yX5_weight cX5_weight 1 (some .int), Cond.methodLink RX5 72 yX5_riders, Cond.instanceMethod yX5_riders, Cond.selects RX5 yX5_riders yX5_riders, Cond.code yX5_riders cX5_riders 3 (some .int), Cond.methodLink RX5 69 yX5_about, Cond.instanceMethod yX5_about, Cond.selects RX5 yX5_about yX5_about, Cond.code yX5_about cX5_about 3 (some .int), Cond.methodLink RX5 119 yX5_held, Cond.static yX5_held, Cond.code yX5_held cX5_held 3 (some .int), Cond.methodLink RX5 123 yX5_holds, Cond.instanceMethod yX5_holds, Cond.selects RX5 yX5_holds yX5_holds, Cond.code yX5_holds cX5_holds 2 none, Cond.methodLink RX5 110 yX5_lets, Cond.instanceMethod yX5_lets]
def wsX5_stands_r4 : List Cond := [Cond.selects RX5 yX5_lets yX5_lets, Cond.code yX5_lets cX5_lets 4 none, Cond.methodLink RX5 100 yX5_doesSpeak, Cond.instanceMethod yX5_doesSpeak, Cond.selects RX5 yX5_doesSpeak yX5_doesSpeak, Cond.code yX5_doesSpeak cX5_doesSpeak 4 (some .boolean), Cond.methodLink RX5 103 yX5_lessBy, Cond.instanceMethod yX5_lessBy, Cond.selects RX5 yX5_lessBy yX5_lessBy, Cond.code yX5_lessBy cX5_lessBy 2 (some .int), Cond.methodLink RX5 87 yX5_put, Cond.instanceMethod yX5_put, Cond.selects RX5 yX5_put yX5_put, Cond.code yX5_put cX5_put 4 none, Cond.methodLink RX5 142 yX5_putsBack, Cond.instanceMethod yX5_putsBack, Cond.selects RX5 yX5_putsBack yX5_putsBack, Cond.code yX5_putsBack cX5_putsBack 1 none, Cond.methodLink RX5 37 yX5_finds, Cond.instanceMethod yX5_finds, Cond.selects RX5 yX5_finds yX5_finds, Cond.code yX5_finds cX5_finds 2 (some .int), Cond.fieldLink RX5 19 "UnsaidRoundModel" "found" "[I", Cond.constant RX5 35 (-1000000001)]
def wsX5_stands : List Cond := .code yX5_stands cX5_stands 2 (some .int) :: ((wsX5_stands_r1 ++ (wsX5_stands_r2 ++ (wsX5_stands_r3 ++ wsX5_stands_r4))) ++ wsX50)
def wsX5_flung_r1 : List Cond := [Cond.constant RX5 35 (-1000000001), Cond.constant RX5 36 (-1000000004), Cond.methodLink RX5 116 yX5_isChild, Cond.instanceMethod yX5_isChild, Cond.selects RX5 yX5_isChild yX5_isChild, Cond.initialized RX5, Cond.code yX5_isChild cX5_isChild 2 (some .boolean), Cond.fieldLink RX5 9 "UnsaidRoundModel" "m" "[I", Cond.methodLink RX5 41 yX5_in, Cond.static yX5_in, Cond.code yX5_in cX5_in 4 (some .boolean), Cond.methodLink RX5 37 yX5_finds, Cond.instanceMethod yX5_finds, Cond.selects RX5 yX5_finds yX5_finds, Cond.code yX5_finds cX5_finds 2 (some .int), Cond.fieldLink RX5 19 "UnsaidRoundModel" "found" "[I", Cond.methodLink RX5 139 yX5_thinks, Cond.instanceMethod yX5_thinks, Cond.selects RX5 yX5_thinks yX5_thinks, Cond.code yX5_thinks cX5_thinks 1 none, Cond.fieldLink RX5 16 "UnsaidRoundModel" "was" "[I", Cond.methodLink RX5 135 yX5_copyAll, Cond.static yX5_copyAll, Cond.code yX5_copyAll cX5_copyAll 3 none]
def wsX5_flung_r2 : List Cond := [Cond.methodLink RX5 69 yX5_about, Cond.instanceMethod yX5_about, Cond.selects RX5 yX5_about yX5_about, Cond.code yX5_about cX5_about 3 (some .int), Cond.methodLink RX5 127 yX5_goes, Cond.instanceMethod yX5_goes, Cond.selects RX5 yX5_goes yX5_goes, Cond.code yX5_goes cX5_goes 6 none, Cond.constant RX5 122 (999999), Cond.methodLink RX5 84 yX5_push, Cond.instanceMethod yX5_push, Cond.selects RX5 yX5_push yX5_push, Cond.code yX5_push cX5_push 3 (some .int), Cond.methodLink RX5 49 yX5_it, Cond.instanceMethod yX5_it, Cond.selects RX5 yX5_it yX5_it, Cond.code yX5_it cX5_it 3 (some .int), Cond.methodLink RX5 75 yX5_keepsBack, Cond.instanceMethod yX5_keepsBack, Cond.selects RX5 yX5_keepsBack yX5_keepsBack, Cond.code yX5_keepsBack cX5_keepsBack 6 (some .int), Cond.methodLink RX5 59 yX5_others, Cond.instanceMethod yX5_others, Cond.selects RX5 yX5_others yX5_others]
def wsX5_flung_r3 : List Cond := [Cond.code yX5_others cX5_others 2 (some .int), Cond.methodLink RX5 53 yX5_outOnes, Cond.instanceMethod yX5_outOnes, Cond.selects RX5 yX5_outOnes yX5_outOnes, Cond.code yX5_outOnes cX5_outOnes 3 (some .int), Cond.methodLink RX5 56 yX5_bits, Cond.static yX5_bits, Cond.code yX5_bits cX5_bits 3 (some .int), Cond.methodLink RX5 62 yX5_isNight, Cond.instanceMethod yX5_isNight, Cond.selects RX5 yX5_isNight yX5_isNight, Cond.code yX5_isNight cX5_isNight 1 (some .boolean), Cond.methodLink RX5 45 yX5_clock, Cond.instanceMethod yX5_clock, Cond.selects RX5 yX5_clock yX5_clock, Cond.code yX5_clock cX5_clock 1 (some .int), Cond.methodLink RX5 78 yX5_isWet, Cond.instanceMethod yX5_isWet, Cond.selects RX5 yX5_isWet yX5_isWet, Cond.code yX5_isWet cX5_isWet 1 (some .boolean), Cond.methodLink RX5 81 yX5_weight, Cond.instanceMethod yX5_weight, Cond.selects RX5 yX5_weight yX5_weight, Cond.code yX5_weight cX5_weight 1 (some .int)]
def wsX5_flung_r4 : List Cond := [Cond.methodLink RX5 72 yX5_riders, Cond.instanceMethod yX5_riders, Cond.selects RX5 yX5_riders yX5_riders, Cond.code yX5_riders cX5_riders 3 (some .int), Cond.methodLink RX5 119 yX5_held, Cond.static yX5_held, Cond.code yX5_held cX5_held 3 (some .int), Cond.methodLink RX5 123 yX5_holds, Cond.instanceMethod yX5_holds, Cond.selects RX5 yX5_holds yX5_holds, Cond.code yX5_holds cX5_holds 2 none, Cond.methodLink RX5 110 yX5_lets, Cond.instanceMethod yX5_lets, Cond.selects RX5 yX5_lets yX5_lets, Cond.code yX5_lets cX5_lets 4 none, Cond.methodLink RX5 100 yX5_doesSpeak, Cond.instanceMethod yX5_doesSpeak, Cond.selects RX5 yX5_doesSpeak yX5_doesSpeak, Cond.code yX5_doesSpeak cX5_doesSpeak 4 (some .boolean), Cond.methodLink RX5 103 yX5_lessBy, Cond.instanceMethod yX5_lessBy, Cond.selects RX5 yX5_lessBy yX5_lessBy, Cond.code yX5_lessBy cX5_lessBy 2 (some .int), Cond.methodLink RX5 87 yX5_put]
def wsX5_flung_r5 : List Cond := [Cond.instanceMethod yX5_put, Cond.selects RX5 yX5_put yX5_put, Cond.code yX5_put cX5_put 4 none, Cond.methodLink RX5 142 yX5_putsBack, Cond.instanceMethod yX5_putsBack, Cond.selects RX5 yX5_putsBack yX5_putsBack, Cond.code yX5_putsBack cX5_putsBack 1 none]
def wsX5_flung : List Cond := .code yX5_flung cX5_flung 4 (some .int) :: ((wsX5_flung_r1 ++ (wsX5_flung_r2 ++ (wsX5_flung_r3 ++ (wsX5_flung_r4 ++ wsX5_flung_r5)))) ++ wsX50)
def wsX5_turnedOn_r1 : List Cond := [Cond.fieldLink RX5 9 "UnsaidRoundModel" "m" "[I", Cond.methodLink RX5 132 yX5_goesFor, Cond.instanceMethod yX5_goesFor, Cond.selects RX5 yX5_goesFor yX5_goesFor, Cond.initialized RX5, Cond.code yX5_goesFor cX5_goesFor 3 none, Cond.methodLink RX5 127 yX5_goes, Cond.instanceMethod yX5_goes, Cond.selects RX5 yX5_goes yX5_goes, Cond.code yX5_goes cX5_goes 6 none, Cond.constant RX5 122 (999999), Cond.methodLink RX5 84 yX5_push, Cond.instanceMethod yX5_push, Cond.selects RX5 yX5_push yX5_push, Cond.code yX5_push cX5_push 3 (some .int), Cond.methodLink RX5 49 yX5_it, Cond.instanceMethod yX5_it, Cond.selects RX5 yX5_it yX5_it, Cond.code yX5_it cX5_it 3 (some .int), Cond.methodLink RX5 75 yX5_keepsBack, Cond.instanceMethod yX5_keepsBack, Cond.selects RX5 yX5_keepsBack yX5_keepsBack, Cond.code yX5_keepsBack cX5_keepsBack 6 (some .int), Cond.methodLink RX5 59 yX5_others]
def wsX5_turnedOn_r2 : List Cond := [Cond.instanceMethod yX5_others, Cond.selects RX5 yX5_others yX5_others, Cond.code yX5_others cX5_others 2 (some .int), Cond.methodLink RX5 53 yX5_outOnes, Cond.instanceMethod yX5_outOnes, Cond.selects RX5 yX5_outOnes yX5_outOnes, Cond.code yX5_outOnes cX5_outOnes 3 (some .int), Cond.methodLink RX5 56 yX5_bits, Cond.static yX5_bits, Cond.code yX5_bits cX5_bits 3 (some .int), Cond.methodLink RX5 62 yX5_isNight, Cond.instanceMethod yX5_isNight, Cond.selects RX5 yX5_isNight yX5_isNight, Cond.code yX5_isNight cX5_isNight 1 (some .boolean), Cond.methodLink RX5 45 yX5_clock, Cond.instanceMethod yX5_clock, Cond.selects RX5 yX5_clock yX5_clock, Cond.code yX5_clock cX5_clock 1 (some .int), Cond.methodLink RX5 78 yX5_isWet, Cond.instanceMethod yX5_isWet, Cond.selects RX5 yX5_isWet yX5_isWet, Cond.code yX5_isWet cX5_isWet 1 (some .boolean), Cond.methodLink RX5 81 yX5_weight, Cond.instanceMethod yX5_weight]
def wsX5_turnedOn_r3 : List Cond := [Cond.selects RX5 yX5_weight yX5_weight, Cond.code yX5_weight cX5_weight 1 (some .int), Cond.methodLink RX5 72 yX5_riders, Cond.instanceMethod yX5_riders, Cond.selects RX5 yX5_riders yX5_riders, Cond.code yX5_riders cX5_riders 3 (some .int), Cond.methodLink RX5 69 yX5_about, Cond.instanceMethod yX5_about, Cond.selects RX5 yX5_about yX5_about, Cond.code yX5_about cX5_about 3 (some .int), Cond.methodLink RX5 119 yX5_held, Cond.static yX5_held, Cond.code yX5_held cX5_held 3 (some .int), Cond.methodLink RX5 123 yX5_holds, Cond.instanceMethod yX5_holds, Cond.selects RX5 yX5_holds yX5_holds, Cond.code yX5_holds cX5_holds 2 none, Cond.methodLink RX5 110 yX5_lets, Cond.instanceMethod yX5_lets, Cond.selects RX5 yX5_lets yX5_lets, Cond.code yX5_lets cX5_lets 4 none, Cond.methodLink RX5 100 yX5_doesSpeak, Cond.instanceMethod yX5_doesSpeak, Cond.selects RX5 yX5_doesSpeak yX5_doesSpeak]
def wsX5_turnedOn_r4 : List Cond := [Cond.code yX5_doesSpeak cX5_doesSpeak 4 (some .boolean), Cond.methodLink RX5 103 yX5_lessBy, Cond.instanceMethod yX5_lessBy, Cond.selects RX5 yX5_lessBy yX5_lessBy, Cond.code yX5_lessBy cX5_lessBy 2 (some .int), Cond.methodLink RX5 87 yX5_put, Cond.instanceMethod yX5_put, Cond.selects RX5 yX5_put yX5_put, Cond.code yX5_put cX5_put 4 none, Cond.methodLink RX5 142 yX5_putsBack, Cond.instanceMethod yX5_putsBack, Cond.selects RX5 yX5_putsBack yX5_putsBack, Cond.code yX5_putsBack cX5_putsBack 1 none, Cond.fieldLink RX5 16 "UnsaidRoundModel" "was" "[I", Cond.methodLink RX5 135 yX5_copyAll, Cond.static yX5_copyAll, Cond.code yX5_copyAll cX5_copyAll 3 none]
def wsX5_turnedOn : List Cond := .code yX5_turnedOn cX5_turnedOn 3 (some .int) :: ((wsX5_turnedOn_r1 ++ (wsX5_turnedOn_r2 ++ (wsX5_turnedOn_r3 ++ wsX5_turnedOn_r4))) ++ wsX50)
def wsX5_send_r1 : List Cond := [Cond.constant RX5 35 (-1000000001), Cond.fieldLink RX5 9 "UnsaidRoundModel" "m" "[I", Cond.methodLink RX5 41 yX5_in, Cond.static yX5_in, Cond.initialized RX5, Cond.code yX5_in cX5_in 4 (some .boolean), Cond.methodLink RX5 37 yX5_finds, Cond.instanceMethod yX5_finds, Cond.selects RX5 yX5_finds yX5_finds, Cond.code yX5_finds cX5_finds 2 (some .int), Cond.fieldLink RX5 19 "UnsaidRoundModel" "found" "[I", Cond.methodLink RX5 139 yX5_thinks, Cond.instanceMethod yX5_thinks, Cond.selects RX5 yX5_thinks yX5_thinks, Cond.code yX5_thinks cX5_thinks 1 none, Cond.fieldLink RX5 16 "UnsaidRoundModel" "was" "[I", Cond.methodLink RX5 135 yX5_copyAll, Cond.static yX5_copyAll, Cond.code yX5_copyAll cX5_copyAll 3 none, Cond.methodLink RX5 49 yX5_it, Cond.instanceMethod yX5_it, Cond.selects RX5 yX5_it yX5_it, Cond.code yX5_it cX5_it 3 (some .int), Cond.methodLink RX5 106 yX5_moves]
def wsX5_send_r2 : List Cond := [Cond.instanceMethod yX5_moves, Cond.selects RX5 yX5_moves yX5_moves, Cond.code yX5_moves cX5_moves 3 (some .int), Cond.methodLink RX5 87 yX5_put, Cond.instanceMethod yX5_put, Cond.selects RX5 yX5_put yX5_put, Cond.code yX5_put cX5_put 4 none, Cond.methodLink RX5 66 yX5_becomes, Cond.instanceMethod yX5_becomes, Cond.selects RX5 yX5_becomes yX5_becomes, Cond.code yX5_becomes cX5_becomes 4 (some .int), Cond.methodLink RX5 145 yX5_turnedOn, Cond.instanceMethod yX5_turnedOn, Cond.selects RX5 yX5_turnedOn yX5_turnedOn, Cond.code yX5_turnedOn cX5_turnedOn 3 (some .int), Cond.methodLink RX5 132 yX5_goesFor, Cond.instanceMethod yX5_goesFor, Cond.selects RX5 yX5_goesFor yX5_goesFor, Cond.code yX5_goesFor cX5_goesFor 3 none, Cond.methodLink RX5 127 yX5_goes, Cond.instanceMethod yX5_goes, Cond.selects RX5 yX5_goes yX5_goes, Cond.code yX5_goes cX5_goes 6 none, Cond.constant RX5 122 (999999)]
def wsX5_send_r3 : List Cond := [Cond.methodLink RX5 84 yX5_push, Cond.instanceMethod yX5_push, Cond.selects RX5 yX5_push yX5_push, Cond.code yX5_push cX5_push 3 (some .int), Cond.methodLink RX5 75 yX5_keepsBack, Cond.instanceMethod yX5_keepsBack, Cond.selects RX5 yX5_keepsBack yX5_keepsBack, Cond.code yX5_keepsBack cX5_keepsBack 6 (some .int), Cond.methodLink RX5 59 yX5_others, Cond.instanceMethod yX5_others, Cond.selects RX5 yX5_others yX5_others, Cond.code yX5_others cX5_others 2 (some .int), Cond.methodLink RX5 53 yX5_outOnes, Cond.instanceMethod yX5_outOnes, Cond.selects RX5 yX5_outOnes yX5_outOnes, Cond.code yX5_outOnes cX5_outOnes 3 (some .int), Cond.methodLink RX5 56 yX5_bits, Cond.static yX5_bits, Cond.code yX5_bits cX5_bits 3 (some .int), Cond.methodLink RX5 62 yX5_isNight, Cond.instanceMethod yX5_isNight, Cond.selects RX5 yX5_isNight yX5_isNight, Cond.code yX5_isNight cX5_isNight 1 (some .boolean), Cond.methodLink RX5 45 yX5_clock]
def wsX5_send_r4 : List Cond := [Cond.instanceMethod yX5_clock, Cond.selects RX5 yX5_clock yX5_clock, Cond.code yX5_clock cX5_clock 1 (some .int), Cond.methodLink RX5 78 yX5_isWet, Cond.instanceMethod yX5_isWet, Cond.selects RX5 yX5_isWet yX5_isWet, Cond.code yX5_isWet cX5_isWet 1 (some .boolean), Cond.methodLink RX5 81 yX5_weight, Cond.instanceMethod yX5_weight, Cond.selects RX5 yX5_weight yX5_weight, Cond.code yX5_weight cX5_weight 1 (some .int), Cond.methodLink RX5 72 yX5_riders, Cond.instanceMethod yX5_riders, Cond.selects RX5 yX5_riders yX5_riders, Cond.code yX5_riders cX5_riders 3 (some .int), Cond.methodLink RX5 69 yX5_about, Cond.instanceMethod yX5_about, Cond.selects RX5 yX5_about yX5_about, Cond.code yX5_about cX5_about 3 (some .int), Cond.methodLink RX5 119 yX5_held, Cond.static yX5_held, Cond.code yX5_held cX5_held 3 (some .int), Cond.methodLink RX5 123 yX5_holds, Cond.instanceMethod yX5_holds]
def wsX5_send_r5 : List Cond := [Cond.selects RX5 yX5_holds yX5_holds, Cond.code yX5_holds cX5_holds 2 none, Cond.methodLink RX5 110 yX5_lets, Cond.instanceMethod yX5_lets, Cond.selects RX5 yX5_lets yX5_lets, Cond.code yX5_lets cX5_lets 4 none, Cond.methodLink RX5 100 yX5_doesSpeak, Cond.instanceMethod yX5_doesSpeak, Cond.selects RX5 yX5_doesSpeak yX5_doesSpeak, Cond.code yX5_doesSpeak cX5_doesSpeak 4 (some .boolean), Cond.methodLink RX5 103 yX5_lessBy, Cond.instanceMethod yX5_lessBy, Cond.selects RX5 yX5_lessBy yX5_lessBy, Cond.code yX5_lessBy cX5_lessBy 2 (some .int), Cond.methodLink RX5 142 yX5_putsBack, Cond.instanceMethod yX5_putsBack, Cond.selects RX5 yX5_putsBack yX5_putsBack, Cond.code yX5_putsBack cX5_putsBack 1 none, Cond.methodLink RX5 148 yX5_orNone, Cond.instanceMethod yX5_orNone, Cond.selects RX5 yX5_orNone yX5_orNone, Cond.code yX5_orNone cX5_orNone 2 (some .int), Cond.constant RX5 36 (-1000000004)]
def wsX5_send : List Cond := .code yX5_send cX5_send 8 (some .int) :: ((wsX5_send_r1 ++ (wsX5_send_r2 ++ (wsX5_send_r3 ++ (wsX5_send_r4 ++ wsX5_send_r5)))) ++ wsX50)
def wsX5_kind_r1 : List Cond := [Cond.constant RX5 35 (-1000000001), Cond.methodLink RX5 96 yX5_isMother, Cond.instanceMethod yX5_isMother, Cond.selects RX5 yX5_isMother yX5_isMother, Cond.initialized RX5, Cond.code yX5_isMother cX5_isMother 2 (some .boolean), Cond.fieldLink RX5 9 "UnsaidRoundModel" "m" "[I", Cond.methodLink RX5 41 yX5_in, Cond.static yX5_in, Cond.code yX5_in cX5_in 4 (some .boolean), Cond.methodLink RX5 37 yX5_finds, Cond.instanceMethod yX5_finds, Cond.selects RX5 yX5_finds yX5_finds, Cond.code yX5_finds cX5_finds 2 (some .int), Cond.fieldLink RX5 19 "UnsaidRoundModel" "found" "[I", Cond.methodLink RX5 139 yX5_thinks, Cond.instanceMethod yX5_thinks, Cond.selects RX5 yX5_thinks yX5_thinks, Cond.code yX5_thinks cX5_thinks 1 none, Cond.fieldLink RX5 16 "UnsaidRoundModel" "was" "[I", Cond.methodLink RX5 135 yX5_copyAll, Cond.static yX5_copyAll, Cond.code yX5_copyAll cX5_copyAll 3 none, Cond.methodLink RX5 87 yX5_put]
def wsX5_kind_r2 : List Cond := [Cond.instanceMethod yX5_put, Cond.selects RX5 yX5_put yX5_put, Cond.code yX5_put cX5_put 4 none, Cond.methodLink RX5 145 yX5_turnedOn, Cond.instanceMethod yX5_turnedOn, Cond.selects RX5 yX5_turnedOn yX5_turnedOn, Cond.code yX5_turnedOn cX5_turnedOn 3 (some .int), Cond.methodLink RX5 132 yX5_goesFor, Cond.instanceMethod yX5_goesFor, Cond.selects RX5 yX5_goesFor yX5_goesFor, Cond.code yX5_goesFor cX5_goesFor 3 none, Cond.methodLink RX5 127 yX5_goes, Cond.instanceMethod yX5_goes, Cond.selects RX5 yX5_goes yX5_goes, Cond.code yX5_goes cX5_goes 6 none, Cond.constant RX5 122 (999999), Cond.methodLink RX5 84 yX5_push, Cond.instanceMethod yX5_push, Cond.selects RX5 yX5_push yX5_push, Cond.code yX5_push cX5_push 3 (some .int), Cond.methodLink RX5 49 yX5_it, Cond.instanceMethod yX5_it, Cond.selects RX5 yX5_it yX5_it, Cond.code yX5_it cX5_it 3 (some .int)]
def wsX5_kind_r3 : List Cond := [Cond.methodLink RX5 75 yX5_keepsBack, Cond.instanceMethod yX5_keepsBack, Cond.selects RX5 yX5_keepsBack yX5_keepsBack, Cond.code yX5_keepsBack cX5_keepsBack 6 (some .int), Cond.methodLink RX5 59 yX5_others, Cond.instanceMethod yX5_others, Cond.selects RX5 yX5_others yX5_others, Cond.code yX5_others cX5_others 2 (some .int), Cond.methodLink RX5 53 yX5_outOnes, Cond.instanceMethod yX5_outOnes, Cond.selects RX5 yX5_outOnes yX5_outOnes, Cond.code yX5_outOnes cX5_outOnes 3 (some .int), Cond.methodLink RX5 56 yX5_bits, Cond.static yX5_bits, Cond.code yX5_bits cX5_bits 3 (some .int), Cond.methodLink RX5 62 yX5_isNight, Cond.instanceMethod yX5_isNight, Cond.selects RX5 yX5_isNight yX5_isNight, Cond.code yX5_isNight cX5_isNight 1 (some .boolean), Cond.methodLink RX5 45 yX5_clock, Cond.instanceMethod yX5_clock, Cond.selects RX5 yX5_clock yX5_clock, Cond.code yX5_clock cX5_clock 1 (some .int), Cond.methodLink RX5 78 yX5_isWet]
def wsX5_kind_r4 : List Cond := [Cond.instanceMethod yX5_isWet, Cond.selects RX5 yX5_isWet yX5_isWet, Cond.code yX5_isWet cX5_isWet 1 (some .boolean), Cond.methodLink RX5 81 yX5_weight, Cond.instanceMethod yX5_weight, Cond.selects RX5 yX5_weight yX5_weight, Cond.code yX5_weight cX5_weight 1 (some .int), Cond.methodLink RX5 72 yX5_riders, Cond.instanceMethod yX5_riders, Cond.selects RX5 yX5_riders yX5_riders, Cond.code yX5_riders cX5_riders 3 (some .int), Cond.methodLink RX5 69 yX5_about, Cond.instanceMethod yX5_about, Cond.selects RX5 yX5_about yX5_about, Cond.code yX5_about cX5_about 3 (some .int), Cond.methodLink RX5 119 yX5_held, Cond.static yX5_held, Cond.code yX5_held cX5_held 3 (some .int), Cond.methodLink RX5 123 yX5_holds, Cond.instanceMethod yX5_holds, Cond.selects RX5 yX5_holds yX5_holds, Cond.code yX5_holds cX5_holds 2 none, Cond.methodLink RX5 110 yX5_lets, Cond.instanceMethod yX5_lets]
def wsX5_kind_r5 : List Cond := [Cond.selects RX5 yX5_lets yX5_lets, Cond.code yX5_lets cX5_lets 4 none, Cond.methodLink RX5 100 yX5_doesSpeak, Cond.instanceMethod yX5_doesSpeak, Cond.selects RX5 yX5_doesSpeak yX5_doesSpeak, Cond.code yX5_doesSpeak cX5_doesSpeak 4 (some .boolean), Cond.methodLink RX5 103 yX5_lessBy, Cond.instanceMethod yX5_lessBy, Cond.selects RX5 yX5_lessBy yX5_lessBy, Cond.code yX5_lessBy cX5_lessBy 2 (some .int), Cond.methodLink RX5 142 yX5_putsBack, Cond.instanceMethod yX5_putsBack, Cond.selects RX5 yX5_putsBack yX5_putsBack, Cond.code yX5_putsBack cX5_putsBack 1 none]
def wsX5_kind : List Cond := .code yX5_kind cX5_kind 7 (some .int) :: ((wsX5_kind_r1 ++ (wsX5_kind_r2 ++ (wsX5_kind_r3 ++ (wsX5_kind_r4 ++ wsX5_kind_r5)))) ++ wsX50)
def wsX5_firm_r1 : List Cond := [Cond.constant RX5 35 (-1000000001), Cond.methodLink RX5 116 yX5_isChild, Cond.instanceMethod yX5_isChild, Cond.selects RX5 yX5_isChild yX5_isChild, Cond.initialized RX5, Cond.code yX5_isChild cX5_isChild 2 (some .boolean), Cond.fieldLink RX5 9 "UnsaidRoundModel" "m" "[I", Cond.methodLink RX5 41 yX5_in, Cond.static yX5_in, Cond.code yX5_in cX5_in 4 (some .boolean), Cond.methodLink RX5 37 yX5_finds, Cond.instanceMethod yX5_finds, Cond.selects RX5 yX5_finds yX5_finds, Cond.code yX5_finds cX5_finds 2 (some .int), Cond.fieldLink RX5 19 "UnsaidRoundModel" "found" "[I", Cond.methodLink RX5 139 yX5_thinks, Cond.instanceMethod yX5_thinks, Cond.selects RX5 yX5_thinks yX5_thinks, Cond.code yX5_thinks cX5_thinks 1 none, Cond.fieldLink RX5 16 "UnsaidRoundModel" "was" "[I", Cond.methodLink RX5 135 yX5_copyAll, Cond.static yX5_copyAll, Cond.code yX5_copyAll cX5_copyAll 3 none, Cond.methodLink RX5 69 yX5_about]
def wsX5_firm_r2 : List Cond := [Cond.instanceMethod yX5_about, Cond.selects RX5 yX5_about yX5_about, Cond.code yX5_about cX5_about 3 (some .int), Cond.methodLink RX5 110 yX5_lets, Cond.instanceMethod yX5_lets, Cond.selects RX5 yX5_lets yX5_lets, Cond.code yX5_lets cX5_lets 4 none, Cond.methodLink RX5 132 yX5_goesFor, Cond.instanceMethod yX5_goesFor, Cond.selects RX5 yX5_goesFor yX5_goesFor, Cond.code yX5_goesFor cX5_goesFor 3 none, Cond.methodLink RX5 127 yX5_goes, Cond.instanceMethod yX5_goes, Cond.selects RX5 yX5_goes yX5_goes, Cond.code yX5_goes cX5_goes 6 none, Cond.constant RX5 122 (999999), Cond.methodLink RX5 84 yX5_push, Cond.instanceMethod yX5_push, Cond.selects RX5 yX5_push yX5_push, Cond.code yX5_push cX5_push 3 (some .int), Cond.methodLink RX5 49 yX5_it, Cond.instanceMethod yX5_it, Cond.selects RX5 yX5_it yX5_it, Cond.code yX5_it cX5_it 3 (some .int)]
def wsX5_firm_r3 : List Cond := [Cond.methodLink RX5 75 yX5_keepsBack, Cond.instanceMethod yX5_keepsBack, Cond.selects RX5 yX5_keepsBack yX5_keepsBack, Cond.code yX5_keepsBack cX5_keepsBack 6 (some .int), Cond.methodLink RX5 59 yX5_others, Cond.instanceMethod yX5_others, Cond.selects RX5 yX5_others yX5_others, Cond.code yX5_others cX5_others 2 (some .int), Cond.methodLink RX5 53 yX5_outOnes, Cond.instanceMethod yX5_outOnes, Cond.selects RX5 yX5_outOnes yX5_outOnes, Cond.code yX5_outOnes cX5_outOnes 3 (some .int), Cond.methodLink RX5 56 yX5_bits, Cond.static yX5_bits, Cond.code yX5_bits cX5_bits 3 (some .int), Cond.methodLink RX5 62 yX5_isNight, Cond.instanceMethod yX5_isNight, Cond.selects RX5 yX5_isNight yX5_isNight, Cond.code yX5_isNight cX5_isNight 1 (some .boolean), Cond.methodLink RX5 45 yX5_clock, Cond.instanceMethod yX5_clock, Cond.selects RX5 yX5_clock yX5_clock, Cond.code yX5_clock cX5_clock 1 (some .int), Cond.methodLink RX5 78 yX5_isWet]
def wsX5_firm_r4 : List Cond := [Cond.instanceMethod yX5_isWet, Cond.selects RX5 yX5_isWet yX5_isWet, Cond.code yX5_isWet cX5_isWet 1 (some .boolean), Cond.methodLink RX5 81 yX5_weight, Cond.instanceMethod yX5_weight, Cond.selects RX5 yX5_weight yX5_weight, Cond.code yX5_weight cX5_weight 1 (some .int), Cond.methodLink RX5 72 yX5_riders, Cond.instanceMethod yX5_riders, Cond.selects RX5 yX5_riders yX5_riders, Cond.code yX5_riders cX5_riders 3 (some .int), Cond.methodLink RX5 119 yX5_held, Cond.static yX5_held, Cond.code yX5_held cX5_held 3 (some .int), Cond.methodLink RX5 123 yX5_holds, Cond.instanceMethod yX5_holds, Cond.selects RX5 yX5_holds yX5_holds, Cond.code yX5_holds cX5_holds 2 none, Cond.methodLink RX5 100 yX5_doesSpeak, Cond.instanceMethod yX5_doesSpeak, Cond.selects RX5 yX5_doesSpeak yX5_doesSpeak, Cond.code yX5_doesSpeak cX5_doesSpeak 4 (some .boolean), Cond.methodLink RX5 103 yX5_lessBy, Cond.instanceMethod yX5_lessBy]
def wsX5_firm_r5 : List Cond := [Cond.selects RX5 yX5_lessBy yX5_lessBy, Cond.code yX5_lessBy cX5_lessBy 2 (some .int), Cond.methodLink RX5 87 yX5_put, Cond.instanceMethod yX5_put, Cond.selects RX5 yX5_put yX5_put, Cond.code yX5_put cX5_put 4 none, Cond.methodLink RX5 142 yX5_putsBack, Cond.instanceMethod yX5_putsBack, Cond.selects RX5 yX5_putsBack yX5_putsBack, Cond.code yX5_putsBack cX5_putsBack 1 none, Cond.methodLink RX5 148 yX5_orNone, Cond.instanceMethod yX5_orNone, Cond.selects RX5 yX5_orNone yX5_orNone, Cond.code yX5_orNone cX5_orNone 2 (some .int), Cond.constant RX5 36 (-1000000004)]
def wsX5_firm : List Cond := .code yX5_firm cX5_firm 6 (some .int) :: ((wsX5_firm_r1 ++ (wsX5_firm_r2 ++ (wsX5_firm_r3 ++ (wsX5_firm_r4 ++ wsX5_firm_r5)))) ++ wsX50)
def wsX5_allFlung : List Cond := .code yX5_allFlung cX5_allFlung 3 (some .int) :: ([.fieldLink RX5 9 "UnsaidRoundModel" "m" "[I", .methodLink RX5 69 yX5_about, .instanceMethod yX5_about, .selects RX5 yX5_about yX5_about, .initialized RX5, .code yX5_about cX5_about 3 (some .int)] ++ wsX50)
def wsX5_heavy_r1 : List Cond := [Cond.constant RX5 35 (-1000000001), Cond.fieldLink RX5 9 "UnsaidRoundModel" "m" "[I", Cond.methodLink RX5 41 yX5_in, Cond.static yX5_in, Cond.initialized RX5, Cond.code yX5_in cX5_in 4 (some .boolean), Cond.methodLink RX5 37 yX5_finds, Cond.instanceMethod yX5_finds, Cond.selects RX5 yX5_finds yX5_finds, Cond.code yX5_finds cX5_finds 2 (some .int), Cond.fieldLink RX5 19 "UnsaidRoundModel" "found" "[I", Cond.methodLink RX5 139 yX5_thinks, Cond.instanceMethod yX5_thinks, Cond.selects RX5 yX5_thinks yX5_thinks, Cond.code yX5_thinks cX5_thinks 1 none, Cond.fieldLink RX5 16 "UnsaidRoundModel" "was" "[I", Cond.methodLink RX5 135 yX5_copyAll, Cond.static yX5_copyAll, Cond.code yX5_copyAll cX5_copyAll 3 none, Cond.methodLink RX5 151 yX5_allFlung, Cond.instanceMethod yX5_allFlung, Cond.selects RX5 yX5_allFlung yX5_allFlung, Cond.code yX5_allFlung cX5_allFlung 3 (some .int), Cond.methodLink RX5 69 yX5_about]
def wsX5_heavy_r2 : List Cond := [Cond.instanceMethod yX5_about, Cond.selects RX5 yX5_about yX5_about, Cond.code yX5_about cX5_about 3 (some .int), Cond.methodLink RX5 132 yX5_goesFor, Cond.instanceMethod yX5_goesFor, Cond.selects RX5 yX5_goesFor yX5_goesFor, Cond.code yX5_goesFor cX5_goesFor 3 none, Cond.methodLink RX5 127 yX5_goes, Cond.instanceMethod yX5_goes, Cond.selects RX5 yX5_goes yX5_goes, Cond.code yX5_goes cX5_goes 6 none, Cond.constant RX5 122 (999999), Cond.methodLink RX5 84 yX5_push, Cond.instanceMethod yX5_push, Cond.selects RX5 yX5_push yX5_push, Cond.code yX5_push cX5_push 3 (some .int), Cond.methodLink RX5 49 yX5_it, Cond.instanceMethod yX5_it, Cond.selects RX5 yX5_it yX5_it, Cond.code yX5_it cX5_it 3 (some .int), Cond.methodLink RX5 75 yX5_keepsBack, Cond.instanceMethod yX5_keepsBack, Cond.selects RX5 yX5_keepsBack yX5_keepsBack, Cond.code yX5_keepsBack cX5_keepsBack 6 (some .int)]
def wsX5_heavy_r3 : List Cond := [Cond.methodLink RX5 59 yX5_others, Cond.instanceMethod yX5_others, Cond.selects RX5 yX5_others yX5_others, Cond.code yX5_others cX5_others 2 (some .int), Cond.methodLink RX5 53 yX5_outOnes, Cond.instanceMethod yX5_outOnes, Cond.selects RX5 yX5_outOnes yX5_outOnes, Cond.code yX5_outOnes cX5_outOnes 3 (some .int), Cond.methodLink RX5 56 yX5_bits, Cond.static yX5_bits, Cond.code yX5_bits cX5_bits 3 (some .int), Cond.methodLink RX5 62 yX5_isNight, Cond.instanceMethod yX5_isNight, Cond.selects RX5 yX5_isNight yX5_isNight, Cond.code yX5_isNight cX5_isNight 1 (some .boolean), Cond.methodLink RX5 45 yX5_clock, Cond.instanceMethod yX5_clock, Cond.selects RX5 yX5_clock yX5_clock, Cond.code yX5_clock cX5_clock 1 (some .int), Cond.methodLink RX5 78 yX5_isWet, Cond.instanceMethod yX5_isWet, Cond.selects RX5 yX5_isWet yX5_isWet, Cond.code yX5_isWet cX5_isWet 1 (some .boolean), Cond.methodLink RX5 81 yX5_weight]
def wsX5_heavy_r4 : List Cond := [Cond.instanceMethod yX5_weight, Cond.selects RX5 yX5_weight yX5_weight, Cond.code yX5_weight cX5_weight 1 (some .int), Cond.methodLink RX5 72 yX5_riders, Cond.instanceMethod yX5_riders, Cond.selects RX5 yX5_riders yX5_riders, Cond.code yX5_riders cX5_riders 3 (some .int), Cond.methodLink RX5 119 yX5_held, Cond.static yX5_held, Cond.code yX5_held cX5_held 3 (some .int), Cond.methodLink RX5 123 yX5_holds, Cond.instanceMethod yX5_holds, Cond.selects RX5 yX5_holds yX5_holds, Cond.code yX5_holds cX5_holds 2 none, Cond.methodLink RX5 110 yX5_lets, Cond.instanceMethod yX5_lets, Cond.selects RX5 yX5_lets yX5_lets, Cond.code yX5_lets cX5_lets 4 none, Cond.methodLink RX5 100 yX5_doesSpeak, Cond.instanceMethod yX5_doesSpeak, Cond.selects RX5 yX5_doesSpeak yX5_doesSpeak, Cond.code yX5_doesSpeak cX5_doesSpeak 4 (some .boolean), Cond.methodLink RX5 103 yX5_lessBy, Cond.instanceMethod yX5_lessBy]
def wsX5_heavy_r5 : List Cond := [Cond.selects RX5 yX5_lessBy yX5_lessBy, Cond.code yX5_lessBy cX5_lessBy 2 (some .int), Cond.methodLink RX5 87 yX5_put, Cond.instanceMethod yX5_put, Cond.selects RX5 yX5_put yX5_put, Cond.code yX5_put cX5_put 4 none, Cond.methodLink RX5 142 yX5_putsBack, Cond.instanceMethod yX5_putsBack, Cond.selects RX5 yX5_putsBack yX5_putsBack, Cond.code yX5_putsBack cX5_putsBack 1 none, Cond.methodLink RX5 148 yX5_orNone, Cond.instanceMethod yX5_orNone, Cond.selects RX5 yX5_orNone yX5_orNone, Cond.code yX5_orNone cX5_orNone 2 (some .int), Cond.constant RX5 36 (-1000000004)]
def wsX5_heavy : List Cond := .code yX5_heavy cX5_heavy 5 (some .int) :: ((wsX5_heavy_r1 ++ (wsX5_heavy_r2 ++ (wsX5_heavy_r3 ++ (wsX5_heavy_r4 ++ wsX5_heavy_r5)))) ++ wsX50)
def wsX5_pushWith_r1 : List Cond := [Cond.fieldLink RX5 9 "UnsaidRoundModel" "m" "[I", Cond.methodLink RX5 106 yX5_moves, Cond.instanceMethod yX5_moves, Cond.selects RX5 yX5_moves yX5_moves, Cond.initialized RX5, Cond.code yX5_moves cX5_moves 3 (some .int), Cond.methodLink RX5 87 yX5_put, Cond.instanceMethod yX5_put, Cond.selects RX5 yX5_put yX5_put, Cond.code yX5_put cX5_put 4 none, Cond.methodLink RX5 66 yX5_becomes, Cond.instanceMethod yX5_becomes, Cond.selects RX5 yX5_becomes yX5_becomes, Cond.code yX5_becomes cX5_becomes 4 (some .int), Cond.methodLink RX5 84 yX5_push, Cond.instanceMethod yX5_push, Cond.selects RX5 yX5_push yX5_push, Cond.code yX5_push cX5_push 3 (some .int), Cond.methodLink RX5 49 yX5_it, Cond.instanceMethod yX5_it, Cond.selects RX5 yX5_it yX5_it, Cond.code yX5_it cX5_it 3 (some .int), Cond.methodLink RX5 75 yX5_keepsBack, Cond.instanceMethod yX5_keepsBack]
def wsX5_pushWith_r2 : List Cond := [Cond.selects RX5 yX5_keepsBack yX5_keepsBack, Cond.code yX5_keepsBack cX5_keepsBack 6 (some .int), Cond.methodLink RX5 59 yX5_others, Cond.instanceMethod yX5_others, Cond.selects RX5 yX5_others yX5_others, Cond.code yX5_others cX5_others 2 (some .int), Cond.methodLink RX5 53 yX5_outOnes, Cond.instanceMethod yX5_outOnes, Cond.selects RX5 yX5_outOnes yX5_outOnes, Cond.code yX5_outOnes cX5_outOnes 3 (some .int), Cond.methodLink RX5 56 yX5_bits, Cond.static yX5_bits, Cond.code yX5_bits cX5_bits 3 (some .int), Cond.methodLink RX5 62 yX5_isNight, Cond.instanceMethod yX5_isNight, Cond.selects RX5 yX5_isNight yX5_isNight, Cond.code yX5_isNight cX5_isNight 1 (some .boolean), Cond.methodLink RX5 45 yX5_clock, Cond.instanceMethod yX5_clock, Cond.selects RX5 yX5_clock yX5_clock, Cond.code yX5_clock cX5_clock 1 (some .int), Cond.methodLink RX5 78 yX5_isWet, Cond.instanceMethod yX5_isWet, Cond.selects RX5 yX5_isWet yX5_isWet]
def wsX5_pushWith_r3 : List Cond := [Cond.code yX5_isWet cX5_isWet 1 (some .boolean), Cond.methodLink RX5 142 yX5_putsBack, Cond.instanceMethod yX5_putsBack, Cond.selects RX5 yX5_putsBack yX5_putsBack, Cond.code yX5_putsBack cX5_putsBack 1 none, Cond.fieldLink RX5 16 "UnsaidRoundModel" "was" "[I", Cond.methodLink RX5 135 yX5_copyAll, Cond.static yX5_copyAll, Cond.code yX5_copyAll cX5_copyAll 3 none]
def wsX5_pushWith : List Cond := .code yX5_pushWith cX5_pushWith 4 (some .int) :: ((wsX5_pushWith_r1 ++ (wsX5_pushWith_r2 ++ wsX5_pushWith_r3)) ++ wsX50)
def wsX5_fewest_r1 : List Cond := [Cond.constant RX5 35 (-1000000001), Cond.fieldLink RX5 9 "UnsaidRoundModel" "m" "[I", Cond.methodLink RX5 41 yX5_in, Cond.static yX5_in, Cond.initialized RX5, Cond.code yX5_in cX5_in 4 (some .boolean), Cond.methodLink RX5 37 yX5_finds, Cond.instanceMethod yX5_finds, Cond.selects RX5 yX5_finds yX5_finds, Cond.code yX5_finds cX5_finds 2 (some .int), Cond.fieldLink RX5 19 "UnsaidRoundModel" "found" "[I", Cond.methodLink RX5 139 yX5_thinks, Cond.instanceMethod yX5_thinks, Cond.selects RX5 yX5_thinks yX5_thinks, Cond.code yX5_thinks cX5_thinks 1 none, Cond.fieldLink RX5 16 "UnsaidRoundModel" "was" "[I", Cond.methodLink RX5 135 yX5_copyAll, Cond.static yX5_copyAll, Cond.code yX5_copyAll cX5_copyAll 3 none, Cond.methodLink RX5 53 yX5_outOnes, Cond.instanceMethod yX5_outOnes, Cond.selects RX5 yX5_outOnes yX5_outOnes, Cond.code yX5_outOnes cX5_outOnes 3 (some .int), Cond.methodLink RX5 49 yX5_it]
def wsX5_fewest_r2 : List Cond := [Cond.instanceMethod yX5_it, Cond.selects RX5 yX5_it yX5_it, Cond.code yX5_it cX5_it 3 (some .int), Cond.methodLink RX5 56 yX5_bits, Cond.static yX5_bits, Cond.code yX5_bits cX5_bits 3 (some .int), Cond.methodLink RX5 154 yX5_pushWith, Cond.instanceMethod yX5_pushWith, Cond.selects RX5 yX5_pushWith yX5_pushWith, Cond.code yX5_pushWith cX5_pushWith 4 (some .int), Cond.methodLink RX5 106 yX5_moves, Cond.instanceMethod yX5_moves, Cond.selects RX5 yX5_moves yX5_moves, Cond.code yX5_moves cX5_moves 3 (some .int), Cond.methodLink RX5 87 yX5_put, Cond.instanceMethod yX5_put, Cond.selects RX5 yX5_put yX5_put, Cond.code yX5_put cX5_put 4 none, Cond.methodLink RX5 66 yX5_becomes, Cond.instanceMethod yX5_becomes, Cond.selects RX5 yX5_becomes yX5_becomes, Cond.code yX5_becomes cX5_becomes 4 (some .int), Cond.methodLink RX5 84 yX5_push, Cond.instanceMethod yX5_push]
def wsX5_fewest_r3 : List Cond := [Cond.selects RX5 yX5_push yX5_push, Cond.code yX5_push cX5_push 3 (some .int), Cond.methodLink RX5 75 yX5_keepsBack, Cond.instanceMethod yX5_keepsBack, Cond.selects RX5 yX5_keepsBack yX5_keepsBack, Cond.code yX5_keepsBack cX5_keepsBack 6 (some .int), Cond.methodLink RX5 59 yX5_others, Cond.instanceMethod yX5_others, Cond.selects RX5 yX5_others yX5_others, Cond.code yX5_others cX5_others 2 (some .int), Cond.methodLink RX5 62 yX5_isNight, Cond.instanceMethod yX5_isNight, Cond.selects RX5 yX5_isNight yX5_isNight, Cond.code yX5_isNight cX5_isNight 1 (some .boolean), Cond.methodLink RX5 45 yX5_clock, Cond.instanceMethod yX5_clock, Cond.selects RX5 yX5_clock yX5_clock, Cond.code yX5_clock cX5_clock 1 (some .int), Cond.methodLink RX5 78 yX5_isWet, Cond.instanceMethod yX5_isWet, Cond.selects RX5 yX5_isWet yX5_isWet, Cond.code yX5_isWet cX5_isWet 1 (some .boolean), Cond.methodLink RX5 142 yX5_putsBack, Cond.instanceMethod yX5_putsBack]
def wsX5_fewest_r4 : List Cond := [Cond.selects RX5 yX5_putsBack yX5_putsBack, Cond.code yX5_putsBack cX5_putsBack 1 none, Cond.methodLink RX5 148 yX5_orNone, Cond.instanceMethod yX5_orNone, Cond.selects RX5 yX5_orNone yX5_orNone, Cond.code yX5_orNone cX5_orNone 2 (some .int), Cond.constant RX5 36 (-1000000004)]
def wsX5_fewest : List Cond := .code yX5_fewest cX5_fewest 5 (some .int) :: ((wsX5_fewest_r1 ++ (wsX5_fewest_r2 ++ (wsX5_fewest_r3 ++ wsX5_fewest_r4))) ++ wsX50)
def wsX5_weather_r1 : List Cond := [Cond.constant RX5 35 (-1000000001), Cond.fieldLink RX5 9 "UnsaidRoundModel" "m" "[I", Cond.methodLink RX5 41 yX5_in, Cond.static yX5_in, Cond.initialized RX5, Cond.code yX5_in cX5_in 4 (some .boolean), Cond.methodLink RX5 37 yX5_finds, Cond.instanceMethod yX5_finds, Cond.selects RX5 yX5_finds yX5_finds, Cond.code yX5_finds cX5_finds 2 (some .int), Cond.fieldLink RX5 19 "UnsaidRoundModel" "found" "[I", Cond.methodLink RX5 139 yX5_thinks, Cond.instanceMethod yX5_thinks, Cond.selects RX5 yX5_thinks yX5_thinks, Cond.code yX5_thinks cX5_thinks 1 none, Cond.fieldLink RX5 16 "UnsaidRoundModel" "was" "[I", Cond.methodLink RX5 135 yX5_copyAll, Cond.static yX5_copyAll, Cond.code yX5_copyAll cX5_copyAll 3 none, Cond.methodLink RX5 145 yX5_turnedOn, Cond.instanceMethod yX5_turnedOn, Cond.selects RX5 yX5_turnedOn yX5_turnedOn, Cond.code yX5_turnedOn cX5_turnedOn 3 (some .int), Cond.methodLink RX5 132 yX5_goesFor]
def wsX5_weather_r2 : List Cond := [Cond.instanceMethod yX5_goesFor, Cond.selects RX5 yX5_goesFor yX5_goesFor, Cond.code yX5_goesFor cX5_goesFor 3 none, Cond.methodLink RX5 127 yX5_goes, Cond.instanceMethod yX5_goes, Cond.selects RX5 yX5_goes yX5_goes, Cond.code yX5_goes cX5_goes 6 none, Cond.constant RX5 122 (999999), Cond.methodLink RX5 84 yX5_push, Cond.instanceMethod yX5_push, Cond.selects RX5 yX5_push yX5_push, Cond.code yX5_push cX5_push 3 (some .int), Cond.methodLink RX5 49 yX5_it, Cond.instanceMethod yX5_it, Cond.selects RX5 yX5_it yX5_it, Cond.code yX5_it cX5_it 3 (some .int), Cond.methodLink RX5 75 yX5_keepsBack, Cond.instanceMethod yX5_keepsBack, Cond.selects RX5 yX5_keepsBack yX5_keepsBack, Cond.code yX5_keepsBack cX5_keepsBack 6 (some .int), Cond.methodLink RX5 59 yX5_others, Cond.instanceMethod yX5_others, Cond.selects RX5 yX5_others yX5_others, Cond.code yX5_others cX5_others 2 (some .int)]
def wsX5_weather_r3 : List Cond := [Cond.methodLink RX5 53 yX5_outOnes, Cond.instanceMethod yX5_outOnes, Cond.selects RX5 yX5_outOnes yX5_outOnes, Cond.code yX5_outOnes cX5_outOnes 3 (some .int), Cond.methodLink RX5 56 yX5_bits, Cond.static yX5_bits, Cond.code yX5_bits cX5_bits 3 (some .int), Cond.methodLink RX5 62 yX5_isNight, Cond.instanceMethod yX5_isNight, Cond.selects RX5 yX5_isNight yX5_isNight, Cond.code yX5_isNight cX5_isNight 1 (some .boolean), Cond.methodLink RX5 45 yX5_clock, Cond.instanceMethod yX5_clock, Cond.selects RX5 yX5_clock yX5_clock, Cond.code yX5_clock cX5_clock 1 (some .int), Cond.methodLink RX5 78 yX5_isWet, Cond.instanceMethod yX5_isWet, Cond.selects RX5 yX5_isWet yX5_isWet, Cond.code yX5_isWet cX5_isWet 1 (some .boolean), Cond.methodLink RX5 81 yX5_weight, Cond.instanceMethod yX5_weight, Cond.selects RX5 yX5_weight yX5_weight, Cond.code yX5_weight cX5_weight 1 (some .int), Cond.methodLink RX5 72 yX5_riders]
def wsX5_weather_r4 : List Cond := [Cond.instanceMethod yX5_riders, Cond.selects RX5 yX5_riders yX5_riders, Cond.code yX5_riders cX5_riders 3 (some .int), Cond.methodLink RX5 69 yX5_about, Cond.instanceMethod yX5_about, Cond.selects RX5 yX5_about yX5_about, Cond.code yX5_about cX5_about 3 (some .int), Cond.methodLink RX5 119 yX5_held, Cond.static yX5_held, Cond.code yX5_held cX5_held 3 (some .int), Cond.methodLink RX5 123 yX5_holds, Cond.instanceMethod yX5_holds, Cond.selects RX5 yX5_holds yX5_holds, Cond.code yX5_holds cX5_holds 2 none, Cond.methodLink RX5 110 yX5_lets, Cond.instanceMethod yX5_lets, Cond.selects RX5 yX5_lets yX5_lets, Cond.code yX5_lets cX5_lets 4 none, Cond.methodLink RX5 100 yX5_doesSpeak, Cond.instanceMethod yX5_doesSpeak, Cond.selects RX5 yX5_doesSpeak yX5_doesSpeak, Cond.code yX5_doesSpeak cX5_doesSpeak 4 (some .boolean), Cond.methodLink RX5 103 yX5_lessBy, Cond.instanceMethod yX5_lessBy]
def wsX5_weather_r5 : List Cond := [Cond.selects RX5 yX5_lessBy yX5_lessBy, Cond.code yX5_lessBy cX5_lessBy 2 (some .int), Cond.methodLink RX5 87 yX5_put, Cond.instanceMethod yX5_put, Cond.selects RX5 yX5_put yX5_put, Cond.code yX5_put cX5_put 4 none, Cond.methodLink RX5 142 yX5_putsBack, Cond.instanceMethod yX5_putsBack, Cond.selects RX5 yX5_putsBack yX5_putsBack, Cond.code yX5_putsBack cX5_putsBack 1 none]
def wsX5_weather : List Cond := .code yX5_weather cX5_weather 7 (some .int) :: ((wsX5_weather_r1 ++ (wsX5_weather_r2 ++ (wsX5_weather_r3 ++ (wsX5_weather_r4 ++ wsX5_weather_r5)))) ++ wsX50)
def wsX5_deepest_r1 : List Cond := [Cond.constant RX5 35 (-1000000001), Cond.fieldLink RX5 9 "UnsaidRoundModel" "m" "[I", Cond.methodLink RX5 41 yX5_in, Cond.static yX5_in, Cond.initialized RX5, Cond.code yX5_in cX5_in 4 (some .boolean), Cond.methodLink RX5 37 yX5_finds, Cond.instanceMethod yX5_finds, Cond.selects RX5 yX5_finds yX5_finds, Cond.code yX5_finds cX5_finds 2 (some .int), Cond.fieldLink RX5 19 "UnsaidRoundModel" "found" "[I", Cond.methodLink RX5 139 yX5_thinks, Cond.instanceMethod yX5_thinks, Cond.selects RX5 yX5_thinks yX5_thinks, Cond.code yX5_thinks cX5_thinks 1 none, Cond.fieldLink RX5 16 "UnsaidRoundModel" "was" "[I", Cond.methodLink RX5 135 yX5_copyAll, Cond.static yX5_copyAll, Cond.code yX5_copyAll cX5_copyAll 3 none, Cond.methodLink RX5 132 yX5_goesFor, Cond.instanceMethod yX5_goesFor, Cond.selects RX5 yX5_goesFor yX5_goesFor, Cond.code yX5_goesFor cX5_goesFor 3 none, Cond.methodLink RX5 127 yX5_goes]
def wsX5_deepest_r2 : List Cond := [Cond.instanceMethod yX5_goes, Cond.selects RX5 yX5_goes yX5_goes, Cond.code yX5_goes cX5_goes 6 none, Cond.constant RX5 122 (999999), Cond.methodLink RX5 84 yX5_push, Cond.instanceMethod yX5_push, Cond.selects RX5 yX5_push yX5_push, Cond.code yX5_push cX5_push 3 (some .int), Cond.methodLink RX5 49 yX5_it, Cond.instanceMethod yX5_it, Cond.selects RX5 yX5_it yX5_it, Cond.code yX5_it cX5_it 3 (some .int), Cond.methodLink RX5 75 yX5_keepsBack, Cond.instanceMethod yX5_keepsBack, Cond.selects RX5 yX5_keepsBack yX5_keepsBack, Cond.code yX5_keepsBack cX5_keepsBack 6 (some .int), Cond.methodLink RX5 59 yX5_others, Cond.instanceMethod yX5_others, Cond.selects RX5 yX5_others yX5_others, Cond.code yX5_others cX5_others 2 (some .int), Cond.methodLink RX5 53 yX5_outOnes, Cond.instanceMethod yX5_outOnes, Cond.selects RX5 yX5_outOnes yX5_outOnes, Cond.code yX5_outOnes cX5_outOnes 3 (some .int)]
def wsX5_deepest_r3 : List Cond := [Cond.methodLink RX5 56 yX5_bits, Cond.static yX5_bits, Cond.code yX5_bits cX5_bits 3 (some .int), Cond.methodLink RX5 62 yX5_isNight, Cond.instanceMethod yX5_isNight, Cond.selects RX5 yX5_isNight yX5_isNight, Cond.code yX5_isNight cX5_isNight 1 (some .boolean), Cond.methodLink RX5 45 yX5_clock, Cond.instanceMethod yX5_clock, Cond.selects RX5 yX5_clock yX5_clock, Cond.code yX5_clock cX5_clock 1 (some .int), Cond.methodLink RX5 78 yX5_isWet, Cond.instanceMethod yX5_isWet, Cond.selects RX5 yX5_isWet yX5_isWet, Cond.code yX5_isWet cX5_isWet 1 (some .boolean), Cond.methodLink RX5 81 yX5_weight, Cond.instanceMethod yX5_weight, Cond.selects RX5 yX5_weight yX5_weight, Cond.code yX5_weight cX5_weight 1 (some .int), Cond.methodLink RX5 72 yX5_riders, Cond.instanceMethod yX5_riders, Cond.selects RX5 yX5_riders yX5_riders, Cond.code yX5_riders cX5_riders 3 (some .int), Cond.methodLink RX5 69 yX5_about]
def wsX5_deepest_r4 : List Cond := [Cond.instanceMethod yX5_about, Cond.selects RX5 yX5_about yX5_about, Cond.code yX5_about cX5_about 3 (some .int), Cond.methodLink RX5 119 yX5_held, Cond.static yX5_held, Cond.code yX5_held cX5_held 3 (some .int), Cond.methodLink RX5 123 yX5_holds, Cond.instanceMethod yX5_holds, Cond.selects RX5 yX5_holds yX5_holds, Cond.code yX5_holds cX5_holds 2 none, Cond.methodLink RX5 110 yX5_lets, Cond.instanceMethod yX5_lets, Cond.selects RX5 yX5_lets yX5_lets, Cond.code yX5_lets cX5_lets 4 none, Cond.methodLink RX5 100 yX5_doesSpeak, Cond.instanceMethod yX5_doesSpeak, Cond.selects RX5 yX5_doesSpeak yX5_doesSpeak, Cond.code yX5_doesSpeak cX5_doesSpeak 4 (some .boolean), Cond.methodLink RX5 103 yX5_lessBy, Cond.instanceMethod yX5_lessBy, Cond.selects RX5 yX5_lessBy yX5_lessBy, Cond.code yX5_lessBy cX5_lessBy 2 (some .int), Cond.methodLink RX5 87 yX5_put, Cond.instanceMethod yX5_put]
def wsX5_deepest_r5 : List Cond := [Cond.selects RX5 yX5_put yX5_put, Cond.code yX5_put cX5_put 4 none, Cond.methodLink RX5 142 yX5_putsBack, Cond.instanceMethod yX5_putsBack, Cond.selects RX5 yX5_putsBack yX5_putsBack, Cond.code yX5_putsBack cX5_putsBack 1 none, Cond.methodLink RX5 148 yX5_orNone, Cond.instanceMethod yX5_orNone, Cond.selects RX5 yX5_orNone yX5_orNone, Cond.code yX5_orNone cX5_orNone 2 (some .int), Cond.constant RX5 36 (-1000000004)]
def wsX5_deepest : List Cond := .code yX5_deepest cX5_deepest 4 (some .int) :: ((wsX5_deepest_r1 ++ (wsX5_deepest_r2 ++ (wsX5_deepest_r3 ++ (wsX5_deepest_r4 ++ wsX5_deepest_r5)))) ++ wsX50)
def wsX5_feed : List Cond := .code yX5_feed cX5_feed 4 (some .int) :: ([.constant RX5 35 (-1000000001), .fieldLink RX5 157 "UnsaidRoundModel" "taped" "I", .constant RX5 91 (-1000000002), .fieldLink RX5 22 "UnsaidRoundModel" "tape" "[I", .methodLink RX5 41 yX5_in, .static yX5_in, .initialized RX5, .code yX5_in cX5_in 4 (some .boolean), .methodLink RX5 37 yX5_finds, .instanceMethod yX5_finds, .selects RX5 yX5_finds yX5_finds, .code yX5_finds cX5_finds 2 (some .int), .fieldLink RX5 19 "UnsaidRoundModel" "found" "[I"] ++ wsX50)
def wsX5_wipe : List Cond := .code yX5_wipe cX5_wipe 2 (some .int) :: ([.fieldLink RX5 157 "UnsaidRoundModel" "taped" "I"] ++ wsX50)
def wsX5_isByte : List Cond := .code yX5_isByte cX5_isByte 4 (some .boolean) :: ([.fieldLink RX5 157 "UnsaidRoundModel" "taped" "I", .fieldLink RX5 22 "UnsaidRoundModel" "tape" "[I", .methodLink RX5 41 yX5_in, .static yX5_in, .initialized RX5, .code yX5_in cX5_in 4 (some .boolean)] ++ wsX50)
def wsX5_isName : List Cond := .code yX5_isName cX5_isName 5 (some .boolean) :: ([.fieldLink RX5 161 "UnsaidRoundModel" "NAMES" "[I", .fieldLink RX5 22 "UnsaidRoundModel" "tape" "[I", .fieldLink RX5 164 "UnsaidRoundModel" "begin" "I"] ++ wsX50)
def wsX5_wordHere : List Cond := .code yX5_wordHere cX5_wordHere 2 (some .int) :: ([.fieldLink RX5 167 "UnsaidRoundModel" "at" "I", .fieldLink RX5 164 "UnsaidRoundModel" "begin" "I", .methodLink RX5 170 yX5_isName, .instanceMethod yX5_isName, .selects RX5 yX5_isName yX5_isName, .initialized RX5, .code yX5_isName cX5_isName 5 (some .boolean), .fieldLink RX5 161 "UnsaidRoundModel" "NAMES" "[I", .fieldLink RX5 22 "UnsaidRoundModel" "tape" "[I"] ++ wsX50)
def wsX5_reads : List Cond := .code yX5_reads cX5_reads 1 none :: ([.fieldLink RX5 167 "UnsaidRoundModel" "at" "I", .fieldLink RX5 164 "UnsaidRoundModel" "begin" "I", .fieldLink RX5 178 "UnsaidRoundModel" "value" "I", .fieldLink RX5 157 "UnsaidRoundModel" "taped" "I", .fieldLink RX5 181 "UnsaidRoundModel" "token" "I", .fieldLink RX5 22 "UnsaidRoundModel" "tape" "[I", .methodLink RX5 174 yX5_isByte, .instanceMethod yX5_isByte, .selects RX5 yX5_isByte yX5_isByte, .initialized RX5, .code yX5_isByte cX5_isByte 4 (some .boolean), .methodLink RX5 41 yX5_in, .static yX5_in, .code yX5_in cX5_in 4 (some .boolean), .methodLink RX5 184 yX5_wordHere, .instanceMethod yX5_wordHere, .selects RX5 yX5_wordHere yX5_wordHere, .code yX5_wordHere cX5_wordHere 2 (some .int), .methodLink RX5 170 yX5_isName, .instanceMethod yX5_isName, .selects RX5 yX5_isName yX5_isName, .code yX5_isName cX5_isName 5 (some .boolean), .fieldLink RX5 161 "UnsaidRoundModel" "NAMES" "[I"] ++ wsX50)
def wsX5_passes_r1 : List Cond := [Cond.fieldLink RX5 187 "UnsaidRoundModel" "bad" "Z", Cond.fieldLink RX5 181 "UnsaidRoundModel" "token" "I", Cond.methodLink RX5 191 yX5_reads, Cond.instanceMethod yX5_reads, Cond.selects RX5 yX5_reads yX5_reads, Cond.initialized RX5, Cond.code yX5_reads cX5_reads 1 none, Cond.fieldLink RX5 167 "UnsaidRoundModel" "at" "I", Cond.fieldLink RX5 164 "UnsaidRoundModel" "begin" "I", Cond.fieldLink RX5 178 "UnsaidRoundModel" "value" "I", Cond.fieldLink RX5 157 "UnsaidRoundModel" "taped" "I", Cond.fieldLink RX5 22 "UnsaidRoundModel" "tape" "[I", Cond.methodLink RX5 174 yX5_isByte, Cond.instanceMethod yX5_isByte, Cond.selects RX5 yX5_isByte yX5_isByte, Cond.code yX5_isByte cX5_isByte 4 (some .boolean), Cond.methodLink RX5 41 yX5_in, Cond.static yX5_in, Cond.code yX5_in cX5_in 4 (some .boolean), Cond.methodLink RX5 184 yX5_wordHere, Cond.instanceMethod yX5_wordHere, Cond.selects RX5 yX5_wordHere yX5_wordHere, Cond.code yX5_wordHere cX5_wordHere 2 (some .int), Cond.methodLink RX5 170 yX5_isName]
def wsX5_passes_r2 : List Cond := [Cond.instanceMethod yX5_isName, Cond.selects RX5 yX5_isName yX5_isName, Cond.code yX5_isName cX5_isName 5 (some .boolean), Cond.fieldLink RX5 161 "UnsaidRoundModel" "NAMES" "[I"]
def wsX5_passes : List Cond := .code yX5_passes cX5_passes 2 (some .boolean) :: ((wsX5_passes_r1 ++ wsX5_passes_r2) ++ wsX50)
def wsX5_number_r1 : List Cond := [Cond.fieldLink RX5 178 "UnsaidRoundModel" "value" "I", Cond.fieldLink RX5 187 "UnsaidRoundModel" "bad" "Z", Cond.fieldLink RX5 181 "UnsaidRoundModel" "token" "I", Cond.methodLink RX5 41 yX5_in, Cond.static yX5_in, Cond.initialized RX5, Cond.code yX5_in cX5_in 4 (some .boolean), Cond.methodLink RX5 191 yX5_reads, Cond.instanceMethod yX5_reads, Cond.selects RX5 yX5_reads yX5_reads, Cond.code yX5_reads cX5_reads 1 none, Cond.fieldLink RX5 167 "UnsaidRoundModel" "at" "I", Cond.fieldLink RX5 164 "UnsaidRoundModel" "begin" "I", Cond.fieldLink RX5 157 "UnsaidRoundModel" "taped" "I", Cond.fieldLink RX5 22 "UnsaidRoundModel" "tape" "[I", Cond.methodLink RX5 174 yX5_isByte, Cond.instanceMethod yX5_isByte, Cond.selects RX5 yX5_isByte yX5_isByte, Cond.code yX5_isByte cX5_isByte 4 (some .boolean), Cond.methodLink RX5 184 yX5_wordHere, Cond.instanceMethod yX5_wordHere, Cond.selects RX5 yX5_wordHere yX5_wordHere, Cond.code yX5_wordHere cX5_wordHere 2 (some .int), Cond.methodLink RX5 170 yX5_isName]
def wsX5_number_r2 : List Cond := [Cond.instanceMethod yX5_isName, Cond.selects RX5 yX5_isName yX5_isName, Cond.code yX5_isName cX5_isName 5 (some .boolean), Cond.fieldLink RX5 161 "UnsaidRoundModel" "NAMES" "[I"]
def wsX5_number : List Cond := .code yX5_number cX5_number 4 (some .int) :: ((wsX5_number_r1 ++ wsX5_number_r2) ++ wsX50)
def wsX5_perhaps_r1 : List Cond := [Cond.methodLink RX5 194 yX5_passes, Cond.instanceMethod yX5_passes, Cond.selects RX5 yX5_passes yX5_passes, Cond.initialized RX5, Cond.code yX5_passes cX5_passes 2 (some .boolean), Cond.fieldLink RX5 187 "UnsaidRoundModel" "bad" "Z", Cond.fieldLink RX5 181 "UnsaidRoundModel" "token" "I", Cond.methodLink RX5 191 yX5_reads, Cond.instanceMethod yX5_reads, Cond.selects RX5 yX5_reads yX5_reads, Cond.code yX5_reads cX5_reads 1 none, Cond.fieldLink RX5 167 "UnsaidRoundModel" "at" "I", Cond.fieldLink RX5 164 "UnsaidRoundModel" "begin" "I", Cond.fieldLink RX5 178 "UnsaidRoundModel" "value" "I", Cond.fieldLink RX5 157 "UnsaidRoundModel" "taped" "I", Cond.fieldLink RX5 22 "UnsaidRoundModel" "tape" "[I", Cond.methodLink RX5 174 yX5_isByte, Cond.instanceMethod yX5_isByte, Cond.selects RX5 yX5_isByte yX5_isByte, Cond.code yX5_isByte cX5_isByte 4 (some .boolean), Cond.methodLink RX5 41 yX5_in, Cond.static yX5_in, Cond.code yX5_in cX5_in 4 (some .boolean), Cond.methodLink RX5 184 yX5_wordHere]
def wsX5_perhaps_r2 : List Cond := [Cond.instanceMethod yX5_wordHere, Cond.selects RX5 yX5_wordHere yX5_wordHere, Cond.code yX5_wordHere cX5_wordHere 2 (some .int), Cond.methodLink RX5 170 yX5_isName, Cond.instanceMethod yX5_isName, Cond.selects RX5 yX5_isName yX5_isName, Cond.code yX5_isName cX5_isName 5 (some .boolean), Cond.fieldLink RX5 161 "UnsaidRoundModel" "NAMES" "[I", Cond.methodLink RX5 197 yX5_number, Cond.instanceMethod yX5_number, Cond.selects RX5 yX5_number yX5_number, Cond.code yX5_number cX5_number 4 (some .int)]
def wsX5_perhaps : List Cond := .code yX5_perhaps cX5_perhaps 5 (some .int) :: ((wsX5_perhaps_r1 ++ wsX5_perhaps_r2) ++ wsX50)
def wsX5_motherItem_r1 : List Cond := [Cond.fieldLink RX5 181 "UnsaidRoundModel" "token" "I", Cond.fieldLink RX5 9 "UnsaidRoundModel" "m" "[I", Cond.fieldLink RX5 187 "UnsaidRoundModel" "bad" "Z", Cond.methodLink RX5 191 yX5_reads, Cond.instanceMethod yX5_reads, Cond.selects RX5 yX5_reads yX5_reads, Cond.initialized RX5, Cond.code yX5_reads cX5_reads 1 none, Cond.fieldLink RX5 167 "UnsaidRoundModel" "at" "I", Cond.fieldLink RX5 164 "UnsaidRoundModel" "begin" "I", Cond.fieldLink RX5 178 "UnsaidRoundModel" "value" "I", Cond.fieldLink RX5 157 "UnsaidRoundModel" "taped" "I", Cond.fieldLink RX5 22 "UnsaidRoundModel" "tape" "[I", Cond.methodLink RX5 174 yX5_isByte, Cond.instanceMethod yX5_isByte, Cond.selects RX5 yX5_isByte yX5_isByte, Cond.code yX5_isByte cX5_isByte 4 (some .boolean), Cond.methodLink RX5 41 yX5_in, Cond.static yX5_in, Cond.code yX5_in cX5_in 4 (some .boolean), Cond.methodLink RX5 184 yX5_wordHere, Cond.instanceMethod yX5_wordHere, Cond.selects RX5 yX5_wordHere yX5_wordHere, Cond.code yX5_wordHere cX5_wordHere 2 (some .int)]
def wsX5_motherItem_r2 : List Cond := [Cond.methodLink RX5 170 yX5_isName, Cond.instanceMethod yX5_isName, Cond.selects RX5 yX5_isName yX5_isName, Cond.code yX5_isName cX5_isName 5 (some .boolean), Cond.fieldLink RX5 161 "UnsaidRoundModel" "NAMES" "[I", Cond.methodLink RX5 200 yX5_perhaps, Cond.instanceMethod yX5_perhaps, Cond.selects RX5 yX5_perhaps yX5_perhaps, Cond.code yX5_perhaps cX5_perhaps 5 (some .int), Cond.methodLink RX5 194 yX5_passes, Cond.instanceMethod yX5_passes, Cond.selects RX5 yX5_passes yX5_passes, Cond.code yX5_passes cX5_passes 2 (some .boolean), Cond.methodLink RX5 197 yX5_number, Cond.instanceMethod yX5_number, Cond.selects RX5 yX5_number yX5_number, Cond.code yX5_number cX5_number 4 (some .int), Cond.methodLink RX5 92 yX5_comesAs, Cond.instanceMethod yX5_comesAs, Cond.selects RX5 yX5_comesAs yX5_comesAs, Cond.code yX5_comesAs cX5_comesAs 5 (some .int), Cond.methodLink RX5 87 yX5_put, Cond.instanceMethod yX5_put, Cond.selects RX5 yX5_put yX5_put]
def wsX5_motherItem_r3 : List Cond := [Cond.code yX5_put cX5_put 4 none]
def wsX5_motherItem : List Cond := .code yX5_motherItem cX5_motherItem 5 none :: ((wsX5_motherItem_r1 ++ (wsX5_motherItem_r2 ++ wsX5_motherItem_r3)) ++ wsX50)
def wsX5_childItem_r1 : List Cond := [Cond.fieldLink RX5 9 "UnsaidRoundModel" "m" "[I", Cond.fieldLink RX5 187 "UnsaidRoundModel" "bad" "Z", Cond.methodLink RX5 191 yX5_reads, Cond.instanceMethod yX5_reads, Cond.selects RX5 yX5_reads yX5_reads, Cond.initialized RX5, Cond.code yX5_reads cX5_reads 1 none, Cond.fieldLink RX5 167 "UnsaidRoundModel" "at" "I", Cond.fieldLink RX5 164 "UnsaidRoundModel" "begin" "I", Cond.fieldLink RX5 178 "UnsaidRoundModel" "value" "I", Cond.fieldLink RX5 157 "UnsaidRoundModel" "taped" "I", Cond.fieldLink RX5 181 "UnsaidRoundModel" "token" "I", Cond.fieldLink RX5 22 "UnsaidRoundModel" "tape" "[I", Cond.methodLink RX5 174 yX5_isByte, Cond.instanceMethod yX5_isByte, Cond.selects RX5 yX5_isByte yX5_isByte, Cond.code yX5_isByte cX5_isByte 4 (some .boolean), Cond.methodLink RX5 41 yX5_in, Cond.static yX5_in, Cond.code yX5_in cX5_in 4 (some .boolean), Cond.methodLink RX5 184 yX5_wordHere, Cond.instanceMethod yX5_wordHere, Cond.selects RX5 yX5_wordHere yX5_wordHere, Cond.code yX5_wordHere cX5_wordHere 2 (some .int)]
def wsX5_childItem_r2 : List Cond := [Cond.methodLink RX5 170 yX5_isName, Cond.instanceMethod yX5_isName, Cond.selects RX5 yX5_isName yX5_isName, Cond.code yX5_isName cX5_isName 5 (some .boolean), Cond.fieldLink RX5 161 "UnsaidRoundModel" "NAMES" "[I", Cond.methodLink RX5 197 yX5_number, Cond.instanceMethod yX5_number, Cond.selects RX5 yX5_number yX5_number, Cond.code yX5_number cX5_number 4 (some .int), Cond.methodLink RX5 194 yX5_passes, Cond.instanceMethod yX5_passes, Cond.selects RX5 yX5_passes yX5_passes, Cond.code yX5_passes cX5_passes 2 (some .boolean), Cond.methodLink RX5 113 yX5_getsOn, Cond.instanceMethod yX5_getsOn, Cond.selects RX5 yX5_getsOn yX5_getsOn, Cond.code yX5_getsOn cX5_getsOn 4 (some .int), Cond.methodLink RX5 110 yX5_lets, Cond.instanceMethod yX5_lets, Cond.selects RX5 yX5_lets yX5_lets, Cond.code yX5_lets cX5_lets 4 none]
def wsX5_childItem : List Cond := .code yX5_childItem cX5_childItem 4 none :: ((wsX5_childItem_r1 ++ wsX5_childItem_r2) ++ wsX50)
def wsX5_rainItem_r1 : List Cond := [Cond.fieldLink RX5 181 "UnsaidRoundModel" "token" "I", Cond.fieldLink RX5 187 "UnsaidRoundModel" "bad" "Z", Cond.fieldLink RX5 9 "UnsaidRoundModel" "m" "[I", Cond.methodLink RX5 191 yX5_reads, Cond.instanceMethod yX5_reads, Cond.selects RX5 yX5_reads yX5_reads, Cond.initialized RX5, Cond.code yX5_reads cX5_reads 1 none, Cond.fieldLink RX5 167 "UnsaidRoundModel" "at" "I", Cond.fieldLink RX5 164 "UnsaidRoundModel" "begin" "I", Cond.fieldLink RX5 178 "UnsaidRoundModel" "value" "I", Cond.fieldLink RX5 157 "UnsaidRoundModel" "taped" "I", Cond.fieldLink RX5 22 "UnsaidRoundModel" "tape" "[I", Cond.methodLink RX5 174 yX5_isByte, Cond.instanceMethod yX5_isByte, Cond.selects RX5 yX5_isByte yX5_isByte, Cond.code yX5_isByte cX5_isByte 4 (some .boolean), Cond.methodLink RX5 41 yX5_in, Cond.static yX5_in, Cond.code yX5_in cX5_in 4 (some .boolean), Cond.methodLink RX5 184 yX5_wordHere, Cond.instanceMethod yX5_wordHere, Cond.selects RX5 yX5_wordHere yX5_wordHere, Cond.code yX5_wordHere cX5_wordHere 2 (some .int)]
def wsX5_rainItem_r2 : List Cond := [Cond.methodLink RX5 170 yX5_isName, Cond.instanceMethod yX5_isName, Cond.selects RX5 yX5_isName yX5_isName, Cond.code yX5_isName cX5_isName 5 (some .boolean), Cond.fieldLink RX5 161 "UnsaidRoundModel" "NAMES" "[I", Cond.methodLink RX5 197 yX5_number, Cond.instanceMethod yX5_number, Cond.selects RX5 yX5_number yX5_number, Cond.code yX5_number cX5_number 4 (some .int)]
def wsX5_rainItem : List Cond := .code yX5_rainItem cX5_rainItem 3 none :: ((wsX5_rainItem_r1 ++ wsX5_rainItem_r2) ++ wsX50)
def wsX5_item_r1 : List Cond := [Cond.fieldLink RX5 181 "UnsaidRoundModel" "token" "I", Cond.fieldLink RX5 9 "UnsaidRoundModel" "m" "[I", Cond.fieldLink RX5 187 "UnsaidRoundModel" "bad" "Z", Cond.methodLink RX5 204 yX5_motherItem, Cond.instanceMethod yX5_motherItem, Cond.selects RX5 yX5_motherItem yX5_motherItem, Cond.initialized RX5, Cond.code yX5_motherItem cX5_motherItem 5 none, Cond.methodLink RX5 191 yX5_reads, Cond.instanceMethod yX5_reads, Cond.selects RX5 yX5_reads yX5_reads, Cond.code yX5_reads cX5_reads 1 none, Cond.fieldLink RX5 167 "UnsaidRoundModel" "at" "I", Cond.fieldLink RX5 164 "UnsaidRoundModel" "begin" "I", Cond.fieldLink RX5 178 "UnsaidRoundModel" "value" "I", Cond.fieldLink RX5 157 "UnsaidRoundModel" "taped" "I", Cond.fieldLink RX5 22 "UnsaidRoundModel" "tape" "[I", Cond.methodLink RX5 174 yX5_isByte, Cond.instanceMethod yX5_isByte, Cond.selects RX5 yX5_isByte yX5_isByte, Cond.code yX5_isByte cX5_isByte 4 (some .boolean), Cond.methodLink RX5 41 yX5_in, Cond.static yX5_in, Cond.code yX5_in cX5_in 4 (some .boolean)]
def wsX5_item_r2 : List Cond := [Cond.methodLink RX5 184 yX5_wordHere, Cond.instanceMethod yX5_wordHere, Cond.selects RX5 yX5_wordHere yX5_wordHere, Cond.code yX5_wordHere cX5_wordHere 2 (some .int), Cond.methodLink RX5 170 yX5_isName, Cond.instanceMethod yX5_isName, Cond.selects RX5 yX5_isName yX5_isName, Cond.code yX5_isName cX5_isName 5 (some .boolean), Cond.fieldLink RX5 161 "UnsaidRoundModel" "NAMES" "[I", Cond.methodLink RX5 200 yX5_perhaps, Cond.instanceMethod yX5_perhaps, Cond.selects RX5 yX5_perhaps yX5_perhaps, Cond.code yX5_perhaps cX5_perhaps 5 (some .int), Cond.methodLink RX5 194 yX5_passes, Cond.instanceMethod yX5_passes, Cond.selects RX5 yX5_passes yX5_passes, Cond.code yX5_passes cX5_passes 2 (some .boolean), Cond.methodLink RX5 197 yX5_number, Cond.instanceMethod yX5_number, Cond.selects RX5 yX5_number yX5_number, Cond.code yX5_number cX5_number 4 (some .int), Cond.methodLink RX5 92 yX5_comesAs, Cond.instanceMethod yX5_comesAs, Cond.selects RX5 yX5_comesAs yX5_comesAs]
def wsX5_item_r3 : List Cond := [Cond.code yX5_comesAs cX5_comesAs 5 (some .int), Cond.methodLink RX5 87 yX5_put, Cond.instanceMethod yX5_put, Cond.selects RX5 yX5_put yX5_put, Cond.code yX5_put cX5_put 4 none, Cond.methodLink RX5 207 yX5_childItem, Cond.instanceMethod yX5_childItem, Cond.selects RX5 yX5_childItem yX5_childItem, Cond.code yX5_childItem cX5_childItem 4 none, Cond.methodLink RX5 113 yX5_getsOn, Cond.instanceMethod yX5_getsOn, Cond.selects RX5 yX5_getsOn yX5_getsOn, Cond.code yX5_getsOn cX5_getsOn 4 (some .int), Cond.methodLink RX5 110 yX5_lets, Cond.instanceMethod yX5_lets, Cond.selects RX5 yX5_lets yX5_lets, Cond.code yX5_lets cX5_lets 4 none, Cond.methodLink RX5 210 yX5_rainItem, Cond.instanceMethod yX5_rainItem, Cond.selects RX5 yX5_rainItem yX5_rainItem, Cond.code yX5_rainItem cX5_rainItem 3 none]
def wsX5_item : List Cond := .code yX5_item cX5_item 1 none :: ((wsX5_item_r1 ++ (wsX5_item_r2 ++ wsX5_item_r3)) ++ wsX50)
def wsX5_green_r1 : List Cond := [Cond.fieldLink RX5 167 "UnsaidRoundModel" "at" "I", Cond.fieldLink RX5 187 "UnsaidRoundModel" "bad" "Z", Cond.fieldLink RX5 181 "UnsaidRoundModel" "token" "I", Cond.fieldLink RX5 157 "UnsaidRoundModel" "taped" "I", Cond.fieldLink RX5 164 "UnsaidRoundModel" "begin" "I", Cond.methodLink RX5 139 yX5_thinks, Cond.instanceMethod yX5_thinks, Cond.selects RX5 yX5_thinks yX5_thinks, Cond.initialized RX5, Cond.code yX5_thinks cX5_thinks 1 none, Cond.fieldLink RX5 9 "UnsaidRoundModel" "m" "[I", Cond.fieldLink RX5 16 "UnsaidRoundModel" "was" "[I", Cond.methodLink RX5 135 yX5_copyAll, Cond.static yX5_copyAll, Cond.code yX5_copyAll cX5_copyAll 3 none, Cond.methodLink RX5 191 yX5_reads, Cond.instanceMethod yX5_reads, Cond.selects RX5 yX5_reads yX5_reads, Cond.code yX5_reads cX5_reads 1 none, Cond.fieldLink RX5 178 "UnsaidRoundModel" "value" "I", Cond.fieldLink RX5 22 "UnsaidRoundModel" "tape" "[I", Cond.methodLink RX5 174 yX5_isByte, Cond.instanceMethod yX5_isByte, Cond.selects RX5 yX5_isByte yX5_isByte]
def wsX5_green_r2 : List Cond := [Cond.code yX5_isByte cX5_isByte 4 (some .boolean), Cond.methodLink RX5 41 yX5_in, Cond.static yX5_in, Cond.code yX5_in cX5_in 4 (some .boolean), Cond.methodLink RX5 184 yX5_wordHere, Cond.instanceMethod yX5_wordHere, Cond.selects RX5 yX5_wordHere yX5_wordHere, Cond.code yX5_wordHere cX5_wordHere 2 (some .int), Cond.methodLink RX5 170 yX5_isName, Cond.instanceMethod yX5_isName, Cond.selects RX5 yX5_isName yX5_isName, Cond.code yX5_isName cX5_isName 5 (some .boolean), Cond.fieldLink RX5 161 "UnsaidRoundModel" "NAMES" "[I", Cond.methodLink RX5 213 yX5_item, Cond.instanceMethod yX5_item, Cond.selects RX5 yX5_item yX5_item, Cond.code yX5_item cX5_item 1 none, Cond.methodLink RX5 204 yX5_motherItem, Cond.instanceMethod yX5_motherItem, Cond.selects RX5 yX5_motherItem yX5_motherItem, Cond.code yX5_motherItem cX5_motherItem 5 none, Cond.methodLink RX5 200 yX5_perhaps, Cond.instanceMethod yX5_perhaps, Cond.selects RX5 yX5_perhaps yX5_perhaps]
def wsX5_green_r3 : List Cond := [Cond.code yX5_perhaps cX5_perhaps 5 (some .int), Cond.methodLink RX5 194 yX5_passes, Cond.instanceMethod yX5_passes, Cond.selects RX5 yX5_passes yX5_passes, Cond.code yX5_passes cX5_passes 2 (some .boolean), Cond.methodLink RX5 197 yX5_number, Cond.instanceMethod yX5_number, Cond.selects RX5 yX5_number yX5_number, Cond.code yX5_number cX5_number 4 (some .int), Cond.methodLink RX5 92 yX5_comesAs, Cond.instanceMethod yX5_comesAs, Cond.selects RX5 yX5_comesAs yX5_comesAs, Cond.code yX5_comesAs cX5_comesAs 5 (some .int), Cond.methodLink RX5 87 yX5_put, Cond.instanceMethod yX5_put, Cond.selects RX5 yX5_put yX5_put, Cond.code yX5_put cX5_put 4 none, Cond.methodLink RX5 207 yX5_childItem, Cond.instanceMethod yX5_childItem, Cond.selects RX5 yX5_childItem yX5_childItem, Cond.code yX5_childItem cX5_childItem 4 none, Cond.methodLink RX5 113 yX5_getsOn, Cond.instanceMethod yX5_getsOn, Cond.selects RX5 yX5_getsOn yX5_getsOn]
def wsX5_green_r4 : List Cond := [Cond.code yX5_getsOn cX5_getsOn 4 (some .int), Cond.methodLink RX5 110 yX5_lets, Cond.instanceMethod yX5_lets, Cond.selects RX5 yX5_lets yX5_lets, Cond.code yX5_lets cX5_lets 4 none, Cond.methodLink RX5 210 yX5_rainItem, Cond.instanceMethod yX5_rainItem, Cond.selects RX5 yX5_rainItem yX5_rainItem, Cond.code yX5_rainItem cX5_rainItem 3 none, Cond.methodLink RX5 142 yX5_putsBack, Cond.instanceMethod yX5_putsBack, Cond.selects RX5 yX5_putsBack yX5_putsBack, Cond.code yX5_putsBack cX5_putsBack 1 none]
def wsX5_green : List Cond := .code yX5_green cX5_green 2 (some .int) :: ((wsX5_green_r1 ++ (wsX5_green_r2 ++ (wsX5_green_r3 ++ wsX5_green_r4))) ++ wsX50)
def wsX5_isSheet : List Cond := .code yX5_isSheet cX5_isSheet 1 (some .boolean) :: ([.methodLink RX5 41 yX5_in, .static yX5_in, .initialized RX5, .code yX5_in cX5_in 4 (some .boolean)])
def wsX5_sheet : List Cond := .code yX5_sheet cX5_sheet 5 (some .int) :: ([.constant RX5 35 (-1000000001), .constant RX5 219 (-1000000007), .fieldLink RX5 25 "UnsaidRoundModel" "bitsOf" "[I", .fieldLink RX5 28 "UnsaidRoundModel" "sizeOf" "[I", .fieldLink RX5 31 "UnsaidRoundModel" "cells" "[J", .methodLink RX5 216 yX5_isSheet, .static yX5_isSheet, .initialized RX5, .code yX5_isSheet cX5_isSheet 1 (some .boolean), .methodLink RX5 41 yX5_in, .static yX5_in, .code yX5_in cX5_in 4 (some .boolean), .methodLink RX5 37 yX5_finds, .instanceMethod yX5_finds, .selects RX5 yX5_finds yX5_finds, .code yX5_finds cX5_finds 2 (some .int), .fieldLink RX5 19 "UnsaidRoundModel" "found" "[I"] ++ wsX50)
def wsX5_notThere : List Cond := .code yX5_notThere cX5_notThere 2 (some .int) :: ([.constant RX5 35 (-1000000001), .fieldLink RX5 25 "UnsaidRoundModel" "bitsOf" "[I", .constant RX5 220 (-1000000006), .methodLink RX5 216 yX5_isSheet, .static yX5_isSheet, .initialized RX5, .code yX5_isSheet cX5_isSheet 1 (some .boolean), .methodLink RX5 41 yX5_in, .static yX5_in, .code yX5_in cX5_in 4 (some .boolean)] ++ wsX50)
def wsX5_cutTo : List Cond := .code yX5_cutTo cX5_cutTo 3 (some .long) :: ([])
def wsX5_write : List Cond := .code yX5_write cX5_write 8 (some .long) :: ([.fieldLink RX5 28 "UnsaidRoundModel" "sizeOf" "[I", .constant RX5 35 (-1000000001), .fieldLink RX5 31 "UnsaidRoundModel" "cells" "[J", .fieldLink RX5 25 "UnsaidRoundModel" "bitsOf" "[I", .methodLink RX5 221 yX5_notThere, .instanceMethod yX5_notThere, .selects RX5 yX5_notThere yX5_notThere, .initialized RX5, .code yX5_notThere cX5_notThere 2 (some .int), .constant RX5 220 (-1000000006), .methodLink RX5 216 yX5_isSheet, .static yX5_isSheet, .code yX5_isSheet cX5_isSheet 1 (some .boolean), .methodLink RX5 41 yX5_in, .static yX5_in, .code yX5_in cX5_in 4 (some .boolean), .methodLink RX5 37 yX5_finds, .instanceMethod yX5_finds, .selects RX5 yX5_finds yX5_finds, .code yX5_finds cX5_finds 2 (some .int), .fieldLink RX5 19 "UnsaidRoundModel" "found" "[I", .methodLink RX5 224 yX5_cutTo, .static yX5_cutTo, .code yX5_cutTo cX5_cutTo 3 (some .long)] ++ wsX50)
def wsX5_notCopied : List Cond := .code yX5_notCopied cX5_notCopied 7 (some .int) :: ([.constant RX5 35 (-1000000001), .fieldLink RX5 25 "UnsaidRoundModel" "bitsOf" "[I", .constant RX5 220 (-1000000006), .constant RX5 109 (-1000000003), .fieldLink RX5 28 "UnsaidRoundModel" "sizeOf" "[I", .methodLink RX5 216 yX5_isSheet, .static yX5_isSheet, .initialized RX5, .code yX5_isSheet cX5_isSheet 1 (some .boolean), .methodLink RX5 41 yX5_in, .static yX5_in, .code yX5_in cX5_in 4 (some .boolean)] ++ wsX50)
def wsX5_copy : List Cond := .code yX5_copy cX5_copy 9 (some .int) :: ([.fieldLink RX5 31 "UnsaidRoundModel" "cells" "[J", .methodLink RX5 228 yX5_notCopied, .instanceMethod yX5_notCopied, .selects RX5 yX5_notCopied yX5_notCopied, .initialized RX5, .code yX5_notCopied cX5_notCopied 7 (some .int), .constant RX5 35 (-1000000001), .fieldLink RX5 25 "UnsaidRoundModel" "bitsOf" "[I", .constant RX5 220 (-1000000006), .constant RX5 109 (-1000000003), .fieldLink RX5 28 "UnsaidRoundModel" "sizeOf" "[I", .methodLink RX5 216 yX5_isSheet, .static yX5_isSheet, .code yX5_isSheet cX5_isSheet 1 (some .boolean), .methodLink RX5 41 yX5_in, .static yX5_in, .code yX5_in cX5_in 4 (some .boolean), .methodLink RX5 37 yX5_finds, .instanceMethod yX5_finds, .selects RX5 yX5_finds yX5_finds, .code yX5_finds cX5_finds 2 (some .int), .fieldLink RX5 19 "UnsaidRoundModel" "found" "[I"] ++ wsX50)
def wsX5_lays_r1 : List Cond := [Cond.fieldLink RX5 28 "UnsaidRoundModel" "sizeOf" "[I", Cond.fieldLink RX5 9 "UnsaidRoundModel" "m" "[I", Cond.fieldLink RX5 31 "UnsaidRoundModel" "cells" "[J", Cond.methodLink RX5 221 yX5_notThere, Cond.instanceMethod yX5_notThere, Cond.selects RX5 yX5_notThere yX5_notThere, Cond.initialized RX5, Cond.code yX5_notThere cX5_notThere 2 (some .int), Cond.constant RX5 35 (-1000000001), Cond.fieldLink RX5 25 "UnsaidRoundModel" "bitsOf" "[I", Cond.constant RX5 220 (-1000000006), Cond.methodLink RX5 216 yX5_isSheet, Cond.static yX5_isSheet, Cond.code yX5_isSheet cX5_isSheet 1 (some .boolean), Cond.methodLink RX5 41 yX5_in, Cond.static yX5_in, Cond.code yX5_in cX5_in 4 (some .boolean), Cond.methodLink RX5 37 yX5_finds, Cond.instanceMethod yX5_finds, Cond.selects RX5 yX5_finds yX5_finds, Cond.code yX5_finds cX5_finds 2 (some .int), Cond.fieldLink RX5 19 "UnsaidRoundModel" "found" "[I", Cond.methodLink RX5 87 yX5_put, Cond.instanceMethod yX5_put]
def wsX5_lays_r2 : List Cond := [Cond.selects RX5 yX5_put yX5_put, Cond.code yX5_put cX5_put 4 none]
def wsX5_lays : List Cond := .code yX5_lays cX5_lays 5 (some .int) :: ((wsX5_lays_r1 ++ wsX5_lays_r2) ++ wsX50)
def wsX5_book_r1 : List Cond := [Cond.fieldLink RX5 28 "UnsaidRoundModel" "sizeOf" "[I", Cond.fieldLink RX5 31 "UnsaidRoundModel" "cells" "[J", Cond.fieldLink RX5 25 "UnsaidRoundModel" "bitsOf" "[I", Cond.fieldLink RX5 9 "UnsaidRoundModel" "m" "[I", Cond.methodLink RX5 221 yX5_notThere, Cond.instanceMethod yX5_notThere, Cond.selects RX5 yX5_notThere yX5_notThere, Cond.initialized RX5, Cond.code yX5_notThere cX5_notThere 2 (some .int), Cond.constant RX5 35 (-1000000001), Cond.constant RX5 220 (-1000000006), Cond.methodLink RX5 216 yX5_isSheet, Cond.static yX5_isSheet, Cond.code yX5_isSheet cX5_isSheet 1 (some .boolean), Cond.methodLink RX5 41 yX5_in, Cond.static yX5_in, Cond.code yX5_in cX5_in 4 (some .boolean), Cond.methodLink RX5 37 yX5_finds, Cond.instanceMethod yX5_finds, Cond.selects RX5 yX5_finds yX5_finds, Cond.code yX5_finds cX5_finds 2 (some .int), Cond.fieldLink RX5 19 "UnsaidRoundModel" "found" "[I", Cond.methodLink RX5 139 yX5_thinks, Cond.instanceMethod yX5_thinks]
def wsX5_book_r2 : List Cond := [Cond.selects RX5 yX5_thinks yX5_thinks, Cond.code yX5_thinks cX5_thinks 1 none, Cond.fieldLink RX5 16 "UnsaidRoundModel" "was" "[I", Cond.methodLink RX5 135 yX5_copyAll, Cond.static yX5_copyAll, Cond.code yX5_copyAll cX5_copyAll 3 none, Cond.methodLink RX5 224 yX5_cutTo, Cond.static yX5_cutTo, Cond.code yX5_cutTo cX5_cutTo 3 (some .long), Cond.methodLink RX5 127 yX5_goes, Cond.instanceMethod yX5_goes, Cond.selects RX5 yX5_goes yX5_goes, Cond.code yX5_goes cX5_goes 6 none, Cond.constant RX5 122 (999999), Cond.methodLink RX5 84 yX5_push, Cond.instanceMethod yX5_push, Cond.selects RX5 yX5_push yX5_push, Cond.code yX5_push cX5_push 3 (some .int), Cond.methodLink RX5 49 yX5_it, Cond.instanceMethod yX5_it, Cond.selects RX5 yX5_it yX5_it, Cond.code yX5_it cX5_it 3 (some .int), Cond.methodLink RX5 75 yX5_keepsBack, Cond.instanceMethod yX5_keepsBack]
def wsX5_book_r3 : List Cond := [Cond.selects RX5 yX5_keepsBack yX5_keepsBack, Cond.code yX5_keepsBack cX5_keepsBack 6 (some .int), Cond.methodLink RX5 59 yX5_others, Cond.instanceMethod yX5_others, Cond.selects RX5 yX5_others yX5_others, Cond.code yX5_others cX5_others 2 (some .int), Cond.methodLink RX5 53 yX5_outOnes, Cond.instanceMethod yX5_outOnes, Cond.selects RX5 yX5_outOnes yX5_outOnes, Cond.code yX5_outOnes cX5_outOnes 3 (some .int), Cond.methodLink RX5 56 yX5_bits, Cond.static yX5_bits, Cond.code yX5_bits cX5_bits 3 (some .int), Cond.methodLink RX5 62 yX5_isNight, Cond.instanceMethod yX5_isNight, Cond.selects RX5 yX5_isNight yX5_isNight, Cond.code yX5_isNight cX5_isNight 1 (some .boolean), Cond.methodLink RX5 45 yX5_clock, Cond.instanceMethod yX5_clock, Cond.selects RX5 yX5_clock yX5_clock, Cond.code yX5_clock cX5_clock 1 (some .int), Cond.methodLink RX5 78 yX5_isWet, Cond.instanceMethod yX5_isWet, Cond.selects RX5 yX5_isWet yX5_isWet]
def wsX5_book_r4 : List Cond := [Cond.code yX5_isWet cX5_isWet 1 (some .boolean), Cond.methodLink RX5 81 yX5_weight, Cond.instanceMethod yX5_weight, Cond.selects RX5 yX5_weight yX5_weight, Cond.code yX5_weight cX5_weight 1 (some .int), Cond.methodLink RX5 72 yX5_riders, Cond.instanceMethod yX5_riders, Cond.selects RX5 yX5_riders yX5_riders, Cond.code yX5_riders cX5_riders 3 (some .int), Cond.methodLink RX5 69 yX5_about, Cond.instanceMethod yX5_about, Cond.selects RX5 yX5_about yX5_about, Cond.code yX5_about cX5_about 3 (some .int), Cond.methodLink RX5 119 yX5_held, Cond.static yX5_held, Cond.code yX5_held cX5_held 3 (some .int), Cond.methodLink RX5 123 yX5_holds, Cond.instanceMethod yX5_holds, Cond.selects RX5 yX5_holds yX5_holds, Cond.code yX5_holds cX5_holds 2 none, Cond.methodLink RX5 110 yX5_lets, Cond.instanceMethod yX5_lets, Cond.selects RX5 yX5_lets yX5_lets, Cond.code yX5_lets cX5_lets 4 none]
def wsX5_book_r5 : List Cond := [Cond.methodLink RX5 100 yX5_doesSpeak, Cond.instanceMethod yX5_doesSpeak, Cond.selects RX5 yX5_doesSpeak yX5_doesSpeak, Cond.code yX5_doesSpeak cX5_doesSpeak 4 (some .boolean), Cond.methodLink RX5 103 yX5_lessBy, Cond.instanceMethod yX5_lessBy, Cond.selects RX5 yX5_lessBy yX5_lessBy, Cond.code yX5_lessBy cX5_lessBy 2 (some .int), Cond.methodLink RX5 87 yX5_put, Cond.instanceMethod yX5_put, Cond.selects RX5 yX5_put yX5_put, Cond.code yX5_put cX5_put 4 none, Cond.methodLink RX5 142 yX5_putsBack, Cond.instanceMethod yX5_putsBack, Cond.selects RX5 yX5_putsBack yX5_putsBack, Cond.code yX5_putsBack cX5_putsBack 1 none]
def wsX5_book : List Cond := .code yX5_book cX5_book 4 (some .int) :: ((wsX5_book_r1 ++ (wsX5_book_r2 ++ (wsX5_book_r3 ++ (wsX5_book_r4 ++ wsX5_book_r5)))) ++ wsX50)
def wsX5_isBook_r1 : List Cond := [Cond.fieldLink RX5 28 "UnsaidRoundModel" "sizeOf" "[I", Cond.fieldLink RX5 31 "UnsaidRoundModel" "cells" "[J", Cond.fieldLink RX5 9 "UnsaidRoundModel" "m" "[I", Cond.methodLink RX5 127 yX5_goes, Cond.instanceMethod yX5_goes, Cond.selects RX5 yX5_goes yX5_goes, Cond.initialized RX5, Cond.code yX5_goes cX5_goes 6 none, Cond.constant RX5 122 (999999), Cond.methodLink RX5 84 yX5_push, Cond.instanceMethod yX5_push, Cond.selects RX5 yX5_push yX5_push, Cond.code yX5_push cX5_push 3 (some .int), Cond.methodLink RX5 49 yX5_it, Cond.instanceMethod yX5_it, Cond.selects RX5 yX5_it yX5_it, Cond.code yX5_it cX5_it 3 (some .int), Cond.methodLink RX5 75 yX5_keepsBack, Cond.instanceMethod yX5_keepsBack, Cond.selects RX5 yX5_keepsBack yX5_keepsBack, Cond.code yX5_keepsBack cX5_keepsBack 6 (some .int), Cond.methodLink RX5 59 yX5_others, Cond.instanceMethod yX5_others, Cond.selects RX5 yX5_others yX5_others]
def wsX5_isBook_r2 : List Cond := [Cond.code yX5_others cX5_others 2 (some .int), Cond.methodLink RX5 53 yX5_outOnes, Cond.instanceMethod yX5_outOnes, Cond.selects RX5 yX5_outOnes yX5_outOnes, Cond.code yX5_outOnes cX5_outOnes 3 (some .int), Cond.methodLink RX5 56 yX5_bits, Cond.static yX5_bits, Cond.code yX5_bits cX5_bits 3 (some .int), Cond.methodLink RX5 62 yX5_isNight, Cond.instanceMethod yX5_isNight, Cond.selects RX5 yX5_isNight yX5_isNight, Cond.code yX5_isNight cX5_isNight 1 (some .boolean), Cond.methodLink RX5 45 yX5_clock, Cond.instanceMethod yX5_clock, Cond.selects RX5 yX5_clock yX5_clock, Cond.code yX5_clock cX5_clock 1 (some .int), Cond.methodLink RX5 78 yX5_isWet, Cond.instanceMethod yX5_isWet, Cond.selects RX5 yX5_isWet yX5_isWet, Cond.code yX5_isWet cX5_isWet 1 (some .boolean), Cond.methodLink RX5 81 yX5_weight, Cond.instanceMethod yX5_weight, Cond.selects RX5 yX5_weight yX5_weight, Cond.code yX5_weight cX5_weight 1 (some .int)]
def wsX5_isBook_r3 : List Cond := [Cond.methodLink RX5 72 yX5_riders, Cond.instanceMethod yX5_riders, Cond.selects RX5 yX5_riders yX5_riders, Cond.code yX5_riders cX5_riders 3 (some .int), Cond.methodLink RX5 69 yX5_about, Cond.instanceMethod yX5_about, Cond.selects RX5 yX5_about yX5_about, Cond.code yX5_about cX5_about 3 (some .int), Cond.methodLink RX5 119 yX5_held, Cond.static yX5_held, Cond.code yX5_held cX5_held 3 (some .int), Cond.methodLink RX5 123 yX5_holds, Cond.instanceMethod yX5_holds, Cond.selects RX5 yX5_holds yX5_holds, Cond.code yX5_holds cX5_holds 2 none, Cond.methodLink RX5 110 yX5_lets, Cond.instanceMethod yX5_lets, Cond.selects RX5 yX5_lets yX5_lets, Cond.code yX5_lets cX5_lets 4 none, Cond.methodLink RX5 100 yX5_doesSpeak, Cond.instanceMethod yX5_doesSpeak, Cond.selects RX5 yX5_doesSpeak yX5_doesSpeak, Cond.code yX5_doesSpeak cX5_doesSpeak 4 (some .boolean), Cond.methodLink RX5 103 yX5_lessBy]
def wsX5_isBook_r4 : List Cond := [Cond.instanceMethod yX5_lessBy, Cond.selects RX5 yX5_lessBy yX5_lessBy, Cond.code yX5_lessBy cX5_lessBy 2 (some .int), Cond.methodLink RX5 87 yX5_put, Cond.instanceMethod yX5_put, Cond.selects RX5 yX5_put yX5_put, Cond.code yX5_put cX5_put 4 none, Cond.methodLink RX5 142 yX5_putsBack, Cond.instanceMethod yX5_putsBack, Cond.selects RX5 yX5_putsBack yX5_putsBack, Cond.code yX5_putsBack cX5_putsBack 1 none, Cond.fieldLink RX5 16 "UnsaidRoundModel" "was" "[I", Cond.methodLink RX5 135 yX5_copyAll, Cond.static yX5_copyAll, Cond.code yX5_copyAll cX5_copyAll 3 none]
def wsX5_isBook : List Cond := .code yX5_isBook cX5_isBook 4 (some .boolean) :: ((wsX5_isBook_r1 ++ (wsX5_isBook_r2 ++ (wsX5_isBook_r3 ++ wsX5_isBook_r4))) ++ wsX50)
def wsX5_read_r1 : List Cond := [Cond.constant RX5 35 (-1000000001), Cond.methodLink RX5 221 yX5_notThere, Cond.instanceMethod yX5_notThere, Cond.selects RX5 yX5_notThere yX5_notThere, Cond.initialized RX5, Cond.code yX5_notThere cX5_notThere 2 (some .int), Cond.fieldLink RX5 25 "UnsaidRoundModel" "bitsOf" "[I", Cond.constant RX5 220 (-1000000006), Cond.methodLink RX5 216 yX5_isSheet, Cond.static yX5_isSheet, Cond.code yX5_isSheet cX5_isSheet 1 (some .boolean), Cond.methodLink RX5 41 yX5_in, Cond.static yX5_in, Cond.code yX5_in cX5_in 4 (some .boolean), Cond.methodLink RX5 96 yX5_isMother, Cond.instanceMethod yX5_isMother, Cond.selects RX5 yX5_isMother yX5_isMother, Cond.code yX5_isMother cX5_isMother 2 (some .boolean), Cond.fieldLink RX5 9 "UnsaidRoundModel" "m" "[I", Cond.methodLink RX5 37 yX5_finds, Cond.instanceMethod yX5_finds, Cond.selects RX5 yX5_finds yX5_finds, Cond.code yX5_finds cX5_finds 2 (some .int), Cond.fieldLink RX5 19 "UnsaidRoundModel" "found" "[I"]
def wsX5_read_r2 : List Cond := [Cond.methodLink RX5 139 yX5_thinks, Cond.instanceMethod yX5_thinks, Cond.selects RX5 yX5_thinks yX5_thinks, Cond.code yX5_thinks cX5_thinks 1 none, Cond.fieldLink RX5 16 "UnsaidRoundModel" "was" "[I", Cond.methodLink RX5 135 yX5_copyAll, Cond.static yX5_copyAll, Cond.code yX5_copyAll cX5_copyAll 3 none, Cond.methodLink RX5 87 yX5_put, Cond.instanceMethod yX5_put, Cond.selects RX5 yX5_put yX5_put, Cond.code yX5_put cX5_put 4 none, Cond.methodLink RX5 232 yX5_isBook, Cond.instanceMethod yX5_isBook, Cond.selects RX5 yX5_isBook yX5_isBook, Cond.code yX5_isBook cX5_isBook 4 (some .boolean), Cond.fieldLink RX5 28 "UnsaidRoundModel" "sizeOf" "[I", Cond.fieldLink RX5 31 "UnsaidRoundModel" "cells" "[J", Cond.methodLink RX5 127 yX5_goes, Cond.instanceMethod yX5_goes, Cond.selects RX5 yX5_goes yX5_goes, Cond.code yX5_goes cX5_goes 6 none, Cond.constant RX5 122 (999999), Cond.methodLink RX5 84 yX5_push]
def wsX5_read_r3 : List Cond := [Cond.instanceMethod yX5_push, Cond.selects RX5 yX5_push yX5_push, Cond.code yX5_push cX5_push 3 (some .int), Cond.methodLink RX5 49 yX5_it, Cond.instanceMethod yX5_it, Cond.selects RX5 yX5_it yX5_it, Cond.code yX5_it cX5_it 3 (some .int), Cond.methodLink RX5 75 yX5_keepsBack, Cond.instanceMethod yX5_keepsBack, Cond.selects RX5 yX5_keepsBack yX5_keepsBack, Cond.code yX5_keepsBack cX5_keepsBack 6 (some .int), Cond.methodLink RX5 59 yX5_others, Cond.instanceMethod yX5_others, Cond.selects RX5 yX5_others yX5_others, Cond.code yX5_others cX5_others 2 (some .int), Cond.methodLink RX5 53 yX5_outOnes, Cond.instanceMethod yX5_outOnes, Cond.selects RX5 yX5_outOnes yX5_outOnes, Cond.code yX5_outOnes cX5_outOnes 3 (some .int), Cond.methodLink RX5 56 yX5_bits, Cond.static yX5_bits, Cond.code yX5_bits cX5_bits 3 (some .int), Cond.methodLink RX5 62 yX5_isNight, Cond.instanceMethod yX5_isNight]
def wsX5_read_r4 : List Cond := [Cond.selects RX5 yX5_isNight yX5_isNight, Cond.code yX5_isNight cX5_isNight 1 (some .boolean), Cond.methodLink RX5 45 yX5_clock, Cond.instanceMethod yX5_clock, Cond.selects RX5 yX5_clock yX5_clock, Cond.code yX5_clock cX5_clock 1 (some .int), Cond.methodLink RX5 78 yX5_isWet, Cond.instanceMethod yX5_isWet, Cond.selects RX5 yX5_isWet yX5_isWet, Cond.code yX5_isWet cX5_isWet 1 (some .boolean), Cond.methodLink RX5 81 yX5_weight, Cond.instanceMethod yX5_weight, Cond.selects RX5 yX5_weight yX5_weight, Cond.code yX5_weight cX5_weight 1 (some .int), Cond.methodLink RX5 72 yX5_riders, Cond.instanceMethod yX5_riders, Cond.selects RX5 yX5_riders yX5_riders, Cond.code yX5_riders cX5_riders 3 (some .int), Cond.methodLink RX5 69 yX5_about, Cond.instanceMethod yX5_about, Cond.selects RX5 yX5_about yX5_about, Cond.code yX5_about cX5_about 3 (some .int), Cond.methodLink RX5 119 yX5_held, Cond.static yX5_held]
def wsX5_read_r5 : List Cond := [Cond.code yX5_held cX5_held 3 (some .int), Cond.methodLink RX5 123 yX5_holds, Cond.instanceMethod yX5_holds, Cond.selects RX5 yX5_holds yX5_holds, Cond.code yX5_holds cX5_holds 2 none, Cond.methodLink RX5 110 yX5_lets, Cond.instanceMethod yX5_lets, Cond.selects RX5 yX5_lets yX5_lets, Cond.code yX5_lets cX5_lets 4 none, Cond.methodLink RX5 100 yX5_doesSpeak, Cond.instanceMethod yX5_doesSpeak, Cond.selects RX5 yX5_doesSpeak yX5_doesSpeak, Cond.code yX5_doesSpeak cX5_doesSpeak 4 (some .boolean), Cond.methodLink RX5 103 yX5_lessBy, Cond.instanceMethod yX5_lessBy, Cond.selects RX5 yX5_lessBy yX5_lessBy, Cond.code yX5_lessBy cX5_lessBy 2 (some .int), Cond.methodLink RX5 142 yX5_putsBack, Cond.instanceMethod yX5_putsBack, Cond.selects RX5 yX5_putsBack yX5_putsBack, Cond.code yX5_putsBack cX5_putsBack 1 none]
def wsX5_read : List Cond := .code yX5_read cX5_read 6 (some .int) :: ((wsX5_read_r1 ++ (wsX5_read_r2 ++ (wsX5_read_r3 ++ (wsX5_read_r4 ++ wsX5_read_r5)))) ++ wsX50)
def wsX5_image : List Cond := .code yX5_image cX5_image 1 (some .int) :: ([.fieldLink RX5 9 "UnsaidRoundModel" "m" "[I", .fieldLink RX5 13 "UnsaidRoundModel" "kept" "[I", .fieldLink RX5 235 "UnsaidRoundModel" "isKept" "Z", .methodLink RX5 135 yX5_copyAll, .static yX5_copyAll, .initialized RX5, .code yX5_copyAll cX5_copyAll 3 none] ++ wsX50)
def wsX5_undo : List Cond := .code yX5_undo cX5_undo 1 (some .int) :: ([.fieldLink RX5 235 "UnsaidRoundModel" "isKept" "Z", .constant RX5 36 (-1000000004), .fieldLink RX5 13 "UnsaidRoundModel" "kept" "[I", .fieldLink RX5 9 "UnsaidRoundModel" "m" "[I", .methodLink RX5 37 yX5_finds, .instanceMethod yX5_finds, .selects RX5 yX5_finds yX5_finds, .initialized RX5, .code yX5_finds cX5_finds 2 (some .int), .fieldLink RX5 19 "UnsaidRoundModel" "found" "[I", .constant RX5 35 (-1000000001), .methodLink RX5 135 yX5_copyAll, .static yX5_copyAll, .code yX5_copyAll cX5_copyAll 3 none] ++ wsX50)
def wsX5_tear : List Cond := .code yX5_tear cX5_tear 2 (some .int) :: ([.fieldLink RX5 235 "UnsaidRoundModel" "isKept" "Z"] ++ wsX50)
def wsX5_count : List Cond := .code yX5_count cX5_count 2 (some .int) :: ([.fieldLink RX5 9 "UnsaidRoundModel" "m" "[I", .fieldLink RX5 157 "UnsaidRoundModel" "taped" "I", .constant RX5 35 (-1000000001), .methodLink RX5 151 yX5_allFlung, .instanceMethod yX5_allFlung, .selects RX5 yX5_allFlung yX5_allFlung, .initialized RX5, .code yX5_allFlung cX5_allFlung 3 (some .int), .methodLink RX5 69 yX5_about, .instanceMethod yX5_about, .selects RX5 yX5_about yX5_about, .code yX5_about cX5_about 3 (some .int), .methodLink RX5 37 yX5_finds, .instanceMethod yX5_finds, .selects RX5 yX5_finds yX5_finds, .code yX5_finds cX5_finds 2 (some .int), .fieldLink RX5 19 "UnsaidRoundModel" "found" "[I"] ++ wsX50)
def wsX5_status : List Cond := .code yX5_status cX5_status 4 (some .int) :: ([.constant RX5 35 (-1000000001), .fieldLink RX5 19 "UnsaidRoundModel" "found" "[I", .methodLink RX5 41 yX5_in, .static yX5_in, .initialized RX5, .code yX5_in cX5_in 4 (some .boolean), .methodLink RX5 37 yX5_finds, .instanceMethod yX5_finds, .selects RX5 yX5_finds yX5_finds, .code yX5_finds cX5_finds 2 (some .int)] ++ wsX50)
def wsJ9_abs_0f7a4 : List Cond := .code yJ9_abs_0f7a4 cJ9_abs_0f7a4 1 (some .int) :: ([])
def wsJ9_max_7cf53 : List Cond := .code yJ9_max_7cf53 cJ9_max_7cf53 2 (some .int) :: ([])
def wsJ9_min_7cf53 : List Cond := .code yJ9_min_7cf53 cJ9_min_7cf53 2 (some .int) :: ([])
def wsL_law_r1 : List Cond := [Cond.classLink RL 7 RX4, Cond.instantiable RX4 7, Cond.initialized RX4, Cond.classLink RL 10 RX5, Cond.instantiable RX5 15, Cond.initialized RX5, Cond.constantLong RL 137 (4294967295), Cond.methodLink RL 9 yX4_init, Cond.instanceMethod yX4_init, Cond.code yX4_init cX4_init 1 none, Cond.methodLink RX4 1 objectInit, Cond.instanceMethod objectInit, Cond.code objectInit ⟨#[0xb1]⟩ 1 none, Cond.classLink RX4 7 RX0, Cond.instantiable RX0 14, Cond.initialized RX0, Cond.fieldLink RX4 10 "UnsaidRound" "live" "LUnsaidRound$Green;", Cond.fieldLink RX4 16 "UnsaidRound" "trial" "LUnsaidRound$Green;", Cond.fieldLink RX4 19 "UnsaidRound" "kept" "LUnsaidRound$Green;", Cond.classLink RX4 22 RX3, Cond.instantiable RX3 6, Cond.initialized RX3, Cond.fieldLink RX4 25 "UnsaidRound" "tape" "LUnsaidRound$Tape;", Cond.classLink RX4 29 RX2]
def wsL_law_r2 : List Cond := [Cond.instantiable RX2 3, Cond.initialized RX2, Cond.fieldLink RX4 32 "UnsaidRound" "sheets" "LUnsaidRound$Sheets;", Cond.arrayClass .int, Cond.fieldLink RX4 36 "UnsaidRound" "findings" "[I", Cond.instanceMethod yX0_init, Cond.code yX0_init cX0_init 1 none, Cond.methodLink RX0 3 objectInit, Cond.fieldLink RX0 9 "UnsaidRound$Green" "heaviness" "I", Cond.fieldLink RX0 15 "UnsaidRound$Green" "kinds" "[I", Cond.fieldLink RX0 19 "UnsaidRound$Green" "outs" "[I", Cond.fieldLink RX0 22 "UnsaidRound$Green" "secrets" "[I", Cond.fieldLink RX0 25 "UnsaidRound$Green" "silents" "[I", Cond.fieldLink RX0 28 "UnsaidRound$Green" "grips" "[I", Cond.fieldLink RX0 31 "UnsaidRound$Green" "rides" "[I", Cond.fieldLink RX0 34 "UnsaidRound$Green" "flings" "[I", Cond.instanceMethod yX3_init, Cond.code yX3_init cX3_init 1 none, Cond.methodLink RX3 3 objectInit, Cond.fieldLink RX3 11 "UnsaidRound$Tape" "bytes" "[I", Cond.instanceMethod yX2_init, Cond.code yX2_init cX2_init 1 none, Cond.methodLink RX2 1 objectInit, Cond.fieldLink RX2 9 "UnsaidRound$Sheets" "widths" "[I"]
def wsL_law_r3 : List Cond := [Cond.fieldLink RX2 13 "UnsaidRound$Sheets" "lengths" "[I", Cond.arrayClass .long, Cond.fieldLink RX2 16 "UnsaidRound$Sheets" "numbers" "[J", Cond.methodLink RL 12 yX5_init, Cond.instanceMethod yX5_init, Cond.code yX5_init cX5_init 1 none, Cond.methodLink RX5 3 objectInit, Cond.fieldLink RX5 9 "UnsaidRoundModel" "m" "[I", Cond.fieldLink RX5 13 "UnsaidRoundModel" "kept" "[I", Cond.fieldLink RX5 16 "UnsaidRoundModel" "was" "[I", Cond.fieldLink RX5 19 "UnsaidRoundModel" "found" "[I", Cond.fieldLink RX5 22 "UnsaidRoundModel" "tape" "[I", Cond.fieldLink RX5 25 "UnsaidRoundModel" "bitsOf" "[I", Cond.fieldLink RX5 28 "UnsaidRoundModel" "sizeOf" "[I", Cond.fieldLink RX5 31 "UnsaidRoundModel" "cells" "[J", Cond.methodLink RL 13 yX4_iron, Cond.instanceMethod yX4_iron, Cond.selects RX4 yX4_iron yX4_iron, Cond.code yX4_iron cX4_iron 4 (some .int), Cond.fieldLink RX4 40 "UnsaidRound$Green" "heaviness" "I", Cond.fieldLink RX4 44 "UnsaidRound$Green" "speed" "I", Cond.constant RX4 47 (-1000000001), Cond.methodLink RX4 48 yX4_tell, Cond.instanceMethod yX4_tell]
def wsL_law_r4 : List Cond := [Cond.selects RX4 yX4_tell yX4_tell, Cond.code yX4_tell cX4_tell 3 (some .int), Cond.methodLink RL 17 yX5_iron, Cond.instanceMethod yX5_iron, Cond.selects RX5 yX5_iron yX5_iron, Cond.code yX5_iron cX5_iron 4 (some .int), Cond.constant RX5 35 (-1000000001), Cond.methodLink RX5 41 yX5_in, Cond.static yX5_in, Cond.code yX5_in cX5_in 4 (some .boolean), Cond.methodLink RX5 66 yX5_becomes, Cond.instanceMethod yX5_becomes, Cond.selects RX5 yX5_becomes yX5_becomes, Cond.code yX5_becomes cX5_becomes 4 (some .int), Cond.methodLink RX5 37 yX5_finds, Cond.instanceMethod yX5_finds, Cond.selects RX5 yX5_finds yX5_finds, Cond.code yX5_finds cX5_finds 2 (some .int), Cond.methodLink RL 18 yX4_rain, Cond.instanceMethod yX4_rain, Cond.selects RX4 yX4_rain yX4_rain, Cond.code yX4_rain cX4_rain 3 (some .int), Cond.fieldLink RX4 52 "UnsaidRound$Green" "wetParts" "I", Cond.methodLink RL 22 yX5_rain]
def wsL_law_r5 : List Cond := [Cond.instanceMethod yX5_rain, Cond.selects RX5 yX5_rain yX5_rain, Cond.code yX5_rain cX5_rain 2 (some .int), Cond.methodLink RL 23 yX4_now, Cond.instanceMethod yX4_now, Cond.selects RX4 yX4_now yX4_now, Cond.code yX4_now cX4_now 2 (some .int), Cond.fieldLink RX4 55 "UnsaidRound$Green" "minute" "I", Cond.fieldLink RX4 69 "UnsaidRound$Green" "turned" "I", Cond.methodLink RX4 58 yX0_minuteOfDay, Cond.instanceMethod yX0_minuteOfDay, Cond.selects RX0 yX0_minuteOfDay yX0_minuteOfDay, Cond.code yX0_minuteOfDay cX0_minuteOfDay 1 (some .int), Cond.fieldLink RX0 37 "UnsaidRound$Green" "minute" "I", Cond.methodLink RX4 62 yX0_isNight, Cond.instanceMethod yX0_isNight, Cond.selects RX0 yX0_isNight yX0_isNight, Cond.code yX0_isNight cX0_isNight 1 (some .boolean), Cond.methodLink RX0 61 yX0_minuteOfDay, Cond.methodLink RX4 66 yX0_isWet, Cond.instanceMethod yX0_isWet, Cond.selects RX0 yX0_isWet yX0_isWet, Cond.code yX0_isWet cX0_isWet 1 (some .boolean), Cond.fieldLink RX0 40 "UnsaidRound$Green" "wetParts" "I"]
def wsL_law_r6 : List Cond := [Cond.methodLink RX4 72 yX0_weightNow, Cond.instanceMethod yX0_weightNow, Cond.selects RX0 yX0_weightNow yX0_weightNow, Cond.code yX0_weightNow cX0_weightNow 1 (some .int), Cond.methodLink RX0 65 yX0_onCount, Cond.instanceMethod yX0_onCount, Cond.selects RX0 yX0_onCount yX0_onCount, Cond.code yX0_onCount cX0_onCount 3 (some .int), Cond.fieldLink RX0 58 "UnsaidRound$Green" "childCount" "I", Cond.methodLink RX4 75 yX0_pushNow, Cond.instanceMethod yX0_pushNow, Cond.selects RX0 yX0_pushNow yX0_pushNow, Cond.code yX0_pushNow cX0_pushNow 5 (some .int), Cond.fieldLink RX0 49 "UnsaidRound$Green" "motherCount" "I", Cond.methodLink RX0 78 yX0_isWet, Cond.methodLink RX0 82 yX0_outCount, Cond.instanceMethod yX0_outCount, Cond.selects RX0 yX0_outCount yX0_outCount, Cond.code yX0_outCount cX0_outCount 3 (some .int), Cond.methodLink RX0 85 yX0_isNight, Cond.methodLink RX0 88 yX0_keepsNow, Cond.instanceMethod yX0_keepsNow, Cond.selects RX0 yX0_keepsNow yX0_keepsNow, Cond.code yX0_keepsNow cX0_keepsNow 4 (some .int)]
def wsL_law_r7 : List Cond := [Cond.methodLink RX0 68 yX1_keeps, Cond.static yX1_keeps, Cond.initialized RX1, Cond.code yX1_keeps cX1_keeps 8 (some .int), Cond.methodLink RX4 78 yX0_outSet, Cond.instanceMethod yX0_outSet, Cond.selects RX0 yX0_outSet yX0_outSet, Cond.code yX0_outSet cX0_outSet 3 (some .int), Cond.methodLink RX4 81 yX0_onSet, Cond.instanceMethod yX0_onSet, Cond.selects RX0 yX0_onSet yX0_onSet, Cond.code yX0_onSet cX0_onSet 3 (some .int), Cond.methodLink RL 26 yX5_now, Cond.instanceMethod yX5_now, Cond.selects RX5 yX5_now yX5_now, Cond.code yX5_now cX5_now 2 (some .int), Cond.methodLink RX5 45 yX5_clock, Cond.instanceMethod yX5_clock, Cond.selects RX5 yX5_clock yX5_clock, Cond.code yX5_clock cX5_clock 1 (some .int), Cond.methodLink RX5 62 yX5_isNight, Cond.instanceMethod yX5_isNight, Cond.selects RX5 yX5_isNight yX5_isNight, Cond.code yX5_isNight cX5_isNight 1 (some .boolean)]
def wsL_law_r8 : List Cond := [Cond.methodLink RX5 78 yX5_isWet, Cond.instanceMethod yX5_isWet, Cond.selects RX5 yX5_isWet yX5_isWet, Cond.code yX5_isWet cX5_isWet 1 (some .boolean), Cond.methodLink RX5 81 yX5_weight, Cond.instanceMethod yX5_weight, Cond.selects RX5 yX5_weight yX5_weight, Cond.code yX5_weight cX5_weight 1 (some .int), Cond.methodLink RX5 72 yX5_riders, Cond.instanceMethod yX5_riders, Cond.selects RX5 yX5_riders yX5_riders, Cond.code yX5_riders cX5_riders 3 (some .int), Cond.methodLink RX5 69 yX5_about, Cond.instanceMethod yX5_about, Cond.selects RX5 yX5_about yX5_about, Cond.code yX5_about cX5_about 3 (some .int), Cond.methodLink RX5 56 yX5_bits, Cond.static yX5_bits, Cond.code yX5_bits cX5_bits 3 (some .int), Cond.methodLink RX5 84 yX5_push, Cond.instanceMethod yX5_push, Cond.selects RX5 yX5_push yX5_push, Cond.code yX5_push cX5_push 3 (some .int), Cond.methodLink RX5 49 yX5_it]
def wsL_law_r9 : List Cond := [Cond.instanceMethod yX5_it, Cond.selects RX5 yX5_it yX5_it, Cond.code yX5_it cX5_it 3 (some .int), Cond.methodLink RX5 75 yX5_keepsBack, Cond.instanceMethod yX5_keepsBack, Cond.selects RX5 yX5_keepsBack yX5_keepsBack, Cond.code yX5_keepsBack cX5_keepsBack 6 (some .int), Cond.methodLink RX5 59 yX5_others, Cond.instanceMethod yX5_others, Cond.selects RX5 yX5_others yX5_others, Cond.code yX5_others cX5_others 2 (some .int), Cond.methodLink RX5 53 yX5_outOnes, Cond.instanceMethod yX5_outOnes, Cond.selects RX5 yX5_outOnes yX5_outOnes, Cond.code yX5_outOnes cX5_outOnes 3 (some .int), Cond.methodLink RL 27 yX4_mother, Cond.instanceMethod yX4_mother, Cond.selects RX4 yX4_mother yX4_mother, Cond.code yX4_mother cX4_mother 2 (some .int), Cond.fieldLink RX4 90 "UnsaidRound$Green" "motherCount" "I", Cond.constant RX4 93 (-1000000002), Cond.methodLink RX4 84 yX1_isKind, Cond.static yX1_isKind, Cond.code yX1_isKind cX1_isKind 1 (some .boolean)]
def wsL_law_r10 : List Cond := [Cond.methodLink RX4 94 yX0_addMother, Cond.instanceMethod yX0_addMother, Cond.selects RX0 yX0_addMother yX0_addMother, Cond.code yX0_addMother cX0_addMother 5 (some .int), Cond.methodLink RL 30 yX5_mother, Cond.instanceMethod yX5_mother, Cond.selects RX5 yX5_mother yX5_mother, Cond.code yX5_mother cX5_mother 2 (some .int), Cond.constant RX5 91 (-1000000002), Cond.methodLink RX5 92 yX5_comesAs, Cond.instanceMethod yX5_comesAs, Cond.selects RX5 yX5_comesAs yX5_comesAs, Cond.code yX5_comesAs cX5_comesAs 5 (some .int), Cond.methodLink RX5 87 yX5_put, Cond.instanceMethod yX5_put, Cond.selects RX5 yX5_put yX5_put, Cond.code yX5_put cX5_put 4 none, Cond.methodLink RL 31 yX4_of, Cond.instanceMethod yX4_of, Cond.selects RX4 yX4_of yX4_of, Cond.code yX4_of cX4_of 3 (some .int), Cond.fieldLink RX4 101 "UnsaidRound$Green" "kinds" "[I", Cond.fieldLink RX4 104 "UnsaidRound$Green" "outs" "[I", Cond.fieldLink RX4 107 "UnsaidRound$Green" "secrets" "[I"]
def wsL_law_r11 : List Cond := [Cond.fieldLink RX4 110 "UnsaidRound$Green" "silents" "[I", Cond.methodLink RX4 98 yX0_hasMother, Cond.instanceMethod yX0_hasMother, Cond.selects RX0 yX0_hasMother yX0_hasMother, Cond.code yX0_hasMother cX0_hasMother 2 (some .boolean), Cond.methodLink RX4 113 yX0_outCount, Cond.methodLink RX4 116 yX0_keepsNow, Cond.methodLink RX4 120 yX0_speaksNow, Cond.instanceMethod yX0_speaksNow, Cond.selects RX0 yX0_speaksNow yX0_speaksNow, Cond.code yX0_speaksNow cX0_speaksNow 4 (some .boolean), Cond.fieldLink RX0 43 "UnsaidRound$Green" "speed" "I", Cond.methodLink RX0 74 yX1_speaks, Cond.static yX1_speaks, Cond.code yX1_speaks cX1_speaks 7 (some .boolean), Cond.methodLink RX4 124 yX1_tells, Cond.static yX1_tells, Cond.code yX1_tells cX1_tells 4 (some .int), Cond.methodLink RL 34 yX5_of, Cond.instanceMethod yX5_of, Cond.selects RX5 yX5_of yX5_of, Cond.code yX5_of cX5_of 3 (some .int), Cond.methodLink RX5 96 yX5_isMother, Cond.instanceMethod yX5_isMother]
def wsL_law_r12 : List Cond := [Cond.selects RX5 yX5_isMother yX5_isMother, Cond.code yX5_isMother cX5_isMother 2 (some .boolean), Cond.methodLink RX5 100 yX5_doesSpeak, Cond.instanceMethod yX5_doesSpeak, Cond.selects RX5 yX5_doesSpeak yX5_doesSpeak, Cond.code yX5_doesSpeak cX5_doesSpeak 4 (some .boolean), Cond.methodLink RX5 103 yX5_lessBy, Cond.instanceMethod yX5_lessBy, Cond.selects RX5 yX5_lessBy yX5_lessBy, Cond.code yX5_lessBy cX5_lessBy 2 (some .int), Cond.methodLink RL 35 yX4_set, Cond.instanceMethod yX4_set, Cond.selects RX4 yX4_set yX4_set, Cond.code yX4_set cX4_set 5 (some .int), Cond.methodLink RL 39 yX5_set, Cond.instanceMethod yX5_set, Cond.selects RX5 yX5_set yX5_set, Cond.code yX5_set cX5_set 5 (some .int), Cond.methodLink RL 40 yX4_out, Cond.instanceMethod yX4_out, Cond.selects RX4 yX4_out yX4_out, Cond.code yX4_out cX4_out 4 (some .int), Cond.methodLink RX4 127 yX0_moveMother, Cond.instanceMethod yX0_moveMother]
def wsL_law_r13 : List Cond := [Cond.selects RX0 yX0_moveMother yX0_moveMother, Cond.code yX0_moveMother cX0_moveMother 3 none, Cond.methodLink RL 43 yX5_out, Cond.instanceMethod yX5_out, Cond.selects RX5 yX5_out yX5_out, Cond.code yX5_out cX5_out 3 (some .int), Cond.methodLink RX5 106 yX5_moves, Cond.instanceMethod yX5_moves, Cond.selects RX5 yX5_moves yX5_moves, Cond.code yX5_moves cX5_moves 3 (some .int), Cond.methodLink RL 44 yX4_turn, Cond.instanceMethod yX4_turn, Cond.selects RX4 yX4_turn yX4_turn, Cond.code yX4_turn cX4_turn 4 (some .int), Cond.methodLink RL 47 yX5_turn, Cond.instanceMethod yX5_turn, Cond.selects RX5 yX5_turn yX5_turn, Cond.code yX5_turn cX5_turn 3 (some .int), Cond.methodLink RL 48 yX4_as, Cond.instanceMethod yX4_as, Cond.selects RX4 yX4_as yX4_as, Cond.code yX4_as cX4_as 3 (some .int), Cond.constant RX4 135 (-1000000003), Cond.methodLink RX4 131 yX1_isUnder]
def wsL_law_r14 : List Cond := [Cond.static yX1_isUnder, Cond.code yX1_isUnder cX1_isUnder 2 (some .boolean), Cond.methodLink RX1 9 yX1_kindAbove, Cond.static yX1_kindAbove, Cond.code yX1_kindAbove cX1_kindAbove 1 (some .int), Cond.methodLink RL 51 yX5_as, Cond.instanceMethod yX5_as, Cond.selects RX5 yX5_as yX5_as, Cond.code yX5_as cX5_as 5 (some .int), Cond.constant RX5 109 (-1000000003), Cond.methodLink RL 52 yX4_child, Cond.instanceMethod yX4_child, Cond.selects RX4 yX4_child yX4_child, Cond.code yX4_child cX4_child 2 (some .int), Cond.fieldLink RX4 136 "UnsaidRound$Green" "childCount" "I", Cond.methodLink RX4 139 yX0_addChild, Cond.instanceMethod yX0_addChild, Cond.selects RX0 yX0_addChild yX0_addChild, Cond.code yX0_addChild cX0_addChild 4 (some .int), Cond.methodLink RL 55 yX5_child, Cond.instanceMethod yX5_child, Cond.selects RX5 yX5_child yX5_child, Cond.code yX5_child cX5_child 2 (some .int), Cond.methodLink RX5 113 yX5_getsOn]
def wsL_law_r15 : List Cond := [Cond.instanceMethod yX5_getsOn, Cond.selects RX5 yX5_getsOn yX5_getsOn, Cond.code yX5_getsOn cX5_getsOn 4 (some .int), Cond.methodLink RX5 110 yX5_lets, Cond.instanceMethod yX5_lets, Cond.selects RX5 yX5_lets yX5_lets, Cond.code yX5_lets cX5_lets 4 none, Cond.methodLink RL 56 yX4_childOf, Cond.instanceMethod yX4_childOf, Cond.selects RX4 yX4_childOf yX4_childOf, Cond.code yX4_childOf cX4_childOf 3 (some .int), Cond.fieldLink RX4 146 "UnsaidRound$Green" "grips" "[I", Cond.fieldLink RX4 149 "UnsaidRound$Green" "rides" "[I", Cond.fieldLink RX4 152 "UnsaidRound$Green" "flings" "[I", Cond.methodLink RX4 143 yX0_hasChild, Cond.instanceMethod yX0_hasChild, Cond.selects RX0 yX0_hasChild yX0_hasChild, Cond.code yX0_hasChild cX0_hasChild 2 (some .boolean), Cond.methodLink RL 59 yX5_childOf, Cond.instanceMethod yX5_childOf, Cond.selects RX5 yX5_childOf yX5_childOf, Cond.code yX5_childOf cX5_childOf 3 (some .int), Cond.methodLink RX5 116 yX5_isChild, Cond.instanceMethod yX5_isChild]
def wsL_law_r16 : List Cond := [Cond.selects RX5 yX5_isChild yX5_isChild, Cond.code yX5_isChild cX5_isChild 2 (some .boolean), Cond.methodLink RL 60 yX4_grip, Cond.instanceMethod yX4_grip, Cond.selects RX4 yX4_grip yX4_grip, Cond.code yX4_grip cX4_grip 4 (some .int), Cond.methodLink RL 63 yX5_grip, Cond.instanceMethod yX5_grip, Cond.selects RX5 yX5_grip yX5_grip, Cond.code yX5_grip cX5_grip 3 (some .int), Cond.methodLink RL 64 yX4_ride, Cond.instanceMethod yX4_ride, Cond.selects RX4 yX4_ride yX4_ride, Cond.code yX4_ride cX4_ride 3 (some .int), Cond.methodLink RX4 155 yX0_onCount, Cond.methodLink RL 67 yX5_ride, Cond.instanceMethod yX5_ride, Cond.selects RX5 yX5_ride yX5_ride, Cond.code yX5_ride cX5_ride 3 (some .int), Cond.methodLink RL 68 yX4_minutes, Cond.instanceMethod yX4_minutes, Cond.selects RX4 yX4_minutes yX4_minutes, Cond.code yX4_minutes cX4_minutes 2 (some .int), Cond.constant RX4 158 (99999)]
def wsL_law_r17 : List Cond := [Cond.constant RX4 159 (-1000000005), Cond.methodLink RX4 160 yX0_passMinutes, Cond.instanceMethod yX0_passMinutes, Cond.selects RX0 yX0_passMinutes yX0_passMinutes, Cond.code yX0_passMinutes cX0_passMinutes 3 none, Cond.methodLink RX0 92 yX0_passMinute, Cond.instanceMethod yX0_passMinute, Cond.selects RX0 yX0_passMinute yX0_passMinute, Cond.code yX0_passMinute cX0_passMinute 5 none, Cond.methodLink RX0 101 Lib.Math.max.name, Cond.static Lib.Math.max.name, Cond.initialized "java/lang/Math", Cond.code Lib.Math.max.name Lib.Math.max.code 2 (some .int), Cond.methodLink RX0 107 Lib.Math.min.name, Cond.static Lib.Math.min.name, Cond.code Lib.Math.min.name Lib.Math.min.code 2 (some .int), Cond.constant RX0 110 (999999), Cond.fieldLink RX0 46 "UnsaidRound$Green" "turned" "I", Cond.methodLink RX0 95 yX0_pushNow, Cond.methodLink RX0 98 yX0_weightNow, Cond.methodLink RX0 111 yX0_tryGrips, Cond.instanceMethod yX0_tryGrips, Cond.selects RX0 yX0_tryGrips yX0_tryGrips, Cond.code yX0_tryGrips cX0_tryGrips 2 none]
def wsL_law_r18 : List Cond := [Cond.methodLink RX0 114 yX0_letSpeak, Cond.instanceMethod yX0_letSpeak, Cond.selects RX0 yX0_letSpeak yX0_letSpeak, Cond.code yX0_letSpeak cX0_letSpeak 4 none, Cond.methodLink RX0 117 yX0_speaksNow, Cond.methodLink RX0 121 yX1_tells, Cond.methodLink RL 71 yX5_minutes, Cond.instanceMethod yX5_minutes, Cond.selects RX5 yX5_minutes yX5_minutes, Cond.code yX5_minutes cX5_minutes 2 (some .int), Cond.constant RX5 130 (99999), Cond.constant RX5 131 (-1000000005), Cond.methodLink RX5 132 yX5_goesFor, Cond.instanceMethod yX5_goesFor, Cond.selects RX5 yX5_goesFor yX5_goesFor, Cond.code yX5_goesFor cX5_goesFor 3 none, Cond.methodLink RX5 127 yX5_goes, Cond.instanceMethod yX5_goes, Cond.selects RX5 yX5_goes yX5_goes, Cond.code yX5_goes cX5_goes 6 none, Cond.constant RX5 122 (999999), Cond.methodLink RX5 119 yX5_held, Cond.static yX5_held, Cond.code yX5_held cX5_held 3 (some .int)]
def wsL_law_r19 : List Cond := [Cond.methodLink RX5 123 yX5_holds, Cond.instanceMethod yX5_holds, Cond.selects RX5 yX5_holds yX5_holds, Cond.code yX5_holds cX5_holds 2 none, Cond.methodLink RL 72 yX4_on, Cond.instanceMethod yX4_on, Cond.selects RX4 yX4_on yX4_on, Cond.code yX4_on cX4_on 3 (some .int), Cond.methodLink RX4 164 yX0_become, Cond.instanceMethod yX0_become, Cond.selects RX0 yX0_become yX0_become, Cond.code yX0_become cX0_become 2 none, Cond.methodLink RX0 52 arraycopyName, Cond.native arraycopyName, Cond.static arraycopyName, Cond.initialized "java/lang/System", Cond.methodLink RL 75 yX5_on, Cond.instanceMethod yX5_on, Cond.selects RX5 yX5_on yX5_on, Cond.code yX5_on cX5_on 4 (some .int), Cond.methodLink RX5 139 yX5_thinks, Cond.instanceMethod yX5_thinks, Cond.selects RX5 yX5_thinks yX5_thinks, Cond.code yX5_thinks cX5_thinks 1 none]
def wsL_law_r20 : List Cond := [Cond.methodLink RX5 135 yX5_copyAll, Cond.static yX5_copyAll, Cond.code yX5_copyAll cX5_copyAll 3 none, Cond.methodLink RX5 142 yX5_putsBack, Cond.instanceMethod yX5_putsBack, Cond.selects RX5 yX5_putsBack yX5_putsBack, Cond.code yX5_putsBack cX5_putsBack 1 none, Cond.methodLink RL 76 yX4_then, Cond.instanceMethod yX4_then, Cond.selects RX4 yX4_then yX4_then, Cond.code yX4_then cX4_then 4 (some .int), Cond.methodLink RL 79 yX5_then, Cond.instanceMethod yX5_then, Cond.selects RX5 yX5_then yX5_then, Cond.code yX5_then cX5_then 5 (some .int), Cond.methodLink RL 80 yX4_quick, Cond.instanceMethod yX4_quick, Cond.selects RX4 yX4_quick yX4_quick, Cond.code yX4_quick cX4_quick 3 (some .int), Cond.constant RX4 171 (-1000000004), Cond.methodLink RX4 168 yX0_passMinute, Cond.methodLink RL 83 yX5_quick, Cond.instanceMethod yX5_quick, Cond.selects RX5 yX5_quick yX5_quick]
def wsL_law_r21 : List Cond := [Cond.code yX5_quick cX5_quick 3 (some .int), Cond.constant RX5 36 (-1000000004), Cond.methodLink RL 84 yX4_stands, Cond.instanceMethod yX4_stands, Cond.selects RX4 yX4_stands yX4_stands, Cond.code yX4_stands cX4_stands 2 (some .int), Cond.methodLink RL 88 yX5_stands, Cond.instanceMethod yX5_stands, Cond.selects RX5 yX5_stands yX5_stands, Cond.code yX5_stands cX5_stands 2 (some .int), Cond.methodLink RL 89 yX4_flung, Cond.instanceMethod yX4_flung, Cond.selects RX4 yX4_flung yX4_flung, Cond.code yX4_flung cX4_flung 3 (some .int), Cond.methodLink RL 92 yX5_flung, Cond.instanceMethod yX5_flung, Cond.selects RX5 yX5_flung yX5_flung, Cond.code yX5_flung cX5_flung 4 (some .int), Cond.methodLink RL 93 yX4_send, Cond.instanceMethod yX4_send, Cond.selects RX4 yX4_send yX4_send, Cond.code yX4_send cX4_send 5 (some .int), Cond.methodLink RX4 172 yX4_isNear, Cond.static yX4_isNear]
def wsL_law_r22 : List Cond := [Cond.code yX4_isNear cX4_isNear 1 (some .boolean), Cond.methodLink RL 96 yX5_send, Cond.instanceMethod yX5_send, Cond.selects RX5 yX5_send yX5_send, Cond.code yX5_send cX5_send 8 (some .int), Cond.methodLink RX5 145 yX5_turnedOn, Cond.instanceMethod yX5_turnedOn, Cond.selects RX5 yX5_turnedOn yX5_turnedOn, Cond.code yX5_turnedOn cX5_turnedOn 3 (some .int), Cond.methodLink RX5 148 yX5_orNone, Cond.instanceMethod yX5_orNone, Cond.selects RX5 yX5_orNone yX5_orNone, Cond.code yX5_orNone cX5_orNone 2 (some .int), Cond.methodLink RL 97 yX4_kind, Cond.instanceMethod yX4_kind, Cond.selects RX4 yX4_kind yX4_kind, Cond.code yX4_kind cX4_kind 6 (some .int), Cond.methodLink RL 100 yX5_kind, Cond.instanceMethod yX5_kind, Cond.selects RX5 yX5_kind yX5_kind, Cond.code yX5_kind cX5_kind 7 (some .int), Cond.methodLink RL 101 yX4_firm, Cond.instanceMethod yX4_firm, Cond.selects RX4 yX4_firm yX4_firm]
def wsL_law_r23 : List Cond := [Cond.code yX4_firm cX4_firm 7 (some .int), Cond.methodLink RX4 175 yX4_holdsWith, Cond.instanceMethod yX4_holdsWith, Cond.selects RX4 yX4_holdsWith yX4_holdsWith, Cond.code yX4_holdsWith cX4_holdsWith 4 (some .boolean), Cond.methodLink RL 104 yX5_firm, Cond.instanceMethod yX5_firm, Cond.selects RX5 yX5_firm yX5_firm, Cond.code yX5_firm cX5_firm 6 (some .int), Cond.methodLink RL 105 yX4_heavy, Cond.instanceMethod yX4_heavy, Cond.selects RX4 yX4_heavy yX4_heavy, Cond.code yX4_heavy cX4_heavy 4 (some .int), Cond.methodLink RX4 179 yX0_flingsOfAll, Cond.instanceMethod yX0_flingsOfAll, Cond.selects RX0 yX0_flingsOfAll yX0_flingsOfAll, Cond.code yX0_flingsOfAll cX0_flingsOfAll 3 (some .int), Cond.methodLink RL 108 yX5_heavy, Cond.instanceMethod yX5_heavy, Cond.selects RX5 yX5_heavy yX5_heavy, Cond.code yX5_heavy cX5_heavy 5 (some .int), Cond.methodLink RX5 151 yX5_allFlung, Cond.instanceMethod yX5_allFlung, Cond.selects RX5 yX5_allFlung yX5_allFlung]
def wsL_law_r24 : List Cond := [Cond.code yX5_allFlung cX5_allFlung 3 (some .int), Cond.methodLink RL 109 yX4_fewest, Cond.instanceMethod yX4_fewest, Cond.selects RX4 yX4_fewest yX4_fewest, Cond.code yX4_fewest cX4_fewest 8 (some .int), Cond.methodLink RX4 182 yJ6_bitCount_0f7a4, Cond.static yJ6_bitCount_0f7a4, Cond.initialized RJ6, Cond.code yJ6_bitCount_0f7a4 cJ6_bitCount_0f7a4 1 (some .int), Cond.constant RJ6 265 (1431655765), Cond.constant RJ6 266 (858993459), Cond.constant RJ6 267 (252645135), Cond.methodLink RX4 187 yX4_pushWith, Cond.instanceMethod yX4_pushWith, Cond.selects RX4 yX4_pushWith yX4_pushWith, Cond.code yX4_pushWith cX4_pushWith 3 (some .int), Cond.methodLink RL 112 yX5_fewest, Cond.instanceMethod yX5_fewest, Cond.selects RX5 yX5_fewest yX5_fewest, Cond.code yX5_fewest cX5_fewest 5 (some .int), Cond.methodLink RX5 154 yX5_pushWith, Cond.instanceMethod yX5_pushWith, Cond.selects RX5 yX5_pushWith yX5_pushWith, Cond.code yX5_pushWith cX5_pushWith 4 (some .int)]
def wsL_law_r25 : List Cond := [Cond.methodLink RL 113 yX4_weather, Cond.instanceMethod yX4_weather, Cond.selects RX4 yX4_weather yX4_weather, Cond.code yX4_weather cX4_weather 7 (some .int), Cond.methodLink RX4 190 Lib.Math.abs.name, Cond.static Lib.Math.abs.name, Cond.code Lib.Math.abs.name Lib.Math.abs.code 1 (some .int), Cond.methodLink RL 116 yX5_weather, Cond.instanceMethod yX5_weather, Cond.selects RX5 yX5_weather yX5_weather, Cond.code yX5_weather cX5_weather 7 (some .int), Cond.methodLink RL 117 yX4_deepest, Cond.instanceMethod yX4_deepest, Cond.selects RX4 yX4_deepest yX4_deepest, Cond.code yX4_deepest cX4_deepest 8 (some .int), Cond.methodLink RL 120 yX5_deepest, Cond.instanceMethod yX5_deepest, Cond.selects RX5 yX5_deepest yX5_deepest, Cond.code yX5_deepest cX5_deepest 4 (some .int), Cond.methodLink RL 121 yX4_feed, Cond.instanceMethod yX4_feed, Cond.selects RX4 yX4_feed yX4_feed, Cond.code yX4_feed cX4_feed 4 (some .int), Cond.fieldLink RX4 195 "UnsaidRound$Tape" "length" "I"]
def wsL_law_r26 : List Cond := [Cond.fieldLink RX4 198 "UnsaidRound$Tape" "bytes" "[I", Cond.methodLink RL 124 yX5_feed, Cond.instanceMethod yX5_feed, Cond.selects RX5 yX5_feed yX5_feed, Cond.code yX5_feed cX5_feed 4 (some .int), Cond.fieldLink RX5 157 "UnsaidRoundModel" "taped" "I", Cond.methodLink RL 125 yX4_wipe, Cond.instanceMethod yX4_wipe, Cond.selects RX4 yX4_wipe yX4_wipe, Cond.code yX4_wipe cX4_wipe 2 (some .int), Cond.methodLink RL 128 yX5_wipe, Cond.instanceMethod yX5_wipe, Cond.selects RX5 yX5_wipe yX5_wipe, Cond.code yX5_wipe cX5_wipe 2 (some .int), Cond.methodLink RL 129 yX4_green, Cond.instanceMethod yX4_green, Cond.selects RX4 yX4_green yX4_green, Cond.code yX4_green cX4_green 2 (some .int), Cond.methodLink RX4 201 yX3_addItems, Cond.instanceMethod yX3_addItems, Cond.selects RX3 yX3_addItems yX3_addItems, Cond.code yX3_addItems cX3_addItems 3 (some .int), Cond.fieldLink RX3 15 "UnsaidRound$Tape" "behind" "I", Cond.fieldLink RX3 26 "UnsaidRound$Tape" "start" "I"]
def wsL_law_r27 : List Cond := [Cond.fieldLink RX3 29 "UnsaidRound$Tape" "sort" "I", Cond.methodLink RX3 19 yX3_advance, Cond.instanceMethod yX3_advance, Cond.selects RX3 yX3_advance yX3_advance, Cond.code yX3_advance cX3_advance 3 none, Cond.fieldLink RX3 126 "UnsaidRound$Tape" "length" "I", Cond.fieldLink RX3 89 "UnsaidRound$Tape" "number" "I", Cond.methodLink RX3 131 Lib.Math.min.name, Cond.methodLink RX3 118 yX3_byteAt, Cond.instanceMethod yX3_byteAt, Cond.selects RX3 yX3_byteAt yX3_byteAt, Cond.code yX3_byteAt cX3_byteAt 2 (some .int), Cond.methodLink RX3 128 yX3_sortOf, Cond.static yX3_sortOf, Cond.code yX3_sortOf cX3_sortOf 1 (some .int), Cond.methodLink RX3 22 yX3_takeItem, Cond.instanceMethod yX3_takeItem, Cond.selects RX3 yX3_takeItem yX3_takeItem, Cond.code yX3_takeItem cX3_takeItem 3 (some .boolean), Cond.methodLink RX3 32 yX3_kindNamed, Cond.instanceMethod yX3_kindNamed, Cond.selects RX3 yX3_kindNamed yX3_kindNamed, Cond.code yX3_kindNamed cX3_kindNamed 1 (some .int), Cond.methodLink RX3 42 yX3_isWord]
def wsL_law_r28 : List Cond := [Cond.instanceMethod yX3_isWord, Cond.selects RX3 yX3_isWord yX3_isWord, Cond.code yX3_isWord cX3_isWord 3 (some .boolean), Cond.methodLink RX3 113 yJ0_length_8abf5, Cond.instanceMethod yJ0_length_8abf5, Cond.selects RJ0 yJ0_length_8abf5 yJ0_length_8abf5, Cond.initialized RJ0, Cond.code yJ0_length_8abf5 cJ0_length_8abf5 1 (some .int), Cond.fieldLink RJ0 9 "java/lang/String" "value" "[B", Cond.methodLink RJ0 335 yJ0_coder_7d493, Cond.instanceMethod yJ0_coder_7d493, Cond.selects RJ0 yJ0_coder_7d493 yJ0_coder_7d493, Cond.code yJ0_coder_7d493 cJ0_coder_7d493 1 (some .byte), Cond.fieldLink RJ0 38 "java/lang/String" "COMPACT_STRINGS" "Z", Cond.fieldLink RJ0 15 "java/lang/String" "coder" "B", Cond.methodLink RX3 122 yJ0_charAt_5068e, Cond.instanceMethod yJ0_charAt_5068e, Cond.selects RJ0 yJ0_charAt_5068e yJ0_charAt_5068e, Cond.code yJ0_charAt_5068e cJ0_charAt_5068e 2 (some .char), Cond.methodLink RJ0 492 yJ0_isLatin1_aae02, Cond.instanceMethod yJ0_isLatin1_aae02, Cond.selects RJ0 yJ0_isLatin1_aae02 yJ0_isLatin1_aae02, Cond.code yJ0_isLatin1_aae02 cJ0_isLatin1_aae02 1 (some .boolean), Cond.methodLink RJ0 495 yJ1_charAt_3b067]
def wsL_law_r29 : List Cond := [Cond.static yJ1_charAt_3b067, Cond.initialized RJ1, Cond.code yJ1_charAt_3b067 cJ1_charAt_3b067 2 (some .char), Cond.methodLink RJ1 9 yJ0_checkIndex_df160, Cond.static yJ0_checkIndex_df160, Cond.code yJ0_checkIndex_df160 cJ0_checkIndex_df160 2 none, Cond.fieldLink RJ0 1053 "jdk/internal/util/Preconditions" "SIOOBE_FORMATTER" "Ljava/util/function/BiFunction;", Cond.methodLink RJ0 1059 yJ3_checkIndex_8e157, Cond.static yJ3_checkIndex_8e157, Cond.initialized RJ3, Cond.code yJ3_checkIndex_8e157 cJ3_checkIndex_8e157 3 (some .int), Cond.methodLink RJ0 498 yJ2_charAt_3b067, Cond.static yJ2_charAt_3b067, Cond.initialized RJ2, Cond.code yJ2_charAt_3b067 cJ2_charAt_3b067 2 (some .char), Cond.methodLink RJ2 67 yJ2_checkIndex_2214a, Cond.static yJ2_checkIndex_2214a, Cond.code yJ2_checkIndex_2214a cJ2_checkIndex_2214a 2 none, Cond.methodLink RJ2 48 yJ2_length_9d52b, Cond.static yJ2_length_9d52b, Cond.code yJ2_length_9d52b cJ2_length_9d52b 1 (some .int), Cond.methodLink RJ2 414 yJ0_checkIndex_df160, Cond.methodLink RJ2 71 yJ2_getChar_3b067, Cond.static yJ2_getChar_3b067]
def wsL_law_r30 : List Cond := [Cond.code yJ2_getChar_3b067 cJ2_getChar_3b067 2 (some .char), Cond.fieldLink RJ2 44 "java/lang/StringUTF16" "$assertionsDisabled" "Z", Cond.fieldLink RJ2 59 "java/lang/StringUTF16" "HI_BYTE_SHIFT" "I", Cond.fieldLink RJ2 63 "java/lang/StringUTF16" "LO_BYTE_SHIFT" "I", Cond.methodLink RX3 36 yX3_takeMother, Cond.instanceMethod yX3_takeMother, Cond.selects RX3 yX3_takeMother yX3_takeMother, Cond.code yX3_takeMother cX3_takeMother 5 (some .boolean), Cond.fieldLink RX3 78 "UnsaidRound$Green" "motherCount" "I", Cond.methodLink RX3 85 yX3_takeNumber, Cond.instanceMethod yX3_takeNumber, Cond.selects RX3 yX3_takeNumber yX3_takeNumber, Cond.code yX3_takeNumber cX3_takeNumber 3 (some .boolean), Cond.methodLink RX3 94 yX0_addMother, Cond.methodLink RX3 46 yX3_takeChild, Cond.instanceMethod yX3_takeChild, Cond.selects RX3 yX3_takeChild yX3_takeChild, Cond.code yX3_takeChild cX3_takeChild 4 (some .boolean), Cond.fieldLink RX3 98 "UnsaidRound$Green" "childCount" "I", Cond.methodLink RX3 103 yX0_addChild, Cond.methodLink RX3 51 yX3_takeWet, Cond.instanceMethod yX3_takeWet, Cond.selects RX3 yX3_takeWet yX3_takeWet, Cond.code yX3_takeWet cX3_takeWet 2 (some .boolean)]
def wsL_law_r31 : List Cond := [Cond.fieldLink RX3 107 "UnsaidRound$Green" "wetParts" "I", Cond.methodLink RX3 56 yX3_takeDry, Cond.instanceMethod yX3_takeDry, Cond.selects RX3 yX3_takeDry yX3_takeDry, Cond.code yX3_takeDry cX3_takeDry 2 (some .boolean), Cond.methodLink RX3 61 yX3_takeHeavy, Cond.instanceMethod yX3_takeHeavy, Cond.selects RX3 yX3_takeHeavy yX3_takeHeavy, Cond.code yX3_takeHeavy cX3_takeHeavy 2 (some .boolean), Cond.fieldLink RX3 110 "UnsaidRound$Green" "heaviness" "I", Cond.methodLink RL 132 yX5_green, Cond.instanceMethod yX5_green, Cond.selects RX5 yX5_green yX5_green, Cond.code yX5_green cX5_green 2 (some .int), Cond.fieldLink RX5 167 "UnsaidRoundModel" "at" "I", Cond.fieldLink RX5 187 "UnsaidRoundModel" "bad" "Z", Cond.fieldLink RX5 181 "UnsaidRoundModel" "token" "I", Cond.fieldLink RX5 164 "UnsaidRoundModel" "begin" "I", Cond.methodLink RX5 191 yX5_reads, Cond.instanceMethod yX5_reads, Cond.selects RX5 yX5_reads yX5_reads, Cond.code yX5_reads cX5_reads 1 none, Cond.fieldLink RX5 178 "UnsaidRoundModel" "value" "I", Cond.methodLink RX5 174 yX5_isByte]
def wsL_law_r32 : List Cond := [Cond.instanceMethod yX5_isByte, Cond.selects RX5 yX5_isByte yX5_isByte, Cond.code yX5_isByte cX5_isByte 4 (some .boolean), Cond.methodLink RX5 184 yX5_wordHere, Cond.instanceMethod yX5_wordHere, Cond.selects RX5 yX5_wordHere yX5_wordHere, Cond.code yX5_wordHere cX5_wordHere 2 (some .int), Cond.methodLink RX5 170 yX5_isName, Cond.instanceMethod yX5_isName, Cond.selects RX5 yX5_isName yX5_isName, Cond.code yX5_isName cX5_isName 5 (some .boolean), Cond.fieldLink RX5 161 "UnsaidRoundModel" "NAMES" "[I", Cond.methodLink RX5 213 yX5_item, Cond.instanceMethod yX5_item, Cond.selects RX5 yX5_item yX5_item, Cond.code yX5_item cX5_item 1 none, Cond.methodLink RX5 204 yX5_motherItem, Cond.instanceMethod yX5_motherItem, Cond.selects RX5 yX5_motherItem yX5_motherItem, Cond.code yX5_motherItem cX5_motherItem 5 none, Cond.methodLink RX5 200 yX5_perhaps, Cond.instanceMethod yX5_perhaps, Cond.selects RX5 yX5_perhaps yX5_perhaps, Cond.code yX5_perhaps cX5_perhaps 5 (some .int)]
def wsL_law_r33 : List Cond := [Cond.methodLink RX5 194 yX5_passes, Cond.instanceMethod yX5_passes, Cond.selects RX5 yX5_passes yX5_passes, Cond.code yX5_passes cX5_passes 2 (some .boolean), Cond.methodLink RX5 197 yX5_number, Cond.instanceMethod yX5_number, Cond.selects RX5 yX5_number yX5_number, Cond.code yX5_number cX5_number 4 (some .int), Cond.methodLink RX5 207 yX5_childItem, Cond.instanceMethod yX5_childItem, Cond.selects RX5 yX5_childItem yX5_childItem, Cond.code yX5_childItem cX5_childItem 4 none, Cond.methodLink RX5 210 yX5_rainItem, Cond.instanceMethod yX5_rainItem, Cond.selects RX5 yX5_rainItem yX5_rainItem, Cond.code yX5_rainItem cX5_rainItem 3 none, Cond.methodLink RL 133 yX4_sheet, Cond.instanceMethod yX4_sheet, Cond.selects RX4 yX4_sheet yX4_sheet, Cond.code yX4_sheet cX4_sheet 4 (some .int), Cond.constant RX4 208 (-1000000007), Cond.methodLink RX4 205 yX2_isSheet, Cond.instanceMethod yX2_isSheet, Cond.selects RX2 yX2_isSheet yX2_isSheet]
def wsL_law_r34 : List Cond := [Cond.code yX2_isSheet cX2_isSheet 2 (some .boolean), Cond.methodLink RX4 209 yX2_lay, Cond.instanceMethod yX2_lay, Cond.selects RX2 yX2_lay yX2_lay, Cond.code yX2_lay cX2_lay 5 (some .int), Cond.methodLink RL 136 yX5_sheet, Cond.instanceMethod yX5_sheet, Cond.selects RX5 yX5_sheet yX5_sheet, Cond.code yX5_sheet cX5_sheet 5 (some .int), Cond.constant RX5 219 (-1000000007), Cond.methodLink RX5 216 yX5_isSheet, Cond.static yX5_isSheet, Cond.code yX5_isSheet cX5_isSheet 1 (some .boolean), Cond.methodLink RL 139 yX4_write, Cond.instanceMethod yX4_write, Cond.selects RX4 yX4_write yX4_write, Cond.code yX4_write cX4_write 7 (some .long), Cond.constant RX4 215 (-1000000006), Cond.fieldLink RX4 216 "UnsaidRound$Sheets" "lengths" "[I", Cond.methodLink RX4 212 yX2_isMissing, Cond.instanceMethod yX2_isMissing, Cond.selects RX2 yX2_isMissing yX2_isMissing, Cond.code yX2_isMissing cX2_isMissing 2 (some .boolean), Cond.methodLink RX4 219 yX2_numberAt]
def wsL_law_r35 : List Cond := [Cond.instanceMethod yX2_numberAt, Cond.selects RX2 yX2_numberAt yX2_numberAt, Cond.code yX2_numberAt cX2_numberAt 3 (some .long), Cond.methodLink RX4 223 yX2_put, Cond.instanceMethod yX2_put, Cond.selects RX2 yX2_put yX2_put, Cond.code yX2_put cX2_put 7 none, Cond.methodLink RL 143 yX5_write, Cond.instanceMethod yX5_write, Cond.selects RX5 yX5_write yX5_write, Cond.code yX5_write cX5_write 8 (some .long), Cond.methodLink RX5 221 yX5_notThere, Cond.instanceMethod yX5_notThere, Cond.selects RX5 yX5_notThere yX5_notThere, Cond.code yX5_notThere cX5_notThere 2 (some .int), Cond.constant RX5 220 (-1000000006), Cond.methodLink RX5 224 yX5_cutTo, Cond.static yX5_cutTo, Cond.code yX5_cutTo cX5_cutTo 3 (some .long), Cond.methodLink RL 144 yX4_copy, Cond.instanceMethod yX4_copy, Cond.selects RX4 yX4_copy yX4_copy, Cond.code yX4_copy cX4_copy 6 (some .int), Cond.fieldLink RX4 227 "UnsaidRound$Sheets" "widths" "[I"]
def wsL_law_r36 : List Cond := [Cond.methodLink RX4 230 yX2_hasRange, Cond.instanceMethod yX2_hasRange, Cond.selects RX2 yX2_hasRange yX2_hasRange, Cond.code yX2_hasRange cX2_hasRange 4 (some .boolean), Cond.methodLink RX4 233 yX2_move, Cond.instanceMethod yX2_move, Cond.selects RX2 yX2_move yX2_move, Cond.code yX2_move cX2_move 6 none, Cond.methodLink RX2 20 arraycopyName, Cond.methodLink RL 148 yX5_copy, Cond.instanceMethod yX5_copy, Cond.selects RX5 yX5_copy yX5_copy, Cond.code yX5_copy cX5_copy 9 (some .int), Cond.methodLink RX5 228 yX5_notCopied, Cond.instanceMethod yX5_notCopied, Cond.selects RX5 yX5_notCopied yX5_notCopied, Cond.code yX5_notCopied cX5_notCopied 7 (some .int), Cond.methodLink RL 149 yX4_lays, Cond.instanceMethod yX4_lays, Cond.selects RX4 yX4_lays yX4_lays, Cond.code yX4_lays cX4_lays 6 (some .int), Cond.constantLong RX4 237 (99), Cond.methodLink RL 152 yX5_lays, Cond.instanceMethod yX5_lays]
def wsL_law_r37 : List Cond := [Cond.selects RX5 yX5_lays yX5_lays, Cond.code yX5_lays cX5_lays 5 (some .int), Cond.methodLink RL 153 yX4_book, Cond.instanceMethod yX4_book, Cond.selects RX4 yX4_book yX4_book, Cond.code yX4_book cX4_book 3 (some .int), Cond.methodLink RL 156 yX5_book, Cond.instanceMethod yX5_book, Cond.selects RX5 yX5_book yX5_book, Cond.code yX5_book cX5_book 4 (some .int), Cond.methodLink RL 157 yX4_read, Cond.instanceMethod yX4_read, Cond.selects RX4 yX4_read yX4_read, Cond.code yX4_read cX4_read 6 (some .int), Cond.methodLink RX4 239 yX4_turnsAsTold, Cond.instanceMethod yX4_turnsAsTold, Cond.selects RX4 yX4_turnsAsTold yX4_turnsAsTold, Cond.code yX4_turnsAsTold cX4_turnsAsTold 6 (some .boolean), Cond.methodLink RL 160 yX5_read, Cond.instanceMethod yX5_read, Cond.selects RX5 yX5_read yX5_read, Cond.code yX5_read cX5_read 6 (some .int), Cond.methodLink RX5 232 yX5_isBook, Cond.instanceMethod yX5_isBook]
def wsL_law_r38 : List Cond := [Cond.selects RX5 yX5_isBook yX5_isBook, Cond.code yX5_isBook cX5_isBook 4 (some .boolean), Cond.methodLink RL 161 yX4_image, Cond.instanceMethod yX4_image, Cond.selects RX4 yX4_image yX4_image, Cond.code yX4_image cX4_image 1 (some .int), Cond.fieldLink RX4 243 "UnsaidRound" "isKept" "Z", Cond.methodLink RL 164 yX5_image, Cond.instanceMethod yX5_image, Cond.selects RX5 yX5_image yX5_image, Cond.code yX5_image cX5_image 1 (some .int), Cond.fieldLink RX5 235 "UnsaidRoundModel" "isKept" "Z", Cond.methodLink RL 165 yX4_undo, Cond.instanceMethod yX4_undo, Cond.selects RX4 yX4_undo yX4_undo, Cond.code yX4_undo cX4_undo 1 (some .int), Cond.methodLink RL 168 yX5_undo, Cond.instanceMethod yX5_undo, Cond.selects RX5 yX5_undo yX5_undo, Cond.code yX5_undo cX5_undo 1 (some .int), Cond.methodLink RL 169 yX4_tear, Cond.instanceMethod yX4_tear, Cond.selects RX4 yX4_tear yX4_tear, Cond.code yX4_tear cX4_tear 2 (some .int)]
def wsL_law_r39 : List Cond := [Cond.methodLink RL 172 yX5_tear, Cond.instanceMethod yX5_tear, Cond.selects RX5 yX5_tear yX5_tear, Cond.code yX5_tear cX5_tear 2 (some .int), Cond.methodLink RL 173 yX4_count, Cond.instanceMethod yX4_count, Cond.selects RX4 yX4_count yX4_count, Cond.code yX4_count cX4_count 2 (some .int), Cond.methodLink RL 176 yX5_count, Cond.instanceMethod yX5_count, Cond.selects RX5 yX5_count yX5_count, Cond.code yX5_count cX5_count 2 (some .int), Cond.methodLink RL 177 yX4_status, Cond.instanceMethod yX4_status, Cond.selects RX4 yX4_status yX4_status, Cond.code yX4_status cX4_status 4 (some .int), Cond.methodLink RL 180 yX5_status, Cond.instanceMethod yX5_status, Cond.selects RX5 yX5_status yX5_status, Cond.code yX5_status cX5_status 4 (some .int)]
def wsL_law : List Cond := (wsL_law_r1 ++ (wsL_law_r2 ++ (wsL_law_r3 ++ (wsL_law_r4 ++ (wsL_law_r5 ++ (wsL_law_r6 ++ (wsL_law_r7 ++ (wsL_law_r8 ++ (wsL_law_r9 ++ (wsL_law_r10 ++ (wsL_law_r11 ++ (wsL_law_r12 ++ (wsL_law_r13 ++ (wsL_law_r14 ++ (wsL_law_r15 ++ (wsL_law_r16 ++ (wsL_law_r17 ++ (wsL_law_r18 ++ (wsL_law_r19 ++ (wsL_law_r20 ++ (wsL_law_r21 ++ (wsL_law_r22 ++ (wsL_law_r23 ++ (wsL_law_r24 ++ (wsL_law_r25 ++ (wsL_law_r26 ++ (wsL_law_r27 ++ (wsL_law_r28 ++ (wsL_law_r29 ++ (wsL_law_r30 ++ (wsL_law_r31 ++ (wsL_law_r32 ++ (wsL_law_r33 ++ (wsL_law_r34 ++ (wsL_law_r35 ++ (wsL_law_r36 ++ (wsL_law_r37 ++ (wsL_law_r38 ++ wsL_law_r39)))))))))))))))))))))))))))))))))))))) ++ wsX40 ++ wsX50 ++ wsX00 ++ wsX30 ++ wsX20 ++ ([] : List Cond)
abbrev vwCl : List vw_C := [(RX0, TX0, 14), (RX2, TX2, 3), (RX3, TX3, 6), (RX4, TX4, 7), (RX5, TX5, 15)]
end
section
theorem dX0_init_0 : decode cX0_init 0 = .ok (.aload_n 0, 1) := by decide +kernel
theorem dX0_init_1 : decode cX0_init 1 = .ok (.invokespecial 3, 3) := by decide +kernel
theorem dX0_init_4 : decode cX0_init 4 = .ok (.aload_n 0, 1) := by decide +kernel
theorem dX0_init_5 : decode cX0_init 5 = .ok (.bipush 10, 2) := by decide +kernel
theorem dX0_init_7 : decode cX0_init 7 = .ok (.putfield 9, 3) := by decide +kernel
theorem dX0_init_10 : decode cX0_init 10 = .ok (.aload_n 0, 1) := by decide +kernel
theorem dX0_init_11 : decode cX0_init 11 = .ok (.bipush 8, 2) := by decide +kernel
theorem dX0_init_13 : decode cX0_init 13 = .ok (.newarray .int, 2) := by decide +kernel
theorem dX0_init_15 : decode cX0_init 15 = .ok (.putfield 15, 3) := by decide +kernel
theorem dX0_init_18 : decode cX0_init 18 = .ok (.aload_n 0, 1) := by decide +kernel
theorem dX0_init_19 : decode cX0_init 19 = .ok (.bipush 8, 2) := by decide +kernel
theorem dX0_init_21 : decode cX0_init 21 = .ok (.newarray .int, 2) := by decide +kernel
theorem dX0_init_23 : decode cX0_init 23 = .ok (.putfield 19, 3) := by decide +kernel
theorem dX0_init_26 : decode cX0_init 26 = .ok (.aload_n 0, 1) := by decide +kernel
theorem dX0_init_27 : decode cX0_init 27 = .ok (.bipush 8, 2) := by decide +kernel
theorem dX0_init_29 : decode cX0_init 29 = .ok (.newarray .int, 2) := by decide +kernel
theorem dX0_init_31 : decode cX0_init 31 = .ok (.putfield 22, 3) := by decide +kernel
theorem dX0_init_34 : decode cX0_init 34 = .ok (.aload_n 0, 1) := by decide +kernel
theorem dX0_init_35 : decode cX0_init 35 = .ok (.bipush 8, 2) := by decide +kernel
theorem dX0_init_37 : decode cX0_init 37 = .ok (.newarray .int, 2) := by decide +kernel
theorem dX0_init_39 : decode cX0_init 39 = .ok (.putfield 25, 3) := by decide +kernel
theorem dX0_init_42 : decode cX0_init 42 = .ok (.aload_n 0, 1) := by decide +kernel
theorem dX0_init_43 : decode cX0_init 43 = .ok (.bipush 6, 2) := by decide +kernel
theorem dX0_init_45 : decode cX0_init 45 = .ok (.newarray .int, 2) := by decide +kernel
theorem dX0_init_47 : decode cX0_init 47 = .ok (.putfield 28, 3) := by decide +kernel
theorem dX0_init_50 : decode cX0_init 50 = .ok (.aload_n 0, 1) := by decide +kernel
theorem dX0_init_51 : decode cX0_init 51 = .ok (.bipush 6, 2) := by decide +kernel
theorem dX0_init_53 : decode cX0_init 53 = .ok (.newarray .int, 2) := by decide +kernel
theorem dX0_init_55 : decode cX0_init 55 = .ok (.putfield 31, 3) := by decide +kernel
theorem dX0_init_58 : decode cX0_init 58 = .ok (.aload_n 0, 1) := by decide +kernel
theorem dX0_init_59 : decode cX0_init 59 = .ok (.bipush 6, 2) := by decide +kernel
theorem dX0_init_61 : decode cX0_init 61 = .ok (.newarray .int, 2) := by decide +kernel
theorem dX0_init_63 : decode cX0_init 63 = .ok (.putfield 34, 3) := by decide +kernel
theorem dX0_init_66 : decode cX0_init 66 = .ok (.return_, 1) := by decide +kernel
theorem dX0_become_0 : decode cX0_become 0 = .ok (.aload_n 0, 1) := by decide +kernel
theorem dX0_become_1 : decode cX0_become 1 = .ok (.aload_n 1, 1) := by decide +kernel
theorem dX0_become_2 : decode cX0_become 2 = .ok (.getfield 37, 3) := by decide +kernel
theorem dX0_become_5 : decode cX0_become 5 = .ok (.putfield 37, 3) := by decide +kernel
theorem dX0_become_8 : decode cX0_become 8 = .ok (.aload_n 0, 1) := by decide +kernel
theorem dX0_become_9 : decode cX0_become 9 = .ok (.aload_n 1, 1) := by decide +kernel
theorem dX0_become_10 : decode cX0_become 10 = .ok (.getfield 40, 3) := by decide +kernel
theorem dX0_become_13 : decode cX0_become 13 = .ok (.putfield 40, 3) := by decide +kernel
theorem dX0_become_16 : decode cX0_become 16 = .ok (.aload_n 0, 1) := by decide +kernel
theorem dX0_become_17 : decode cX0_become 17 = .ok (.aload_n 1, 1) := by decide +kernel
theorem dX0_become_18 : decode cX0_become 18 = .ok (.getfield 9, 3) := by decide +kernel
theorem dX0_become_21 : decode cX0_become 21 = .ok (.putfield 9, 3) := by decide +kernel
theorem dX0_become_24 : decode cX0_become 24 = .ok (.aload_n 0, 1) := by decide +kernel
theorem dX0_become_25 : decode cX0_become 25 = .ok (.aload_n 1, 1) := by decide +kernel
theorem dX0_become_26 : decode cX0_become 26 = .ok (.getfield 43, 3) := by decide +kernel
theorem dX0_become_29 : decode cX0_become 29 = .ok (.putfield 43, 3) := by decide +kernel
theorem dX0_become_32 : decode cX0_become 32 = .ok (.aload_n 0, 1) := by decide +kernel
theorem dX0_become_33 : decode cX0_become 33 = .ok (.aload_n 1, 1) := by decide +kernel
theorem dX0_become_34 : decode cX0_become 34 = .ok (.getfield 46, 3) := by decide +kernel
theorem dX0_become_37 : decode cX0_become 37 = .ok (.putfield 46, 3) := by decide +kernel
theorem dX0_become_40 : decode cX0_become 40 = .ok (.aload_n 0, 1) := by decide +kernel
theorem dX0_become_41 : decode cX0_become 41 = .ok (.aload_n 1, 1) := by decide +kernel
theorem dX0_become_42 : decode cX0_become 42 = .ok (.getfield 49, 3) := by decide +kernel
theorem dX0_become_45 : decode cX0_become 45 = .ok (.putfield 49, 3) := by decide +kernel
theorem dX0_become_48 : decode cX0_become 48 = .ok (.aload_n 1, 1) := by decide +kernel
theorem dX0_become_49 : decode cX0_become 49 = .ok (.getfield 15, 3) := by decide +kernel
theorem dX0_become_52 : decode cX0_become 52 = .ok (.iconst 0, 1) := by decide +kernel
theorem dX0_become_53 : decode cX0_become 53 = .ok (.aload_n 0, 1) := by decide +kernel
theorem dX0_become_54 : decode cX0_become 54 = .ok (.getfield 15, 3) := by decide +kernel
theorem dX0_become_57 : decode cX0_become 57 = .ok (.iconst 0, 1) := by decide +kernel
theorem dX0_become_58 : decode cX0_become 58 = .ok (.bipush 8, 2) := by decide +kernel
theorem dX0_become_60 : decode cX0_become 60 = .ok (.invokestatic 52, 3) := by decide +kernel
theorem dX0_become_63 : decode cX0_become 63 = .ok (.aload_n 1, 1) := by decide +kernel
theorem dX0_become_64 : decode cX0_become 64 = .ok (.getfield 19, 3) := by decide +kernel
theorem dX0_become_67 : decode cX0_become 67 = .ok (.iconst 0, 1) := by decide +kernel
theorem dX0_become_68 : decode cX0_become 68 = .ok (.aload_n 0, 1) := by decide +kernel
theorem dX0_become_69 : decode cX0_become 69 = .ok (.getfield 19, 3) := by decide +kernel
theorem dX0_become_72 : decode cX0_become 72 = .ok (.iconst 0, 1) := by decide +kernel
theorem dX0_become_73 : decode cX0_become 73 = .ok (.bipush 8, 2) := by decide +kernel
theorem dX0_become_75 : decode cX0_become 75 = .ok (.invokestatic 52, 3) := by decide +kernel
theorem dX0_become_78 : decode cX0_become 78 = .ok (.aload_n 1, 1) := by decide +kernel
theorem dX0_become_79 : decode cX0_become 79 = .ok (.getfield 22, 3) := by decide +kernel
theorem dX0_become_82 : decode cX0_become 82 = .ok (.iconst 0, 1) := by decide +kernel
theorem dX0_become_83 : decode cX0_become 83 = .ok (.aload_n 0, 1) := by decide +kernel
theorem dX0_become_84 : decode cX0_become 84 = .ok (.getfield 22, 3) := by decide +kernel
theorem dX0_become_87 : decode cX0_become 87 = .ok (.iconst 0, 1) := by decide +kernel
theorem dX0_become_88 : decode cX0_become 88 = .ok (.bipush 8, 2) := by decide +kernel
theorem dX0_become_90 : decode cX0_become 90 = .ok (.invokestatic 52, 3) := by decide +kernel
theorem dX0_become_93 : decode cX0_become 93 = .ok (.aload_n 1, 1) := by decide +kernel
theorem dX0_become_94 : decode cX0_become 94 = .ok (.getfield 25, 3) := by decide +kernel
theorem dX0_become_97 : decode cX0_become 97 = .ok (.iconst 0, 1) := by decide +kernel
theorem dX0_become_98 : decode cX0_become 98 = .ok (.aload_n 0, 1) := by decide +kernel
theorem dX0_become_99 : decode cX0_become 99 = .ok (.getfield 25, 3) := by decide +kernel
theorem dX0_become_102 : decode cX0_become 102 = .ok (.iconst 0, 1) := by decide +kernel
theorem dX0_become_103 : decode cX0_become 103 = .ok (.bipush 8, 2) := by decide +kernel
theorem dX0_become_105 : decode cX0_become 105 = .ok (.invokestatic 52, 3) := by decide +kernel
theorem dX0_become_108 : decode cX0_become 108 = .ok (.aload_n 0, 1) := by decide +kernel
theorem dX0_become_109 : decode cX0_become 109 = .ok (.aload_n 1, 1) := by decide +kernel
theorem dX0_become_110 : decode cX0_become 110 = .ok (.getfield 58, 3) := by decide +kernel
theorem dX0_become_113 : decode cX0_become 113 = .ok (.putfield 58, 3) := by decide +kernel
theorem dX0_become_116 : decode cX0_become 116 = .ok (.aload_n 1, 1) := by decide +kernel
theorem dX0_become_117 : decode cX0_become 117 = .ok (.getfield 28, 3) := by decide +kernel
theorem dX0_become_120 : decode cX0_become 120 = .ok (.iconst 0, 1) := by decide +kernel
theorem dX0_become_121 : decode cX0_become 121 = .ok (.aload_n 0, 1) := by decide +kernel
theorem dX0_become_122 : decode cX0_become 122 = .ok (.getfield 28, 3) := by decide +kernel
theorem dX0_become_125 : decode cX0_become 125 = .ok (.iconst 0, 1) := by decide +kernel
theorem dX0_become_126 : decode cX0_become 126 = .ok (.bipush 6, 2) := by decide +kernel
theorem dX0_become_128 : decode cX0_become 128 = .ok (.invokestatic 52, 3) := by decide +kernel
theorem dX0_become_131 : decode cX0_become 131 = .ok (.aload_n 1, 1) := by decide +kernel
theorem dX0_become_132 : decode cX0_become 132 = .ok (.getfield 31, 3) := by decide +kernel
theorem dX0_become_135 : decode cX0_become 135 = .ok (.iconst 0, 1) := by decide +kernel
theorem dX0_become_136 : decode cX0_become 136 = .ok (.aload_n 0, 1) := by decide +kernel
theorem dX0_become_137 : decode cX0_become 137 = .ok (.getfield 31, 3) := by decide +kernel
theorem dX0_become_140 : decode cX0_become 140 = .ok (.iconst 0, 1) := by decide +kernel
theorem dX0_become_141 : decode cX0_become 141 = .ok (.bipush 6, 2) := by decide +kernel
theorem dX0_become_143 : decode cX0_become 143 = .ok (.invokestatic 52, 3) := by decide +kernel
theorem dX0_become_146 : decode cX0_become 146 = .ok (.aload_n 1, 1) := by decide +kernel
theorem dX0_become_147 : decode cX0_become 147 = .ok (.getfield 34, 3) := by decide +kernel
theorem dX0_become_150 : decode cX0_become 150 = .ok (.iconst 0, 1) := by decide +kernel
theorem dX0_become_151 : decode cX0_become 151 = .ok (.aload_n 0, 1) := by decide +kernel
theorem dX0_become_152 : decode cX0_become 152 = .ok (.getfield 34, 3) := by decide +kernel
theorem dX0_become_155 : decode cX0_become 155 = .ok (.iconst 0, 1) := by decide +kernel
theorem dX0_become_156 : decode cX0_become 156 = .ok (.bipush 6, 2) := by decide +kernel
theorem dX0_become_158 : decode cX0_become 158 = .ok (.invokestatic 52, 3) := by decide +kernel
theorem dX0_become_161 : decode cX0_become 161 = .ok (.return_, 1) := by decide +kernel
theorem dX0_hasMother_0 : decode cX0_hasMother 0 = .ok (.iload_n 1, 1) := by decide +kernel
theorem dX0_hasMother_1 : decode cX0_hasMother 1 = .ok (.ifCond .lt 15, 3) := by decide +kernel
theorem dX0_hasMother_4 : decode cX0_hasMother 4 = .ok (.iload_n 1, 1) := by decide +kernel
theorem dX0_hasMother_5 : decode cX0_hasMother 5 = .ok (.aload_n 0, 1) := by decide +kernel
theorem dX0_hasMother_6 : decode cX0_hasMother 6 = .ok (.getfield 49, 3) := by decide +kernel
theorem dX0_hasMother_9 : decode cX0_hasMother 9 = .ok (.if_icmp .ge 7, 3) := by decide +kernel
theorem dX0_hasMother_12 : decode cX0_hasMother 12 = .ok (.iconst 1, 1) := by decide +kernel
theorem dX0_hasMother_13 : decode cX0_hasMother 13 = .ok (.goto 4, 3) := by decide +kernel
theorem dX0_hasMother_16 : decode cX0_hasMother 16 = .ok (.iconst 0, 1) := by decide +kernel
theorem dX0_hasMother_17 : decode cX0_hasMother 17 = .ok (.ireturn, 1) := by decide +kernel
theorem dX0_hasChild_0 : decode cX0_hasChild 0 = .ok (.iload_n 1, 1) := by decide +kernel
theorem dX0_hasChild_1 : decode cX0_hasChild 1 = .ok (.ifCond .lt 15, 3) := by decide +kernel
theorem dX0_hasChild_4 : decode cX0_hasChild 4 = .ok (.iload_n 1, 1) := by decide +kernel
theorem dX0_hasChild_5 : decode cX0_hasChild 5 = .ok (.aload_n 0, 1) := by decide +kernel
theorem dX0_hasChild_6 : decode cX0_hasChild 6 = .ok (.getfield 58, 3) := by decide +kernel
theorem dX0_hasChild_9 : decode cX0_hasChild 9 = .ok (.if_icmp .ge 7, 3) := by decide +kernel
theorem dX0_hasChild_12 : decode cX0_hasChild 12 = .ok (.iconst 1, 1) := by decide +kernel
theorem dX0_hasChild_13 : decode cX0_hasChild 13 = .ok (.goto 4, 3) := by decide +kernel
theorem dX0_hasChild_16 : decode cX0_hasChild 16 = .ok (.iconst 0, 1) := by decide +kernel
theorem dX0_hasChild_17 : decode cX0_hasChild 17 = .ok (.ireturn, 1) := by decide +kernel
theorem dX0_addMother_0 : decode cX0_addMother 0 = .ok (.aload_n 0, 1) := by decide +kernel
theorem dX0_addMother_1 : decode cX0_addMother 1 = .ok (.getfield 49, 3) := by decide +kernel
theorem dX0_addMother_4 : decode cX0_addMother 4 = .ok (.istore 4, 2) := by decide +kernel
theorem dX0_addMother_6 : decode cX0_addMother 6 = .ok (.iload 4, 2) := by decide +kernel
theorem dX0_addMother_8 : decode cX0_addMother 8 = .ok (.ifCond .lt 10, 3) := by decide +kernel
theorem dX0_addMother_11 : decode cX0_addMother 11 = .ok (.iload 4, 2) := by decide +kernel
theorem dX0_addMother_13 : decode cX0_addMother 13 = .ok (.bipush 8, 2) := by decide +kernel
theorem dX0_addMother_15 : decode cX0_addMother 15 = .ok (.if_icmp .lt 5, 3) := by decide +kernel
theorem dX0_addMother_18 : decode cX0_addMother 18 = .ok (.iconst (-1), 1) := by decide +kernel
theorem dX0_addMother_19 : decode cX0_addMother 19 = .ok (.ireturn, 1) := by decide +kernel
theorem dX0_addMother_20 : decode cX0_addMother 20 = .ok (.aload_n 0, 1) := by decide +kernel
theorem dX0_addMother_21 : decode cX0_addMother 21 = .ok (.getfield 15, 3) := by decide +kernel
theorem dX0_addMother_24 : decode cX0_addMother 24 = .ok (.iload 4, 2) := by decide +kernel
theorem dX0_addMother_26 : decode cX0_addMother 26 = .ok (.iload_n 1, 1) := by decide +kernel
theorem dX0_addMother_27 : decode cX0_addMother 27 = .ok (.iastore, 1) := by decide +kernel
theorem dX0_addMother_28 : decode cX0_addMother 28 = .ok (.aload_n 0, 1) := by decide +kernel
theorem dX0_addMother_29 : decode cX0_addMother 29 = .ok (.getfield 19, 3) := by decide +kernel
theorem dX0_addMother_32 : decode cX0_addMother 32 = .ok (.iload 4, 2) := by decide +kernel
theorem dX0_addMother_34 : decode cX0_addMother 34 = .ok (.iload_n 3, 1) := by decide +kernel
theorem dX0_addMother_35 : decode cX0_addMother 35 = .ok (.iastore, 1) := by decide +kernel
theorem dX0_addMother_36 : decode cX0_addMother 36 = .ok (.aload_n 0, 1) := by decide +kernel
theorem dX0_addMother_37 : decode cX0_addMother 37 = .ok (.getfield 22, 3) := by decide +kernel
theorem dX0_addMother_40 : decode cX0_addMother 40 = .ok (.iload 4, 2) := by decide +kernel
theorem dX0_addMother_42 : decode cX0_addMother 42 = .ok (.iload_n 2, 1) := by decide +kernel
theorem dX0_addMother_43 : decode cX0_addMother 43 = .ok (.iastore, 1) := by decide +kernel
theorem dX0_addMother_44 : decode cX0_addMother 44 = .ok (.aload_n 0, 1) := by decide +kernel
theorem dX0_addMother_45 : decode cX0_addMother 45 = .ok (.getfield 25, 3) := by decide +kernel
theorem dX0_addMother_48 : decode cX0_addMother 48 = .ok (.iload 4, 2) := by decide +kernel
theorem dX0_addMother_50 : decode cX0_addMother 50 = .ok (.iconst 0, 1) := by decide +kernel
theorem dX0_addMother_51 : decode cX0_addMother 51 = .ok (.iastore, 1) := by decide +kernel
theorem dX0_addMother_52 : decode cX0_addMother 52 = .ok (.aload_n 0, 1) := by decide +kernel
theorem dX0_addMother_53 : decode cX0_addMother 53 = .ok (.iload 4, 2) := by decide +kernel
theorem dX0_addMother_55 : decode cX0_addMother 55 = .ok (.iconst 1, 1) := by decide +kernel
theorem dX0_addMother_56 : decode cX0_addMother 56 = .ok (.iadd, 1) := by decide +kernel
theorem dX0_addMother_57 : decode cX0_addMother 57 = .ok (.putfield 49, 3) := by decide +kernel
theorem dX0_addMother_60 : decode cX0_addMother 60 = .ok (.iload 4, 2) := by decide +kernel
theorem dX0_addMother_62 : decode cX0_addMother 62 = .ok (.ireturn, 1) := by decide +kernel
theorem dX0_addChild_0 : decode cX0_addChild 0 = .ok (.aload_n 0, 1) := by decide +kernel
theorem dX0_addChild_1 : decode cX0_addChild 1 = .ok (.getfield 58, 3) := by decide +kernel
theorem dX0_addChild_4 : decode cX0_addChild 4 = .ok (.istore_n 3, 1) := by decide +kernel
theorem dX0_addChild_5 : decode cX0_addChild 5 = .ok (.iload_n 3, 1) := by decide +kernel
theorem dX0_addChild_6 : decode cX0_addChild 6 = .ok (.ifCond .lt 9, 3) := by decide +kernel
theorem dX0_addChild_9 : decode cX0_addChild 9 = .ok (.iload_n 3, 1) := by decide +kernel
theorem dX0_addChild_10 : decode cX0_addChild 10 = .ok (.bipush 6, 2) := by decide +kernel
theorem dX0_addChild_12 : decode cX0_addChild 12 = .ok (.if_icmp .lt 5, 3) := by decide +kernel
theorem dX0_addChild_15 : decode cX0_addChild 15 = .ok (.iconst (-1), 1) := by decide +kernel
theorem dX0_addChild_16 : decode cX0_addChild 16 = .ok (.ireturn, 1) := by decide +kernel
theorem dX0_addChild_17 : decode cX0_addChild 17 = .ok (.aload_n 0, 1) := by decide +kernel
theorem dX0_addChild_18 : decode cX0_addChild 18 = .ok (.getfield 28, 3) := by decide +kernel
theorem dX0_addChild_21 : decode cX0_addChild 21 = .ok (.iload_n 3, 1) := by decide +kernel
theorem dX0_addChild_22 : decode cX0_addChild 22 = .ok (.iload_n 1, 1) := by decide +kernel
theorem dX0_addChild_23 : decode cX0_addChild 23 = .ok (.iastore, 1) := by decide +kernel
theorem dX0_addChild_24 : decode cX0_addChild 24 = .ok (.aload_n 0, 1) := by decide +kernel
theorem dX0_addChild_25 : decode cX0_addChild 25 = .ok (.getfield 31, 3) := by decide +kernel
theorem dX0_addChild_28 : decode cX0_addChild 28 = .ok (.iload_n 3, 1) := by decide +kernel
theorem dX0_addChild_29 : decode cX0_addChild 29 = .ok (.iload_n 2, 1) := by decide +kernel
theorem dX0_addChild_30 : decode cX0_addChild 30 = .ok (.iastore, 1) := by decide +kernel
theorem dX0_addChild_31 : decode cX0_addChild 31 = .ok (.aload_n 0, 1) := by decide +kernel
theorem dX0_addChild_32 : decode cX0_addChild 32 = .ok (.getfield 34, 3) := by decide +kernel
theorem dX0_addChild_35 : decode cX0_addChild 35 = .ok (.iload_n 3, 1) := by decide +kernel
theorem dX0_addChild_36 : decode cX0_addChild 36 = .ok (.iconst 0, 1) := by decide +kernel
theorem dX0_addChild_37 : decode cX0_addChild 37 = .ok (.iastore, 1) := by decide +kernel
theorem dX0_addChild_38 : decode cX0_addChild 38 = .ok (.aload_n 0, 1) := by decide +kernel
theorem dX0_addChild_39 : decode cX0_addChild 39 = .ok (.iload_n 3, 1) := by decide +kernel
theorem dX0_addChild_40 : decode cX0_addChild 40 = .ok (.iconst 1, 1) := by decide +kernel
theorem dX0_addChild_41 : decode cX0_addChild 41 = .ok (.iadd, 1) := by decide +kernel
theorem dX0_addChild_42 : decode cX0_addChild 42 = .ok (.putfield 58, 3) := by decide +kernel
theorem dX0_addChild_45 : decode cX0_addChild 45 = .ok (.iload_n 3, 1) := by decide +kernel
theorem dX0_addChild_46 : decode cX0_addChild 46 = .ok (.ireturn, 1) := by decide +kernel
theorem dX0_moveMother_0 : decode cX0_moveMother 0 = .ok (.aload_n 0, 1) := by decide +kernel
theorem dX0_moveMother_1 : decode cX0_moveMother 1 = .ok (.getfield 19, 3) := by decide +kernel
theorem dX0_moveMother_4 : decode cX0_moveMother 4 = .ok (.iload_n 1, 1) := by decide +kernel
theorem dX0_moveMother_5 : decode cX0_moveMother 5 = .ok (.iload_n 2, 1) := by decide +kernel
theorem dX0_moveMother_6 : decode cX0_moveMother 6 = .ok (.iastore, 1) := by decide +kernel
theorem dX0_moveMother_7 : decode cX0_moveMother 7 = .ok (.aload_n 0, 1) := by decide +kernel
theorem dX0_moveMother_8 : decode cX0_moveMother 8 = .ok (.getfield 25, 3) := by decide +kernel
theorem dX0_moveMother_11 : decode cX0_moveMother 11 = .ok (.iload_n 1, 1) := by decide +kernel
theorem dX0_moveMother_12 : decode cX0_moveMother 12 = .ok (.iconst 0, 1) := by decide +kernel
theorem dX0_moveMother_13 : decode cX0_moveMother 13 = .ok (.iastore, 1) := by decide +kernel
theorem dX0_moveMother_14 : decode cX0_moveMother 14 = .ok (.return_, 1) := by decide +kernel
theorem dX0_minuteOfDay_0 : decode cX0_minuteOfDay 0 = .ok (.aload_n 0, 1) := by decide +kernel
theorem dX0_minuteOfDay_1 : decode cX0_minuteOfDay 1 = .ok (.getfield 37, 3) := by decide +kernel
theorem dX0_minuteOfDay_4 : decode cX0_minuteOfDay 4 = .ok (.bipush 50, 2) := by decide +kernel
theorem dX0_minuteOfDay_6 : decode cX0_minuteOfDay 6 = .ok (.irem, 1) := by decide +kernel
theorem dX0_minuteOfDay_7 : decode cX0_minuteOfDay 7 = .ok (.ireturn, 1) := by decide +kernel
set_option maxRecDepth 20000 in
theorem ggX0_isNight_X0_minuteOfDay : GoodIn wsX0_isNight wsX0_minuteOfDay := goodIn_r _ [5, 6, 7, 8, 9, 10, 11, 12, 13, 14, 15, 16, 17, 18, 19, 20] (by decide +kernel) (by decide +kernel)
set_option maxRecDepth 20000 in
theorem gX0_isNight_X0_minuteOfDay : GoodIn wsX0_isNight (wsV RX0 61 RX0 yX0_minuteOfDay wsX0_minuteOfDay) := goodIn_app (goodIn_of _ (by decide +kernel)) ggX0_isNight_X0_minuteOfDay
theorem dX0_isNight_0 : decode cX0_isNight 0 = .ok (.aload_n 0, 1) := by decide +kernel
theorem dX0_isNight_1 : decode cX0_isNight 1 = .ok (.invokevirtual 61, 3) := by decide +kernel
theorem dX0_isNight_4 : decode cX0_isNight 4 = .ok (.bipush 40, 2) := by decide +kernel
theorem dX0_isNight_6 : decode cX0_isNight 6 = .ok (.if_icmp .lt 7, 3) := by decide +kernel
theorem dX0_isNight_9 : decode cX0_isNight 9 = .ok (.iconst 1, 1) := by decide +kernel
theorem dX0_isNight_10 : decode cX0_isNight 10 = .ok (.goto 4, 3) := by decide +kernel
theorem dX0_isNight_13 : decode cX0_isNight 13 = .ok (.iconst 0, 1) := by decide +kernel
theorem dX0_isNight_14 : decode cX0_isNight 14 = .ok (.ireturn, 1) := by decide +kernel
set_option maxRecDepth 20000 in
theorem ggX0_isWet_X0_minuteOfDay : GoodIn wsX0_isWet wsX0_minuteOfDay := goodIn_r _ [6, 7, 8, 9, 10, 11, 12, 13, 14, 15, 16, 17, 18, 19, 20, 21] (by decide +kernel) (by decide +kernel)
set_option maxRecDepth 20000 in
theorem gX0_isWet_X0_minuteOfDay : GoodIn wsX0_isWet (wsV RX0 61 RX0 yX0_minuteOfDay wsX0_minuteOfDay) := goodIn_app (goodIn_of _ (by decide +kernel)) ggX0_isWet_X0_minuteOfDay
theorem dX0_isWet_0 : decode cX0_isWet 0 = .ok (.aload_n 0, 1) := by decide +kernel
theorem dX0_isWet_1 : decode cX0_isWet 1 = .ok (.getfield 40, 3) := by decide +kernel
theorem dX0_isWet_4 : decode cX0_isWet 4 = .ok (.aload_n 0, 1) := by decide +kernel
theorem dX0_isWet_5 : decode cX0_isWet 5 = .ok (.invokevirtual 61, 3) := by decide +kernel
theorem dX0_isWet_8 : decode cX0_isWet 8 = .ok (.bipush 10, 2) := by decide +kernel
theorem dX0_isWet_10 : decode cX0_isWet 10 = .ok (.idiv, 1) := by decide +kernel
theorem dX0_isWet_11 : decode cX0_isWet 11 = .ok (.ishr, 1) := by decide +kernel
theorem dX0_isWet_12 : decode cX0_isWet 12 = .ok (.iconst 1, 1) := by decide +kernel
theorem dX0_isWet_13 : decode cX0_isWet 13 = .ok (.iand, 1) := by decide +kernel
theorem dX0_isWet_14 : decode cX0_isWet 14 = .ok (.iconst 1, 1) := by decide +kernel
theorem dX0_isWet_15 : decode cX0_isWet 15 = .ok (.if_icmp .ne 7, 3) := by decide +kernel
theorem dX0_isWet_18 : decode cX0_isWet 18 = .ok (.iconst 1, 1) := by decide +kernel
theorem dX0_isWet_19 : decode cX0_isWet 19 = .ok (.goto 4, 3) := by decide +kernel
theorem dX0_isWet_22 : decode cX0_isWet 22 = .ok (.iconst 0, 1) := by decide +kernel
theorem dX0_isWet_23 : decode cX0_isWet 23 = .ok (.ireturn, 1) := by decide +kernel
theorem dX0_outCount_0 : decode cX0_outCount 0 = .ok (.iconst 0, 1) := by decide +kernel
theorem dX0_outCount_1 : decode cX0_outCount 1 = .ok (.istore_n 1, 1) := by decide +kernel
theorem dX0_outCount_2 : decode cX0_outCount 2 = .ok (.iconst 0, 1) := by decide +kernel
theorem dX0_outCount_3 : decode cX0_outCount 3 = .ok (.istore_n 2, 1) := by decide +kernel
theorem dX0_outCount_4 : decode cX0_outCount 4 = .ok (.iload_n 2, 1) := by decide +kernel
theorem dX0_outCount_5 : decode cX0_outCount 5 = .ok (.aload_n 0, 1) := by decide +kernel
theorem dX0_outCount_6 : decode cX0_outCount 6 = .ok (.getfield 49, 3) := by decide +kernel
theorem dX0_outCount_9 : decode cX0_outCount 9 = .ok (.if_icmp .ge 18, 3) := by decide +kernel
theorem dX0_outCount_12 : decode cX0_outCount 12 = .ok (.iload_n 1, 1) := by decide +kernel
theorem dX0_outCount_13 : decode cX0_outCount 13 = .ok (.aload_n 0, 1) := by decide +kernel
theorem dX0_outCount_14 : decode cX0_outCount 14 = .ok (.getfield 19, 3) := by decide +kernel
theorem dX0_outCount_17 : decode cX0_outCount 17 = .ok (.iload_n 2, 1) := by decide +kernel
theorem dX0_outCount_18 : decode cX0_outCount 18 = .ok (.iaload, 1) := by decide +kernel
theorem dX0_outCount_19 : decode cX0_outCount 19 = .ok (.iadd, 1) := by decide +kernel
theorem dX0_outCount_20 : decode cX0_outCount 20 = .ok (.istore_n 1, 1) := by decide +kernel
theorem dX0_outCount_21 : decode cX0_outCount 21 = .ok (.iinc 2 1, 3) := by decide +kernel
theorem dX0_outCount_24 : decode cX0_outCount 24 = .ok (.goto (-20), 3) := by decide +kernel
theorem dX0_outCount_27 : decode cX0_outCount 27 = .ok (.iload_n 1, 1) := by decide +kernel
theorem dX0_outCount_28 : decode cX0_outCount 28 = .ok (.ireturn, 1) := by decide +kernel
theorem dX0_outSet_0 : decode cX0_outSet 0 = .ok (.iconst 0, 1) := by decide +kernel
theorem dX0_outSet_1 : decode cX0_outSet 1 = .ok (.istore_n 1, 1) := by decide +kernel
theorem dX0_outSet_2 : decode cX0_outSet 2 = .ok (.iconst 0, 1) := by decide +kernel
theorem dX0_outSet_3 : decode cX0_outSet 3 = .ok (.istore_n 2, 1) := by decide +kernel
theorem dX0_outSet_4 : decode cX0_outSet 4 = .ok (.iload_n 2, 1) := by decide +kernel
theorem dX0_outSet_5 : decode cX0_outSet 5 = .ok (.aload_n 0, 1) := by decide +kernel
theorem dX0_outSet_6 : decode cX0_outSet 6 = .ok (.getfield 49, 3) := by decide +kernel
theorem dX0_outSet_9 : decode cX0_outSet 9 = .ok (.if_icmp .ge 20, 3) := by decide +kernel
theorem dX0_outSet_12 : decode cX0_outSet 12 = .ok (.iload_n 1, 1) := by decide +kernel
theorem dX0_outSet_13 : decode cX0_outSet 13 = .ok (.aload_n 0, 1) := by decide +kernel
theorem dX0_outSet_14 : decode cX0_outSet 14 = .ok (.getfield 19, 3) := by decide +kernel
theorem dX0_outSet_17 : decode cX0_outSet 17 = .ok (.iload_n 2, 1) := by decide +kernel
theorem dX0_outSet_18 : decode cX0_outSet 18 = .ok (.iaload, 1) := by decide +kernel
theorem dX0_outSet_19 : decode cX0_outSet 19 = .ok (.iload_n 2, 1) := by decide +kernel
theorem dX0_outSet_20 : decode cX0_outSet 20 = .ok (.ishl, 1) := by decide +kernel
theorem dX0_outSet_21 : decode cX0_outSet 21 = .ok (.ior, 1) := by decide +kernel
theorem dX0_outSet_22 : decode cX0_outSet 22 = .ok (.istore_n 1, 1) := by decide +kernel
theorem dX0_outSet_23 : decode cX0_outSet 23 = .ok (.iinc 2 1, 3) := by decide +kernel
theorem dX0_outSet_26 : decode cX0_outSet 26 = .ok (.goto (-22), 3) := by decide +kernel
theorem dX0_outSet_29 : decode cX0_outSet 29 = .ok (.iload_n 1, 1) := by decide +kernel
theorem dX0_outSet_30 : decode cX0_outSet 30 = .ok (.ireturn, 1) := by decide +kernel
theorem dX0_onCount_0 : decode cX0_onCount 0 = .ok (.iconst 0, 1) := by decide +kernel
theorem dX0_onCount_1 : decode cX0_onCount 1 = .ok (.istore_n 1, 1) := by decide +kernel
theorem dX0_onCount_2 : decode cX0_onCount 2 = .ok (.iconst 0, 1) := by decide +kernel
theorem dX0_onCount_3 : decode cX0_onCount 3 = .ok (.istore_n 2, 1) := by decide +kernel
theorem dX0_onCount_4 : decode cX0_onCount 4 = .ok (.iload_n 2, 1) := by decide +kernel
theorem dX0_onCount_5 : decode cX0_onCount 5 = .ok (.aload_n 0, 1) := by decide +kernel
theorem dX0_onCount_6 : decode cX0_onCount 6 = .ok (.getfield 58, 3) := by decide +kernel
theorem dX0_onCount_9 : decode cX0_onCount 9 = .ok (.if_icmp .ge 18, 3) := by decide +kernel
theorem dX0_onCount_12 : decode cX0_onCount 12 = .ok (.iload_n 1, 1) := by decide +kernel
theorem dX0_onCount_13 : decode cX0_onCount 13 = .ok (.aload_n 0, 1) := by decide +kernel
theorem dX0_onCount_14 : decode cX0_onCount 14 = .ok (.getfield 31, 3) := by decide +kernel
theorem dX0_onCount_17 : decode cX0_onCount 17 = .ok (.iload_n 2, 1) := by decide +kernel
theorem dX0_onCount_18 : decode cX0_onCount 18 = .ok (.iaload, 1) := by decide +kernel
theorem dX0_onCount_19 : decode cX0_onCount 19 = .ok (.iadd, 1) := by decide +kernel
theorem dX0_onCount_20 : decode cX0_onCount 20 = .ok (.istore_n 1, 1) := by decide +kernel
theorem dX0_onCount_21 : decode cX0_onCount 21 = .ok (.iinc 2 1, 3) := by decide +kernel
theorem dX0_onCount_24 : decode cX0_onCount 24 = .ok (.goto (-20), 3) := by decide +kernel
theorem dX0_onCount_27 : decode cX0_onCount 27 = .ok (.iload_n 1, 1) := by decide +kernel
theorem dX0_onCount_28 : decode cX0_onCount 28 = .ok (.ireturn, 1) := by decide +kernel
theorem dX0_onSet_0 : decode cX0_onSet 0 = .ok (.iconst 0, 1) := by decide +kernel
theorem dX0_onSet_1 : decode cX0_onSet 1 = .ok (.istore_n 1, 1) := by decide +kernel
theorem dX0_onSet_2 : decode cX0_onSet 2 = .ok (.iconst 0, 1) := by decide +kernel
theorem dX0_onSet_3 : decode cX0_onSet 3 = .ok (.istore_n 2, 1) := by decide +kernel
theorem dX0_onSet_4 : decode cX0_onSet 4 = .ok (.iload_n 2, 1) := by decide +kernel
theorem dX0_onSet_5 : decode cX0_onSet 5 = .ok (.aload_n 0, 1) := by decide +kernel
theorem dX0_onSet_6 : decode cX0_onSet 6 = .ok (.getfield 58, 3) := by decide +kernel
theorem dX0_onSet_9 : decode cX0_onSet 9 = .ok (.if_icmp .ge 20, 3) := by decide +kernel
theorem dX0_onSet_12 : decode cX0_onSet 12 = .ok (.iload_n 1, 1) := by decide +kernel
theorem dX0_onSet_13 : decode cX0_onSet 13 = .ok (.aload_n 0, 1) := by decide +kernel
theorem dX0_onSet_14 : decode cX0_onSet 14 = .ok (.getfield 31, 3) := by decide +kernel
theorem dX0_onSet_17 : decode cX0_onSet 17 = .ok (.iload_n 2, 1) := by decide +kernel
theorem dX0_onSet_18 : decode cX0_onSet 18 = .ok (.iaload, 1) := by decide +kernel
theorem dX0_onSet_19 : decode cX0_onSet 19 = .ok (.iload_n 2, 1) := by decide +kernel
theorem dX0_onSet_20 : decode cX0_onSet 20 = .ok (.ishl, 1) := by decide +kernel
theorem dX0_onSet_21 : decode cX0_onSet 21 = .ok (.ior, 1) := by decide +kernel
theorem dX0_onSet_22 : decode cX0_onSet 22 = .ok (.istore_n 1, 1) := by decide +kernel
theorem dX0_onSet_23 : decode cX0_onSet 23 = .ok (.iinc 2 1, 3) := by decide +kernel
theorem dX0_onSet_26 : decode cX0_onSet 26 = .ok (.goto (-22), 3) := by decide +kernel
theorem dX0_onSet_29 : decode cX0_onSet 29 = .ok (.iload_n 1, 1) := by decide +kernel
theorem dX0_onSet_30 : decode cX0_onSet 30 = .ok (.ireturn, 1) := by decide +kernel
theorem dX0_flingsOfAll_0 : decode cX0_flingsOfAll 0 = .ok (.iconst 0, 1) := by decide +kernel
theorem dX0_flingsOfAll_1 : decode cX0_flingsOfAll 1 = .ok (.istore_n 1, 1) := by decide +kernel
theorem dX0_flingsOfAll_2 : decode cX0_flingsOfAll 2 = .ok (.iconst 0, 1) := by decide +kernel
theorem dX0_flingsOfAll_3 : decode cX0_flingsOfAll 3 = .ok (.istore_n 2, 1) := by decide +kernel
theorem dX0_flingsOfAll_4 : decode cX0_flingsOfAll 4 = .ok (.iload_n 2, 1) := by decide +kernel
theorem dX0_flingsOfAll_5 : decode cX0_flingsOfAll 5 = .ok (.aload_n 0, 1) := by decide +kernel
theorem dX0_flingsOfAll_6 : decode cX0_flingsOfAll 6 = .ok (.getfield 58, 3) := by decide +kernel
theorem dX0_flingsOfAll_9 : decode cX0_flingsOfAll 9 = .ok (.if_icmp .ge 18, 3) := by decide +kernel
theorem dX0_flingsOfAll_12 : decode cX0_flingsOfAll 12 = .ok (.iload_n 1, 1) := by decide +kernel
theorem dX0_flingsOfAll_13 : decode cX0_flingsOfAll 13 = .ok (.aload_n 0, 1) := by decide +kernel
theorem dX0_flingsOfAll_14 : decode cX0_flingsOfAll 14 = .ok (.getfield 34, 3) := by decide +kernel
theorem dX0_flingsOfAll_17 : decode cX0_flingsOfAll 17 = .ok (.iload_n 2, 1) := by decide +kernel
theorem dX0_flingsOfAll_18 : decode cX0_flingsOfAll 18 = .ok (.iaload, 1) := by decide +kernel
theorem dX0_flingsOfAll_19 : decode cX0_flingsOfAll 19 = .ok (.iadd, 1) := by decide +kernel
theorem dX0_flingsOfAll_20 : decode cX0_flingsOfAll 20 = .ok (.istore_n 1, 1) := by decide +kernel
theorem dX0_flingsOfAll_21 : decode cX0_flingsOfAll 21 = .ok (.iinc 2 1, 3) := by decide +kernel
theorem dX0_flingsOfAll_24 : decode cX0_flingsOfAll 24 = .ok (.goto (-20), 3) := by decide +kernel
theorem dX0_flingsOfAll_27 : decode cX0_flingsOfAll 27 = .ok (.iload_n 1, 1) := by decide +kernel
theorem dX0_flingsOfAll_28 : decode cX0_flingsOfAll 28 = .ok (.ireturn, 1) := by decide +kernel
set_option maxRecDepth 20000 in
theorem ggX0_weightNow_X0_onCount : GoodIn wsX0_weightNow wsX0_onCount := goodIn_r _ [6, 7, 8, 9, 10, 11, 12, 13, 14, 15, 16, 17, 18, 19, 20, 21, 22] (by decide +kernel) (by decide +kernel)
set_option maxRecDepth 20000 in
theorem gX0_weightNow_X0_onCount : GoodIn wsX0_weightNow (wsV RX0 65 RX0 yX0_onCount wsX0_onCount) := goodIn_app (goodIn_of _ (by decide +kernel)) ggX0_weightNow_X0_onCount
theorem dX0_weightNow_0 : decode cX0_weightNow 0 = .ok (.aload_n 0, 1) := by decide +kernel
theorem dX0_weightNow_1 : decode cX0_weightNow 1 = .ok (.getfield 9, 3) := by decide +kernel
theorem dX0_weightNow_4 : decode cX0_weightNow 4 = .ok (.iconst 2, 1) := by decide +kernel
theorem dX0_weightNow_5 : decode cX0_weightNow 5 = .ok (.aload_n 0, 1) := by decide +kernel
theorem dX0_weightNow_6 : decode cX0_weightNow 6 = .ok (.invokevirtual 65, 3) := by decide +kernel
theorem dX0_weightNow_9 : decode cX0_weightNow 9 = .ok (.imul, 1) := by decide +kernel
theorem dX0_weightNow_10 : decode cX0_weightNow 10 = .ok (.iadd, 1) := by decide +kernel
theorem dX0_weightNow_11 : decode cX0_weightNow 11 = .ok (.ireturn, 1) := by decide +kernel
set_option maxRecDepth 20000 in
theorem ggX0_keepsNow_X1_keeps : GoodIn wsX0_keepsNow wsX1_keeps := goodIn_r _ [8] (by decide +kernel) (by decide +kernel)
set_option maxRecDepth 20000 in
theorem gX0_keepsNow_X1_keeps : GoodIn wsX0_keepsNow (va_wsS RX0 68 yX1_keeps wsX1_keeps) := goodIn_app (goodIn_of _ (by decide +kernel)) ggX0_keepsNow_X1_keeps
theorem dX0_keepsNow_0 : decode cX0_keepsNow 0 = .ok (.aload_n 0, 1) := by decide +kernel
theorem dX0_keepsNow_1 : decode cX0_keepsNow 1 = .ok (.getfield 15, 3) := by decide +kernel
theorem dX0_keepsNow_4 : decode cX0_keepsNow 4 = .ok (.iload_n 1, 1) := by decide +kernel
theorem dX0_keepsNow_5 : decode cX0_keepsNow 5 = .ok (.iaload, 1) := by decide +kernel
theorem dX0_keepsNow_6 : decode cX0_keepsNow 6 = .ok (.aload_n 0, 1) := by decide +kernel
theorem dX0_keepsNow_7 : decode cX0_keepsNow 7 = .ok (.getfield 22, 3) := by decide +kernel
theorem dX0_keepsNow_10 : decode cX0_keepsNow 10 = .ok (.iload_n 1, 1) := by decide +kernel
theorem dX0_keepsNow_11 : decode cX0_keepsNow 11 = .ok (.iaload, 1) := by decide +kernel
theorem dX0_keepsNow_12 : decode cX0_keepsNow 12 = .ok (.aload_n 0, 1) := by decide +kernel
theorem dX0_keepsNow_13 : decode cX0_keepsNow 13 = .ok (.getfield 25, 3) := by decide +kernel
theorem dX0_keepsNow_16 : decode cX0_keepsNow 16 = .ok (.iload_n 1, 1) := by decide +kernel
theorem dX0_keepsNow_17 : decode cX0_keepsNow 17 = .ok (.iaload, 1) := by decide +kernel
theorem dX0_keepsNow_18 : decode cX0_keepsNow 18 = .ok (.iload_n 2, 1) := by decide +kernel
theorem dX0_keepsNow_19 : decode cX0_keepsNow 19 = .ok (.aload_n 0, 1) := by decide +kernel
theorem dX0_keepsNow_20 : decode cX0_keepsNow 20 = .ok (.getfield 19, 3) := by decide +kernel
theorem dX0_keepsNow_23 : decode cX0_keepsNow 23 = .ok (.iload_n 1, 1) := by decide +kernel
theorem dX0_keepsNow_24 : decode cX0_keepsNow 24 = .ok (.iaload, 1) := by decide +kernel
theorem dX0_keepsNow_25 : decode cX0_keepsNow 25 = .ok (.isub, 1) := by decide +kernel
theorem dX0_keepsNow_26 : decode cX0_keepsNow 26 = .ok (.iload_n 3, 1) := by decide +kernel
theorem dX0_keepsNow_27 : decode cX0_keepsNow 27 = .ok (.invokestatic 68, 3) := by decide +kernel
theorem dX0_keepsNow_30 : decode cX0_keepsNow 30 = .ok (.ireturn, 1) := by decide +kernel
set_option maxRecDepth 20000 in
theorem ggX0_speaksNow_X1_speaks : GoodIn wsX0_speaksNow wsX1_speaks := goodIn_r _ [8] (by decide +kernel) (by decide +kernel)
set_option maxRecDepth 20000 in
theorem gX0_speaksNow_X1_speaks : GoodIn wsX0_speaksNow (va_wsS RX0 74 yX1_speaks wsX1_speaks) := goodIn_app (goodIn_of _ (by decide +kernel)) ggX0_speaksNow_X1_speaks
theorem dX0_speaksNow_0 : decode cX0_speaksNow 0 = .ok (.aload_n 0, 1) := by decide +kernel
theorem dX0_speaksNow_1 : decode cX0_speaksNow 1 = .ok (.getfield 15, 3) := by decide +kernel
theorem dX0_speaksNow_4 : decode cX0_speaksNow 4 = .ok (.iload_n 1, 1) := by decide +kernel
theorem dX0_speaksNow_5 : decode cX0_speaksNow 5 = .ok (.iaload, 1) := by decide +kernel
theorem dX0_speaksNow_6 : decode cX0_speaksNow 6 = .ok (.aload_n 0, 1) := by decide +kernel
theorem dX0_speaksNow_7 : decode cX0_speaksNow 7 = .ok (.getfield 25, 3) := by decide +kernel
theorem dX0_speaksNow_10 : decode cX0_speaksNow 10 = .ok (.iload_n 1, 1) := by decide +kernel
theorem dX0_speaksNow_11 : decode cX0_speaksNow 11 = .ok (.iaload, 1) := by decide +kernel
theorem dX0_speaksNow_12 : decode cX0_speaksNow 12 = .ok (.iload_n 2, 1) := by decide +kernel
theorem dX0_speaksNow_13 : decode cX0_speaksNow 13 = .ok (.aload_n 0, 1) := by decide +kernel
theorem dX0_speaksNow_14 : decode cX0_speaksNow 14 = .ok (.getfield 19, 3) := by decide +kernel
theorem dX0_speaksNow_17 : decode cX0_speaksNow 17 = .ok (.iload_n 1, 1) := by decide +kernel
theorem dX0_speaksNow_18 : decode cX0_speaksNow 18 = .ok (.iaload, 1) := by decide +kernel
theorem dX0_speaksNow_19 : decode cX0_speaksNow 19 = .ok (.isub, 1) := by decide +kernel
theorem dX0_speaksNow_20 : decode cX0_speaksNow 20 = .ok (.iload_n 3, 1) := by decide +kernel
theorem dX0_speaksNow_21 : decode cX0_speaksNow 21 = .ok (.aload_n 0, 1) := by decide +kernel
theorem dX0_speaksNow_22 : decode cX0_speaksNow 22 = .ok (.getfield 43, 3) := by decide +kernel
theorem dX0_speaksNow_25 : decode cX0_speaksNow 25 = .ok (.invokestatic 74, 3) := by decide +kernel
theorem dX0_speaksNow_28 : decode cX0_speaksNow 28 = .ok (.ireturn, 1) := by decide +kernel
set_option maxRecDepth 20000 in
theorem ggX0_pushNow_X0_isWet : GoodIn wsX0_pushNow wsX0_isWet := goodIn_r _ [7, 8, 9, 10, 11, 6, 12, 13, 33, 34, 35, 36, 37, 38, 39, 40, 41, 42, 43, 44, 45, 46] (by decide +kernel) (by decide +kernel)
set_option maxRecDepth 20000 in
theorem gX0_pushNow_X0_isWet : GoodIn wsX0_pushNow (wsV RX0 78 RX0 yX0_isWet wsX0_isWet) := goodIn_app (goodIn_of _ (by decide +kernel)) ggX0_pushNow_X0_isWet
set_option maxRecDepth 20000 in
theorem ggX0_pushNow_X0_outCount : GoodIn wsX0_pushNow wsX0_outCount := goodIn_r _ [17, 1, 2, 33, 34, 35, 36, 37, 38, 39, 40, 41, 42, 43, 44, 45, 46] (by decide +kernel) (by decide +kernel)
set_option maxRecDepth 20000 in
theorem gX0_pushNow_X0_outCount : GoodIn wsX0_pushNow (wsV RX0 82 RX0 yX0_outCount wsX0_outCount) := goodIn_app (goodIn_of _ (by decide +kernel)) ggX0_pushNow_X0_outCount
set_option maxRecDepth 20000 in
theorem ggX0_pushNow_X0_isNight : GoodIn wsX0_pushNow wsX0_isNight := goodIn_r _ [21, 9, 10, 11, 6, 12, 13, 33, 34, 35, 36, 37, 38, 39, 40, 41, 42, 43, 44, 45, 46] (by decide +kernel) (by decide +kernel)
set_option maxRecDepth 20000 in
theorem gX0_pushNow_X0_isNight : GoodIn wsX0_pushNow (wsV RX0 85 RX0 yX0_isNight wsX0_isNight) := goodIn_app (goodIn_of _ (by decide +kernel)) ggX0_pushNow_X0_isNight
set_option maxRecDepth 20000 in
theorem ggX0_pushNow_X0_keepsNow : GoodIn wsX0_pushNow wsX0_keepsNow := goodIn_r _ [25, 26, 27, 28, 2, 29, 30, 31, 32, 33, 34, 35, 36, 37, 38, 39, 40, 41, 42, 43, 44, 45, 46] (by decide +kernel) (by decide +kernel)
set_option maxRecDepth 20000 in
theorem gX0_pushNow_X0_keepsNow : GoodIn wsX0_pushNow (wsV RX0 88 RX0 yX0_keepsNow wsX0_keepsNow) := goodIn_app (goodIn_of _ (by decide +kernel)) ggX0_pushNow_X0_keepsNow
theorem dX0_pushNow_0 : decode cX0_pushNow 0 = .ok (.aload_n 0, 1) := by decide +kernel
theorem dX0_pushNow_1 : decode cX0_pushNow 1 = .ok (.invokevirtual 78, 3) := by decide +kernel
theorem dX0_pushNow_4 : decode cX0_pushNow 4 = .ok (.ifCond .eq 5, 3) := by decide +kernel
theorem dX0_pushNow_7 : decode cX0_pushNow 7 = .ok (.iconst 0, 1) := by decide +kernel
theorem dX0_pushNow_8 : decode cX0_pushNow 8 = .ok (.ireturn, 1) := by decide +kernel
theorem dX0_pushNow_9 : decode cX0_pushNow 9 = .ok (.aload_n 0, 1) := by decide +kernel
theorem dX0_pushNow_10 : decode cX0_pushNow 10 = .ok (.invokevirtual 82, 3) := by decide +kernel
theorem dX0_pushNow_13 : decode cX0_pushNow 13 = .ok (.istore_n 1, 1) := by decide +kernel
theorem dX0_pushNow_14 : decode cX0_pushNow 14 = .ok (.aload_n 0, 1) := by decide +kernel
theorem dX0_pushNow_15 : decode cX0_pushNow 15 = .ok (.invokevirtual 85, 3) := by decide +kernel
theorem dX0_pushNow_18 : decode cX0_pushNow 18 = .ok (.istore_n 2, 1) := by decide +kernel
theorem dX0_pushNow_19 : decode cX0_pushNow 19 = .ok (.iconst 0, 1) := by decide +kernel
theorem dX0_pushNow_20 : decode cX0_pushNow 20 = .ok (.istore_n 3, 1) := by decide +kernel
theorem dX0_pushNow_21 : decode cX0_pushNow 21 = .ok (.iconst 0, 1) := by decide +kernel
theorem dX0_pushNow_22 : decode cX0_pushNow 22 = .ok (.istore 4, 2) := by decide +kernel
theorem dX0_pushNow_24 : decode cX0_pushNow 24 = .ok (.iload 4, 2) := by decide +kernel
theorem dX0_pushNow_26 : decode cX0_pushNow 26 = .ok (.aload_n 0, 1) := by decide +kernel
theorem dX0_pushNow_27 : decode cX0_pushNow 27 = .ok (.getfield 49, 3) := by decide +kernel
theorem dX0_pushNow_30 : decode cX0_pushNow 30 = .ok (.if_icmp .ge 31, 3) := by decide +kernel
theorem dX0_pushNow_33 : decode cX0_pushNow 33 = .ok (.aload_n 0, 1) := by decide +kernel
theorem dX0_pushNow_34 : decode cX0_pushNow 34 = .ok (.getfield 19, 3) := by decide +kernel
theorem dX0_pushNow_37 : decode cX0_pushNow 37 = .ok (.iload 4, 2) := by decide +kernel
theorem dX0_pushNow_39 : decode cX0_pushNow 39 = .ok (.iaload, 1) := by decide +kernel
theorem dX0_pushNow_40 : decode cX0_pushNow 40 = .ok (.iconst 1, 1) := by decide +kernel
theorem dX0_pushNow_41 : decode cX0_pushNow 41 = .ok (.if_icmp .ne 14, 3) := by decide +kernel
theorem dX0_pushNow_44 : decode cX0_pushNow 44 = .ok (.iload_n 3, 1) := by decide +kernel
theorem dX0_pushNow_45 : decode cX0_pushNow 45 = .ok (.aload_n 0, 1) := by decide +kernel
theorem dX0_pushNow_46 : decode cX0_pushNow 46 = .ok (.iload 4, 2) := by decide +kernel
theorem dX0_pushNow_48 : decode cX0_pushNow 48 = .ok (.iload_n 1, 1) := by decide +kernel
theorem dX0_pushNow_49 : decode cX0_pushNow 49 = .ok (.iload_n 2, 1) := by decide +kernel
theorem dX0_pushNow_50 : decode cX0_pushNow 50 = .ok (.invokevirtual 88, 3) := by decide +kernel
theorem dX0_pushNow_53 : decode cX0_pushNow 53 = .ok (.iadd, 1) := by decide +kernel
theorem dX0_pushNow_54 : decode cX0_pushNow 54 = .ok (.istore_n 3, 1) := by decide +kernel
theorem dX0_pushNow_55 : decode cX0_pushNow 55 = .ok (.iinc 4 1, 3) := by decide +kernel
theorem dX0_pushNow_58 : decode cX0_pushNow 58 = .ok (.goto (-34), 3) := by decide +kernel
theorem dX0_pushNow_61 : decode cX0_pushNow 61 = .ok (.iload_n 3, 1) := by decide +kernel
theorem dX0_pushNow_62 : decode cX0_pushNow 62 = .ok (.ireturn, 1) := by decide +kernel
set_option maxRecDepth 20000 in
theorem ggX0_passMinutes_X0_passMinute : GoodIn wsX0_passMinutes wsX0_passMinute := goodIn_r _ [5, 6, 7, 8, 9, 10, 11, 12, 13, 14, 15, 16, 17, 18, 19, 4, 20, 21, 22, 23, 24, 25, 26, 27, 28, 29, 30, 31, 32, 33, 34, 35, 36, 37, 38, 39, 40, 41, 42, 43, 44, 45, 46, 47, 48, 49, 50, 51, 52, 53, 54, 55, 56, 57, 58, 59, 60, 61, 62, 63, 64, 65, 66, 67, 68, 69, 70, 71, 72, 73, 74, 75, 76, 77, 78, 79, 80, 81, 82, 83, 84, 85, 86, 87, 88, 89, 90, 91, 92, 93, 94, 95] (by decide +kernel) (by decide +kernel)
set_option maxRecDepth 20000 in
theorem gX0_passMinutes_X0_passMinute : GoodIn wsX0_passMinutes (wsV RX0 92 RX0 yX0_passMinute wsX0_passMinute) := goodIn_app (goodIn_of _ (by decide +kernel)) ggX0_passMinutes_X0_passMinute
theorem dX0_passMinutes_0 : decode cX0_passMinutes 0 = .ok (.iconst 0, 1) := by decide +kernel
theorem dX0_passMinutes_1 : decode cX0_passMinutes 1 = .ok (.istore_n 2, 1) := by decide +kernel
theorem dX0_passMinutes_2 : decode cX0_passMinutes 2 = .ok (.iload_n 2, 1) := by decide +kernel
theorem dX0_passMinutes_3 : decode cX0_passMinutes 3 = .ok (.iload_n 1, 1) := by decide +kernel
theorem dX0_passMinutes_4 : decode cX0_passMinutes 4 = .ok (.if_icmp .ge 13, 3) := by decide +kernel
theorem dX0_passMinutes_7 : decode cX0_passMinutes 7 = .ok (.aload_n 0, 1) := by decide +kernel
theorem dX0_passMinutes_8 : decode cX0_passMinutes 8 = .ok (.invokevirtual 92, 3) := by decide +kernel
theorem dX0_passMinutes_11 : decode cX0_passMinutes 11 = .ok (.iinc 2 1, 3) := by decide +kernel
theorem dX0_passMinutes_14 : decode cX0_passMinutes 14 = .ok (.goto (-12), 3) := by decide +kernel
theorem dX0_passMinutes_17 : decode cX0_passMinutes 17 = .ok (.return_, 1) := by decide +kernel
set_option maxRecDepth 20000 in
theorem ggX0_passMinute_X0_pushNow : GoodIn wsX0_passMinute wsX0_pushNow := goodIn_r _ [16, 17, 18, 19, 20, 21, 15, 22, 23, 24, 25, 26, 27, 11, 28, 29, 30, 31, 32, 33, 34, 35, 36, 37, 38, 39, 40, 41, 42, 43, 44, 45, 46, 78, 79, 80, 81, 82, 83, 84, 85, 86, 87, 88, 89, 90, 91] (by decide +kernel) (by decide +kernel)
set_option maxRecDepth 20000 in
theorem gX0_passMinute_X0_pushNow : GoodIn wsX0_passMinute (wsV RX0 95 RX0 yX0_pushNow wsX0_pushNow) := goodIn_app (goodIn_of _ (by decide +kernel)) ggX0_passMinute_X0_pushNow
set_option maxRecDepth 20000 in
theorem ggX0_passMinute_X0_weightNow : GoodIn wsX0_passMinute wsX0_weightNow := goodIn_r _ [50, 51, 52, 53, 54, 15, 55, 56, 57, 78, 79, 80, 81, 82, 83, 84, 85, 86, 87, 88, 89, 90, 91] (by decide +kernel) (by decide +kernel)
set_option maxRecDepth 20000 in
theorem gX0_passMinute_X0_weightNow : GoodIn wsX0_passMinute (wsV RX0 98 RX0 yX0_weightNow wsX0_weightNow) := goodIn_app (goodIn_of _ (by decide +kernel)) ggX0_passMinute_X0_weightNow
set_option maxRecDepth 20000 in
theorem ggX0_passMinute_X0_tryGrips : GoodIn wsX0_passMinute wsX0_tryGrips := goodIn_r _ [61, 56, 57, 62, 1, 63, 6, 7, 4, 8, 2, 3, 5, 78, 79, 80, 81, 82, 83, 84, 85, 86, 87, 88, 89, 90, 91] (by decide +kernel) (by decide +kernel)
set_option maxRecDepth 20000 in
theorem gX0_passMinute_X0_tryGrips : GoodIn wsX0_passMinute (wsV RX0 111 RX0 yX0_tryGrips wsX0_tryGrips) := goodIn_app (goodIn_of _ (by decide +kernel)) ggX0_passMinute_X0_tryGrips
set_option maxRecDepth 20000 in
theorem ggX0_passMinute_X0_letSpeak : GoodIn wsX0_passMinute wsX0_letSpeak := goodIn_r _ [67, 17, 18, 41, 40, 2, 3, 4, 5, 42, 6, 7, 8, 28, 29, 30, 15, 31, 32, 33, 34, 35, 24, 25, 26, 27, 11, 68, 69, 70, 71, 1, 72, 73, 45, 74, 75, 76, 77, 78, 79, 80, 81, 82, 83, 84, 85, 86, 87, 88, 89, 90, 91] (by decide +kernel) (by decide +kernel)
set_option maxRecDepth 20000 in
theorem gX0_passMinute_X0_letSpeak : GoodIn wsX0_passMinute (wsV RX0 114 RX0 yX0_letSpeak wsX0_letSpeak) := goodIn_app (goodIn_of _ (by decide +kernel)) ggX0_passMinute_X0_letSpeak
theorem dX0_passMinute_0 : decode cX0_passMinute 0 = .ok (.aload_n 0, 1) := by decide +kernel
theorem dX0_passMinute_1 : decode cX0_passMinute 1 = .ok (.invokevirtual 95, 3) := by decide +kernel
theorem dX0_passMinute_4 : decode cX0_passMinute 4 = .ok (.istore_n 1, 1) := by decide +kernel
theorem dX0_passMinute_5 : decode cX0_passMinute 5 = .ok (.aload_n 0, 1) := by decide +kernel
theorem dX0_passMinute_6 : decode cX0_passMinute 6 = .ok (.invokevirtual 98, 3) := by decide +kernel
theorem dX0_passMinute_9 : decode cX0_passMinute 9 = .ok (.istore_n 2, 1) := by decide +kernel
theorem dX0_passMinute_10 : decode cX0_passMinute 10 = .ok (.iload_n 2, 1) := by decide +kernel
theorem dX0_passMinute_11 : decode cX0_passMinute 11 = .ok (.ifCond .le 9, 3) := by decide +kernel
theorem dX0_passMinute_14 : decode cX0_passMinute 14 = .ok (.iload_n 1, 1) := by decide +kernel
theorem dX0_passMinute_15 : decode cX0_passMinute 15 = .ok (.iload_n 2, 1) := by decide +kernel
theorem dX0_passMinute_16 : decode cX0_passMinute 16 = .ok (.idiv, 1) := by decide +kernel
theorem dX0_passMinute_17 : decode cX0_passMinute 17 = .ok (.goto 4, 3) := by decide +kernel
theorem dX0_passMinute_20 : decode cX0_passMinute 20 = .ok (.iconst 0, 1) := by decide +kernel
theorem dX0_passMinute_21 : decode cX0_passMinute 21 = .ok (.istore_n 3, 1) := by decide +kernel
theorem dX0_passMinute_22 : decode cX0_passMinute 22 = .ok (.iconst 1, 1) := by decide +kernel
theorem dX0_passMinute_23 : decode cX0_passMinute 23 = .ok (.aload_n 0, 1) := by decide +kernel
theorem dX0_passMinute_24 : decode cX0_passMinute 24 = .ok (.getfield 43, 3) := by decide +kernel
theorem dX0_passMinute_27 : decode cX0_passMinute 27 = .ok (.bipush 10, 2) := by decide +kernel
theorem dX0_passMinute_29 : decode cX0_passMinute 29 = .ok (.idiv, 1) := by decide +kernel
theorem dX0_passMinute_30 : decode cX0_passMinute 30 = .ok (.invokestatic 101, 3) := by decide +kernel
theorem dX0_passMinute_33 : decode cX0_passMinute 33 = .ok (.istore 4, 2) := by decide +kernel
theorem dX0_passMinute_35 : decode cX0_passMinute 35 = .ok (.aload_n 0, 1) := by decide +kernel
theorem dX0_passMinute_36 : decode cX0_passMinute 36 = .ok (.iconst 0, 1) := by decide +kernel
theorem dX0_passMinute_37 : decode cX0_passMinute 37 = .ok (.sipush 200, 3) := by decide +kernel
theorem dX0_passMinute_40 : decode cX0_passMinute 40 = .ok (.aload_n 0, 1) := by decide +kernel
theorem dX0_passMinute_41 : decode cX0_passMinute 41 = .ok (.getfield 43, 3) := by decide +kernel
theorem dX0_passMinute_44 : decode cX0_passMinute 44 = .ok (.iload_n 3, 1) := by decide +kernel
theorem dX0_passMinute_45 : decode cX0_passMinute 45 = .ok (.iadd, 1) := by decide +kernel
theorem dX0_passMinute_46 : decode cX0_passMinute 46 = .ok (.iload 4, 2) := by decide +kernel
theorem dX0_passMinute_48 : decode cX0_passMinute 48 = .ok (.isub, 1) := by decide +kernel
theorem dX0_passMinute_49 : decode cX0_passMinute 49 = .ok (.invokestatic 107, 3) := by decide +kernel
theorem dX0_passMinute_52 : decode cX0_passMinute 52 = .ok (.invokestatic 101, 3) := by decide +kernel
theorem dX0_passMinute_55 : decode cX0_passMinute 55 = .ok (.putfield 43, 3) := by decide +kernel
theorem dX0_passMinute_58 : decode cX0_passMinute 58 = .ok (.aload_n 0, 1) := by decide +kernel
theorem dX0_passMinute_59 : decode cX0_passMinute 59 = .ok (.ldc 110, 2) := by decide +kernel
theorem dX0_passMinute_61 : decode cX0_passMinute 61 = .ok (.aload_n 0, 1) := by decide +kernel
theorem dX0_passMinute_62 : decode cX0_passMinute 62 = .ok (.getfield 46, 3) := by decide +kernel
theorem dX0_passMinute_65 : decode cX0_passMinute 65 = .ok (.aload_n 0, 1) := by decide +kernel
theorem dX0_passMinute_66 : decode cX0_passMinute 66 = .ok (.getfield 43, 3) := by decide +kernel
theorem dX0_passMinute_69 : decode cX0_passMinute 69 = .ok (.iadd, 1) := by decide +kernel
theorem dX0_passMinute_70 : decode cX0_passMinute 70 = .ok (.invokestatic 107, 3) := by decide +kernel
theorem dX0_passMinute_73 : decode cX0_passMinute 73 = .ok (.putfield 46, 3) := by decide +kernel
theorem dX0_passMinute_76 : decode cX0_passMinute 76 = .ok (.aload_n 0, 1) := by decide +kernel
theorem dX0_passMinute_77 : decode cX0_passMinute 77 = .ok (.invokevirtual 111, 3) := by decide +kernel
theorem dX0_passMinute_80 : decode cX0_passMinute 80 = .ok (.aload_n 0, 1) := by decide +kernel
theorem dX0_passMinute_81 : decode cX0_passMinute 81 = .ok (.invokevirtual 114, 3) := by decide +kernel
theorem dX0_passMinute_84 : decode cX0_passMinute 84 = .ok (.aload_n 0, 1) := by decide +kernel
theorem dX0_passMinute_85 : decode cX0_passMinute 85 = .ok (.dup, 1) := by decide +kernel
theorem dX0_passMinute_86 : decode cX0_passMinute 86 = .ok (.getfield 37, 3) := by decide +kernel
theorem dX0_passMinute_89 : decode cX0_passMinute 89 = .ok (.iconst 1, 1) := by decide +kernel
theorem dX0_passMinute_90 : decode cX0_passMinute 90 = .ok (.iadd, 1) := by decide +kernel
theorem dX0_passMinute_91 : decode cX0_passMinute 91 = .ok (.putfield 37, 3) := by decide +kernel
theorem dX0_passMinute_94 : decode cX0_passMinute 94 = .ok (.return_, 1) := by decide +kernel
theorem dX0_tryGrips_0 : decode cX0_tryGrips 0 = .ok (.iconst 0, 1) := by decide +kernel
theorem dX0_tryGrips_1 : decode cX0_tryGrips 1 = .ok (.istore_n 1, 1) := by decide +kernel
theorem dX0_tryGrips_2 : decode cX0_tryGrips 2 = .ok (.iload_n 1, 1) := by decide +kernel
theorem dX0_tryGrips_3 : decode cX0_tryGrips 3 = .ok (.aload_n 0, 1) := by decide +kernel
theorem dX0_tryGrips_4 : decode cX0_tryGrips 4 = .ok (.getfield 58, 3) := by decide +kernel
theorem dX0_tryGrips_7 : decode cX0_tryGrips 7 = .ok (.if_icmp .ge 89, 3) := by decide +kernel
theorem dX0_tryGrips_10 : decode cX0_tryGrips 10 = .ok (.aload_n 0, 1) := by decide +kernel
theorem dX0_tryGrips_11 : decode cX0_tryGrips 11 = .ok (.getfield 31, 3) := by decide +kernel
theorem dX0_tryGrips_14 : decode cX0_tryGrips 14 = .ok (.iload_n 1, 1) := by decide +kernel
theorem dX0_tryGrips_15 : decode cX0_tryGrips 15 = .ok (.iaload, 1) := by decide +kernel
theorem dX0_tryGrips_16 : decode cX0_tryGrips 16 = .ok (.iconst 1, 1) := by decide +kernel
theorem dX0_tryGrips_17 : decode cX0_tryGrips 17 = .ok (.if_icmp .ne 73, 3) := by decide +kernel
theorem dX0_tryGrips_20 : decode cX0_tryGrips 20 = .ok (.aload_n 0, 1) := by decide +kernel
theorem dX0_tryGrips_21 : decode cX0_tryGrips 21 = .ok (.getfield 28, 3) := by decide +kernel
theorem dX0_tryGrips_24 : decode cX0_tryGrips 24 = .ok (.iload_n 1, 1) := by decide +kernel
theorem dX0_tryGrips_25 : decode cX0_tryGrips 25 = .ok (.iaload, 1) := by decide +kernel
theorem dX0_tryGrips_26 : decode cX0_tryGrips 26 = .ok (.aload_n 0, 1) := by decide +kernel
theorem dX0_tryGrips_27 : decode cX0_tryGrips 27 = .ok (.getfield 43, 3) := by decide +kernel
theorem dX0_tryGrips_30 : decode cX0_tryGrips 30 = .ok (.if_icmp .ge 33, 3) := by decide +kernel
theorem dX0_tryGrips_33 : decode cX0_tryGrips 33 = .ok (.aload_n 0, 1) := by decide +kernel
theorem dX0_tryGrips_34 : decode cX0_tryGrips 34 = .ok (.getfield 31, 3) := by decide +kernel
theorem dX0_tryGrips_37 : decode cX0_tryGrips 37 = .ok (.iload_n 1, 1) := by decide +kernel
theorem dX0_tryGrips_38 : decode cX0_tryGrips 38 = .ok (.iconst 0, 1) := by decide +kernel
theorem dX0_tryGrips_39 : decode cX0_tryGrips 39 = .ok (.iastore, 1) := by decide +kernel
theorem dX0_tryGrips_40 : decode cX0_tryGrips 40 = .ok (.aload_n 0, 1) := by decide +kernel
theorem dX0_tryGrips_41 : decode cX0_tryGrips 41 = .ok (.getfield 34, 3) := by decide +kernel
theorem dX0_tryGrips_44 : decode cX0_tryGrips 44 = .ok (.iload_n 1, 1) := by decide +kernel
theorem dX0_tryGrips_45 : decode cX0_tryGrips 45 = .ok (.sipush 9999, 3) := by decide +kernel
theorem dX0_tryGrips_48 : decode cX0_tryGrips 48 = .ok (.aload_n 0, 1) := by decide +kernel
theorem dX0_tryGrips_49 : decode cX0_tryGrips 49 = .ok (.getfield 34, 3) := by decide +kernel
theorem dX0_tryGrips_52 : decode cX0_tryGrips 52 = .ok (.iload_n 1, 1) := by decide +kernel
theorem dX0_tryGrips_53 : decode cX0_tryGrips 53 = .ok (.iaload, 1) := by decide +kernel
theorem dX0_tryGrips_54 : decode cX0_tryGrips 54 = .ok (.iconst 1, 1) := by decide +kernel
theorem dX0_tryGrips_55 : decode cX0_tryGrips 55 = .ok (.iadd, 1) := by decide +kernel
theorem dX0_tryGrips_56 : decode cX0_tryGrips 56 = .ok (.invokestatic 107, 3) := by decide +kernel
theorem dX0_tryGrips_59 : decode cX0_tryGrips 59 = .ok (.iastore, 1) := by decide +kernel
theorem dX0_tryGrips_60 : decode cX0_tryGrips 60 = .ok (.goto 30, 3) := by decide +kernel
theorem dX0_tryGrips_63 : decode cX0_tryGrips 63 = .ok (.aload_n 0, 1) := by decide +kernel
theorem dX0_tryGrips_64 : decode cX0_tryGrips 64 = .ok (.getfield 43, 3) := by decide +kernel
theorem dX0_tryGrips_67 : decode cX0_tryGrips 67 = .ok (.bipush 30, 2) := by decide +kernel
theorem dX0_tryGrips_69 : decode cX0_tryGrips 69 = .ok (.if_icmp .le 21, 3) := by decide +kernel
theorem dX0_tryGrips_72 : decode cX0_tryGrips 72 = .ok (.aload_n 0, 1) := by decide +kernel
theorem dX0_tryGrips_73 : decode cX0_tryGrips 73 = .ok (.getfield 28, 3) := by decide +kernel
theorem dX0_tryGrips_76 : decode cX0_tryGrips 76 = .ok (.iload_n 1, 1) := by decide +kernel
theorem dX0_tryGrips_77 : decode cX0_tryGrips 77 = .ok (.iconst 0, 1) := by decide +kernel
theorem dX0_tryGrips_78 : decode cX0_tryGrips 78 = .ok (.aload_n 0, 1) := by decide +kernel
theorem dX0_tryGrips_79 : decode cX0_tryGrips 79 = .ok (.getfield 28, 3) := by decide +kernel
theorem dX0_tryGrips_82 : decode cX0_tryGrips 82 = .ok (.iload_n 1, 1) := by decide +kernel
theorem dX0_tryGrips_83 : decode cX0_tryGrips 83 = .ok (.iaload, 1) := by decide +kernel
theorem dX0_tryGrips_84 : decode cX0_tryGrips 84 = .ok (.iconst 1, 1) := by decide +kernel
theorem dX0_tryGrips_85 : decode cX0_tryGrips 85 = .ok (.isub, 1) := by decide +kernel
theorem dX0_tryGrips_86 : decode cX0_tryGrips 86 = .ok (.invokestatic 101, 3) := by decide +kernel
theorem dX0_tryGrips_89 : decode cX0_tryGrips 89 = .ok (.iastore, 1) := by decide +kernel
theorem dX0_tryGrips_90 : decode cX0_tryGrips 90 = .ok (.iinc 1 1, 3) := by decide +kernel
theorem dX0_tryGrips_93 : decode cX0_tryGrips 93 = .ok (.goto (-91), 3) := by decide +kernel
theorem dX0_tryGrips_96 : decode cX0_tryGrips 96 = .ok (.return_, 1) := by decide +kernel
set_option maxRecDepth 20000 in
theorem ggX0_letSpeak_X0_outCount : GoodIn wsX0_letSpeak wsX0_outCount := goodIn_r _ [17, 1, 2, 39, 40, 41, 42, 43, 44, 45, 46, 47, 48, 49, 50, 51, 52] (by decide +kernel) (by decide +kernel)
set_option maxRecDepth 20000 in
theorem gX0_letSpeak_X0_outCount : GoodIn wsX0_letSpeak (wsV RX0 82 RX0 yX0_outCount wsX0_outCount) := goodIn_app (goodIn_of _ (by decide +kernel)) ggX0_letSpeak_X0_outCount
set_option maxRecDepth 20000 in
theorem ggX0_letSpeak_X0_isNight : GoodIn wsX0_letSpeak wsX0_isNight := goodIn_r _ [21, 22, 23, 24, 16, 25, 26, 39, 40, 41, 42, 43, 44, 45, 46, 47, 48, 49, 50, 51, 52] (by decide +kernel) (by decide +kernel)
set_option maxRecDepth 20000 in
theorem gX0_letSpeak_X0_isNight : GoodIn wsX0_letSpeak (wsV RX0 85 RX0 yX0_isNight wsX0_isNight) := goodIn_app (goodIn_of _ (by decide +kernel)) ggX0_letSpeak_X0_isNight
set_option maxRecDepth 20000 in
theorem ggX0_letSpeak_X0_speaksNow : GoodIn wsX0_letSpeak wsX0_speaksNow := goodIn_r _ [30, 4, 9, 2, 31, 32, 33, 34, 35, 39, 40, 41, 42, 43, 44, 45, 46, 47, 48, 49, 50, 51, 52] (by decide +kernel) (by decide +kernel)
set_option maxRecDepth 20000 in
theorem gX0_letSpeak_X0_speaksNow : GoodIn wsX0_letSpeak (wsV RX0 117 RX0 yX0_speaksNow wsX0_speaksNow) := goodIn_app (goodIn_of _ (by decide +kernel)) ggX0_letSpeak_X0_speaksNow
set_option maxRecDepth 20000 in
theorem ggX0_letSpeak_X1_tells : GoodIn wsX0_letSpeak wsX1_tells := goodIn_r _ [38] (by decide +kernel) (by decide +kernel)
set_option maxRecDepth 20000 in
theorem gX0_letSpeak_X1_tells : GoodIn wsX0_letSpeak (va_wsS RX0 121 yX1_tells wsX1_tells) := goodIn_app (goodIn_of _ (by decide +kernel)) ggX0_letSpeak_X1_tells
theorem dX0_letSpeak_0 : decode cX0_letSpeak 0 = .ok (.aload_n 0, 1) := by decide +kernel
theorem dX0_letSpeak_1 : decode cX0_letSpeak 1 = .ok (.invokevirtual 82, 3) := by decide +kernel
theorem dX0_letSpeak_4 : decode cX0_letSpeak 4 = .ok (.istore_n 1, 1) := by decide +kernel
theorem dX0_letSpeak_5 : decode cX0_letSpeak 5 = .ok (.aload_n 0, 1) := by decide +kernel
theorem dX0_letSpeak_6 : decode cX0_letSpeak 6 = .ok (.invokevirtual 85, 3) := by decide +kernel
theorem dX0_letSpeak_9 : decode cX0_letSpeak 9 = .ok (.istore_n 2, 1) := by decide +kernel
theorem dX0_letSpeak_10 : decode cX0_letSpeak 10 = .ok (.iconst 0, 1) := by decide +kernel
theorem dX0_letSpeak_11 : decode cX0_letSpeak 11 = .ok (.istore_n 3, 1) := by decide +kernel
theorem dX0_letSpeak_12 : decode cX0_letSpeak 12 = .ok (.iload_n 3, 1) := by decide +kernel
theorem dX0_letSpeak_13 : decode cX0_letSpeak 13 = .ok (.aload_n 0, 1) := by decide +kernel
theorem dX0_letSpeak_14 : decode cX0_letSpeak 14 = .ok (.getfield 49, 3) := by decide +kernel
theorem dX0_letSpeak_17 : decode cX0_letSpeak 17 = .ok (.if_icmp .ge 85, 3) := by decide +kernel
theorem dX0_letSpeak_20 : decode cX0_letSpeak 20 = .ok (.aload_n 0, 1) := by decide +kernel
theorem dX0_letSpeak_21 : decode cX0_letSpeak 21 = .ok (.getfield 19, 3) := by decide +kernel
theorem dX0_letSpeak_24 : decode cX0_letSpeak 24 = .ok (.iload_n 3, 1) := by decide +kernel
theorem dX0_letSpeak_25 : decode cX0_letSpeak 25 = .ok (.iaload, 1) := by decide +kernel
theorem dX0_letSpeak_26 : decode cX0_letSpeak 26 = .ok (.iconst 1, 1) := by decide +kernel
theorem dX0_letSpeak_27 : decode cX0_letSpeak 27 = .ok (.if_icmp .ne 69, 3) := by decide +kernel
theorem dX0_letSpeak_30 : decode cX0_letSpeak 30 = .ok (.aload_n 0, 1) := by decide +kernel
theorem dX0_letSpeak_31 : decode cX0_letSpeak 31 = .ok (.iload_n 3, 1) := by decide +kernel
theorem dX0_letSpeak_32 : decode cX0_letSpeak 32 = .ok (.iload_n 1, 1) := by decide +kernel
theorem dX0_letSpeak_33 : decode cX0_letSpeak 33 = .ok (.iload_n 2, 1) := by decide +kernel
theorem dX0_letSpeak_34 : decode cX0_letSpeak 34 = .ok (.invokevirtual 117, 3) := by decide +kernel
theorem dX0_letSpeak_37 : decode cX0_letSpeak 37 = .ok (.ifCond .eq 39, 3) := by decide +kernel
theorem dX0_letSpeak_40 : decode cX0_letSpeak 40 = .ok (.aload_n 0, 1) := by decide +kernel
theorem dX0_letSpeak_41 : decode cX0_letSpeak 41 = .ok (.getfield 22, 3) := by decide +kernel
theorem dX0_letSpeak_44 : decode cX0_letSpeak 44 = .ok (.iload_n 3, 1) := by decide +kernel
theorem dX0_letSpeak_45 : decode cX0_letSpeak 45 = .ok (.iconst 0, 1) := by decide +kernel
theorem dX0_letSpeak_46 : decode cX0_letSpeak 46 = .ok (.aload_n 0, 1) := by decide +kernel
theorem dX0_letSpeak_47 : decode cX0_letSpeak 47 = .ok (.getfield 22, 3) := by decide +kernel
theorem dX0_letSpeak_50 : decode cX0_letSpeak 50 = .ok (.iload_n 3, 1) := by decide +kernel
theorem dX0_letSpeak_51 : decode cX0_letSpeak 51 = .ok (.iaload, 1) := by decide +kernel
theorem dX0_letSpeak_52 : decode cX0_letSpeak 52 = .ok (.aload_n 0, 1) := by decide +kernel
theorem dX0_letSpeak_53 : decode cX0_letSpeak 53 = .ok (.getfield 15, 3) := by decide +kernel
theorem dX0_letSpeak_56 : decode cX0_letSpeak 56 = .ok (.iload_n 3, 1) := by decide +kernel
theorem dX0_letSpeak_57 : decode cX0_letSpeak 57 = .ok (.iaload, 1) := by decide +kernel
theorem dX0_letSpeak_58 : decode cX0_letSpeak 58 = .ok (.invokestatic 121, 3) := by decide +kernel
theorem dX0_letSpeak_61 : decode cX0_letSpeak 61 = .ok (.isub, 1) := by decide +kernel
theorem dX0_letSpeak_62 : decode cX0_letSpeak 62 = .ok (.invokestatic 101, 3) := by decide +kernel
theorem dX0_letSpeak_65 : decode cX0_letSpeak 65 = .ok (.iastore, 1) := by decide +kernel
theorem dX0_letSpeak_66 : decode cX0_letSpeak 66 = .ok (.aload_n 0, 1) := by decide +kernel
theorem dX0_letSpeak_67 : decode cX0_letSpeak 67 = .ok (.getfield 25, 3) := by decide +kernel
theorem dX0_letSpeak_70 : decode cX0_letSpeak 70 = .ok (.iload_n 3, 1) := by decide +kernel
theorem dX0_letSpeak_71 : decode cX0_letSpeak 71 = .ok (.iconst 0, 1) := by decide +kernel
theorem dX0_letSpeak_72 : decode cX0_letSpeak 72 = .ok (.iastore, 1) := by decide +kernel
theorem dX0_letSpeak_73 : decode cX0_letSpeak 73 = .ok (.goto 23, 3) := by decide +kernel
theorem dX0_letSpeak_76 : decode cX0_letSpeak 76 = .ok (.aload_n 0, 1) := by decide +kernel
theorem dX0_letSpeak_77 : decode cX0_letSpeak 77 = .ok (.getfield 25, 3) := by decide +kernel
theorem dX0_letSpeak_80 : decode cX0_letSpeak 80 = .ok (.iload_n 3, 1) := by decide +kernel
theorem dX0_letSpeak_81 : decode cX0_letSpeak 81 = .ok (.sipush 999, 3) := by decide +kernel
theorem dX0_letSpeak_84 : decode cX0_letSpeak 84 = .ok (.aload_n 0, 1) := by decide +kernel
theorem dX0_letSpeak_85 : decode cX0_letSpeak 85 = .ok (.getfield 25, 3) := by decide +kernel
theorem dX0_letSpeak_88 : decode cX0_letSpeak 88 = .ok (.iload_n 3, 1) := by decide +kernel
theorem dX0_letSpeak_89 : decode cX0_letSpeak 89 = .ok (.iaload, 1) := by decide +kernel
theorem dX0_letSpeak_90 : decode cX0_letSpeak 90 = .ok (.iconst 1, 1) := by decide +kernel
theorem dX0_letSpeak_91 : decode cX0_letSpeak 91 = .ok (.iadd, 1) := by decide +kernel
theorem dX0_letSpeak_92 : decode cX0_letSpeak 92 = .ok (.invokestatic 107, 3) := by decide +kernel
theorem dX0_letSpeak_95 : decode cX0_letSpeak 95 = .ok (.iastore, 1) := by decide +kernel
theorem dX0_letSpeak_96 : decode cX0_letSpeak 96 = .ok (.iinc 3 1, 3) := by decide +kernel
theorem dX0_letSpeak_99 : decode cX0_letSpeak 99 = .ok (.goto (-87), 3) := by decide +kernel
theorem dX0_letSpeak_102 : decode cX0_letSpeak 102 = .ok (.return_, 1) := by decide +kernel
theorem dX1_isKind_0 : decode cX1_isKind 0 = .ok (.iload_n 0, 1) := by decide +kernel
theorem dX1_isKind_1 : decode cX1_isKind 1 = .ok (.ifCond .lt 13, 3) := by decide +kernel
theorem dX1_isKind_4 : decode cX1_isKind 4 = .ok (.iload_n 0, 1) := by decide +kernel
theorem dX1_isKind_5 : decode cX1_isKind 5 = .ok (.bipush 6, 2) := by decide +kernel
theorem dX1_isKind_7 : decode cX1_isKind 7 = .ok (.if_icmp .ge 7, 3) := by decide +kernel
theorem dX1_isKind_10 : decode cX1_isKind 10 = .ok (.iconst 1, 1) := by decide +kernel
theorem dX1_isKind_11 : decode cX1_isKind 11 = .ok (.goto 4, 3) := by decide +kernel
theorem dX1_isKind_14 : decode cX1_isKind 14 = .ok (.iconst 0, 1) := by decide +kernel
theorem dX1_isKind_15 : decode cX1_isKind 15 = .ok (.ireturn, 1) := by decide +kernel
set_option maxRecDepth 20000 in
theorem ggX1_isUnder_X1_kindAbove : GoodIn wsX1_isUnder wsX1_kindAbove := goodIn_r _ [4] (by decide +kernel) (by decide +kernel)
set_option maxRecDepth 20000 in
theorem gX1_isUnder_X1_kindAbove : GoodIn wsX1_isUnder (va_wsS RX1 9 yX1_kindAbove wsX1_kindAbove) := goodIn_app (goodIn_of _ (by decide +kernel)) ggX1_isUnder_X1_kindAbove
theorem dX1_isUnder_0 : decode cX1_isUnder 0 = .ok (.iload_n 0, 1) := by decide +kernel
theorem dX1_isUnder_1 : decode cX1_isUnder 1 = .ok (.iload_n 1, 1) := by decide +kernel
theorem dX1_isUnder_2 : decode cX1_isUnder 2 = .ok (.if_icmp .eq 15, 3) := by decide +kernel
theorem dX1_isUnder_5 : decode cX1_isUnder 5 = .ok (.iload_n 1, 1) := by decide +kernel
theorem dX1_isUnder_6 : decode cX1_isUnder 6 = .ok (.ifCond .eq 11, 3) := by decide +kernel
theorem dX1_isUnder_9 : decode cX1_isUnder 9 = .ok (.iload_n 0, 1) := by decide +kernel
theorem dX1_isUnder_10 : decode cX1_isUnder 10 = .ok (.invokestatic 9, 3) := by decide +kernel
theorem dX1_isUnder_13 : decode cX1_isUnder 13 = .ok (.iload_n 1, 1) := by decide +kernel
theorem dX1_isUnder_14 : decode cX1_isUnder 14 = .ok (.if_icmp .ne 7, 3) := by decide +kernel
theorem dX1_isUnder_17 : decode cX1_isUnder 17 = .ok (.iconst 1, 1) := by decide +kernel
theorem dX1_isUnder_18 : decode cX1_isUnder 18 = .ok (.goto 4, 3) := by decide +kernel
theorem dX1_isUnder_21 : decode cX1_isUnder 21 = .ok (.iconst 0, 1) := by decide +kernel
theorem dX1_isUnder_22 : decode cX1_isUnder 22 = .ok (.ireturn, 1) := by decide +kernel
theorem dX1_kindAbove_0 : decode cX1_kindAbove 0 = .ok (.iload_n 0, 1) := by decide +kernel
theorem dX1_kindAbove_1 : decode cX1_kindAbove 1 = .ok (.lookupswitch 31 #[(4, 27), (5, 29)], 27) := by decide +kernel
theorem dX1_kindAbove_28 : decode cX1_kindAbove 28 = .ok (.iconst 1, 1) := by decide +kernel
theorem dX1_kindAbove_29 : decode cX1_kindAbove 29 = .ok (.ireturn, 1) := by decide +kernel
theorem dX1_kindAbove_30 : decode cX1_kindAbove 30 = .ok (.iconst 2, 1) := by decide +kernel
theorem dX1_kindAbove_31 : decode cX1_kindAbove 31 = .ok (.ireturn, 1) := by decide +kernel
theorem dX1_kindAbove_32 : decode cX1_kindAbove 32 = .ok (.iconst 0, 1) := by decide +kernel
theorem dX1_kindAbove_33 : decode cX1_kindAbove 33 = .ok (.ireturn, 1) := by decide +kernel
theorem dX1_keeps_0 : decode cX1_keeps 0 = .ok (.iload_n 1, 1) := by decide +kernel
theorem dX1_keeps_1 : decode cX1_keeps 1 = .ok (.iconst 5, 1) := by decide +kernel
theorem dX1_keeps_2 : decode cX1_keeps 2 = .ok (.idiv, 1) := by decide +kernel
theorem dX1_keeps_3 : decode cX1_keeps 3 = .ok (.iload_n 2, 1) := by decide +kernel
theorem dX1_keeps_4 : decode cX1_keeps 4 = .ok (.iadd, 1) := by decide +kernel
theorem dX1_keeps_5 : decode cX1_keeps 5 = .ok (.istore 5, 2) := by decide +kernel
theorem dX1_keeps_7 : decode cX1_keeps 7 = .ok (.iload_n 1, 1) := by decide +kernel
theorem dX1_keeps_8 : decode cX1_keeps 8 = .ok (.iconst 2, 1) := by decide +kernel
theorem dX1_keeps_9 : decode cX1_keeps 9 = .ok (.idiv, 1) := by decide +kernel
theorem dX1_keeps_10 : decode cX1_keeps 10 = .ok (.iload_n 2, 1) := by decide +kernel
theorem dX1_keeps_11 : decode cX1_keeps 11 = .ok (.iadd, 1) := by decide +kernel
theorem dX1_keeps_12 : decode cX1_keeps 12 = .ok (.istore 6, 2) := by decide +kernel
theorem dX1_keeps_14 : decode cX1_keeps 14 = .ok (.iload_n 3, 1) := by decide +kernel
theorem dX1_keeps_15 : decode cX1_keeps 15 = .ok (.ifCond .ne 7, 3) := by decide +kernel
theorem dX1_keeps_18 : decode cX1_keeps 18 = .ok (.iconst 0, 1) := by decide +kernel
theorem dX1_keeps_19 : decode cX1_keeps 19 = .ok (.goto 5, 3) := by decide +kernel
theorem dX1_keeps_22 : decode cX1_keeps 22 = .ok (.iload 5, 2) := by decide +kernel
theorem dX1_keeps_24 : decode cX1_keeps 24 = .ok (.istore 7, 2) := by decide +kernel
theorem dX1_keeps_26 : decode cX1_keeps 26 = .ok (.iload_n 0, 1) := by decide +kernel
theorem dX1_keeps_27 : decode cX1_keeps 27 = .ok (.tableswitch 66 1 5 #[33, 36, 39, 43, 59], 33) := by decide +kernel
theorem dX1_keeps_60 : decode cX1_keeps 60 = .ok (.iload 6, 2) := by decide +kernel
theorem dX1_keeps_62 : decode cX1_keeps 62 = .ok (.ireturn, 1) := by decide +kernel
theorem dX1_keeps_63 : decode cX1_keeps 63 = .ok (.iload 7, 2) := by decide +kernel
theorem dX1_keeps_65 : decode cX1_keeps 65 = .ok (.ireturn, 1) := by decide +kernel
theorem dX1_keeps_66 : decode cX1_keeps 66 = .ok (.iconst 2, 1) := by decide +kernel
theorem dX1_keeps_67 : decode cX1_keeps 67 = .ok (.iload_n 1, 1) := by decide +kernel
theorem dX1_keeps_68 : decode cX1_keeps 68 = .ok (.imul, 1) := by decide +kernel
theorem dX1_keeps_69 : decode cX1_keeps 69 = .ok (.ireturn, 1) := by decide +kernel
theorem dX1_keeps_70 : decode cX1_keeps 70 = .ok (.iload 4, 2) := by decide +kernel
theorem dX1_keeps_72 : decode cX1_keeps 72 = .ok (.ifCond .eq 11, 3) := by decide +kernel
theorem dX1_keeps_75 : decode cX1_keeps 75 = .ok (.iload 6, 2) := by decide +kernel
theorem dX1_keeps_77 : decode cX1_keeps 77 = .ok (.bipush 10, 2) := by decide +kernel
theorem dX1_keeps_79 : decode cX1_keeps 79 = .ok (.iadd, 1) := by decide +kernel
theorem dX1_keeps_80 : decode cX1_keeps 80 = .ok (.goto 5, 3) := by decide +kernel
theorem dX1_keeps_83 : decode cX1_keeps 83 = .ok (.iload 6, 2) := by decide +kernel
theorem dX1_keeps_85 : decode cX1_keeps 85 = .ok (.ireturn, 1) := by decide +kernel
theorem dX1_keeps_86 : decode cX1_keeps 86 = .ok (.iload 7, 2) := by decide +kernel
theorem dX1_keeps_88 : decode cX1_keeps 88 = .ok (.iconst 3, 1) := by decide +kernel
theorem dX1_keeps_89 : decode cX1_keeps 89 = .ok (.iload_n 3, 1) := by decide +kernel
theorem dX1_keeps_90 : decode cX1_keeps 90 = .ok (.imul, 1) := by decide +kernel
theorem dX1_keeps_91 : decode cX1_keeps 91 = .ok (.iadd, 1) := by decide +kernel
theorem dX1_keeps_92 : decode cX1_keeps 92 = .ok (.ireturn, 1) := by decide +kernel
theorem dX1_keeps_93 : decode cX1_keeps 93 = .ok (.iload 5, 2) := by decide +kernel
theorem dX1_keeps_95 : decode cX1_keeps 95 = .ok (.ireturn, 1) := by decide +kernel
theorem dX1_speaks_0 : decode cX1_speaks 0 = .ok (.iload_n 1, 1) := by decide +kernel
theorem dX1_speaks_1 : decode cX1_speaks 1 = .ok (.bipush 15, 2) := by decide +kernel
theorem dX1_speaks_3 : decode cX1_speaks 3 = .ok (.if_icmp .lt 7, 3) := by decide +kernel
theorem dX1_speaks_6 : decode cX1_speaks 6 = .ok (.iconst 1, 1) := by decide +kernel
theorem dX1_speaks_7 : decode cX1_speaks 7 = .ok (.goto 4, 3) := by decide +kernel
theorem dX1_speaks_10 : decode cX1_speaks 10 = .ok (.iconst 0, 1) := by decide +kernel
theorem dX1_speaks_11 : decode cX1_speaks 11 = .ok (.istore 5, 2) := by decide +kernel
theorem dX1_speaks_13 : decode cX1_speaks 13 = .ok (.iload_n 1, 1) := by decide +kernel
theorem dX1_speaks_14 : decode cX1_speaks 14 = .ok (.iconst 3, 1) := by decide +kernel
theorem dX1_speaks_15 : decode cX1_speaks 15 = .ok (.if_icmp .lt 11, 3) := by decide +kernel
theorem dX1_speaks_18 : decode cX1_speaks 18 = .ok (.iload_n 2, 1) := by decide +kernel
theorem dX1_speaks_19 : decode cX1_speaks 19 = .ok (.ifCond .le 7, 3) := by decide +kernel
theorem dX1_speaks_22 : decode cX1_speaks 22 = .ok (.iconst 1, 1) := by decide +kernel
theorem dX1_speaks_23 : decode cX1_speaks 23 = .ok (.goto 4, 3) := by decide +kernel
theorem dX1_speaks_26 : decode cX1_speaks 26 = .ok (.iconst 0, 1) := by decide +kernel
theorem dX1_speaks_27 : decode cX1_speaks 27 = .ok (.istore 6, 2) := by decide +kernel
theorem dX1_speaks_29 : decode cX1_speaks 29 = .ok (.iload_n 0, 1) := by decide +kernel
theorem dX1_speaks_30 : decode cX1_speaks 30 = .ok (.tableswitch 75 1 5 #[34, 37, 40, 42, 57], 34) := by decide +kernel
theorem dX1_speaks_64 : decode cX1_speaks 64 = .ok (.iload 5, 2) := by decide +kernel
theorem dX1_speaks_66 : decode cX1_speaks 66 = .ok (.ireturn, 1) := by decide +kernel
theorem dX1_speaks_67 : decode cX1_speaks 67 = .ok (.iload 6, 2) := by decide +kernel
theorem dX1_speaks_69 : decode cX1_speaks 69 = .ok (.ireturn, 1) := by decide +kernel
theorem dX1_speaks_70 : decode cX1_speaks 70 = .ok (.iconst 0, 1) := by decide +kernel
theorem dX1_speaks_71 : decode cX1_speaks 71 = .ok (.ireturn, 1) := by decide +kernel
theorem dX1_speaks_72 : decode cX1_speaks 72 = .ok (.iload 5, 2) := by decide +kernel
theorem dX1_speaks_74 : decode cX1_speaks 74 = .ok (.ifCond .eq 11, 3) := by decide +kernel
theorem dX1_speaks_77 : decode cX1_speaks 77 = .ok (.iload_n 3, 1) := by decide +kernel
theorem dX1_speaks_78 : decode cX1_speaks 78 = .ok (.ifCond .ne 7, 3) := by decide +kernel
theorem dX1_speaks_81 : decode cX1_speaks 81 = .ok (.iconst 1, 1) := by decide +kernel
theorem dX1_speaks_82 : decode cX1_speaks 82 = .ok (.goto 4, 3) := by decide +kernel
theorem dX1_speaks_85 : decode cX1_speaks 85 = .ok (.iconst 0, 1) := by decide +kernel
theorem dX1_speaks_86 : decode cX1_speaks 86 = .ok (.ireturn, 1) := by decide +kernel
theorem dX1_speaks_87 : decode cX1_speaks 87 = .ok (.iload 6, 2) := by decide +kernel
theorem dX1_speaks_89 : decode cX1_speaks 89 = .ok (.ifCond .ne 10, 3) := by decide +kernel
theorem dX1_speaks_92 : decode cX1_speaks 92 = .ok (.iload 4, 2) := by decide +kernel
theorem dX1_speaks_94 : decode cX1_speaks 94 = .ok (.bipush 100, 2) := by decide +kernel
theorem dX1_speaks_96 : decode cX1_speaks 96 = .ok (.if_icmp .le 7, 3) := by decide +kernel
theorem dX1_speaks_99 : decode cX1_speaks 99 = .ok (.iconst 1, 1) := by decide +kernel
theorem dX1_speaks_100 : decode cX1_speaks 100 = .ok (.goto 4, 3) := by decide +kernel
theorem dX1_speaks_103 : decode cX1_speaks 103 = .ok (.iconst 0, 1) := by decide +kernel
theorem dX1_speaks_104 : decode cX1_speaks 104 = .ok (.ireturn, 1) := by decide +kernel
theorem dX1_speaks_105 : decode cX1_speaks 105 = .ok (.iload_n 1, 1) := by decide +kernel
theorem dX1_speaks_106 : decode cX1_speaks 106 = .ok (.bipush 9, 2) := by decide +kernel
theorem dX1_speaks_108 : decode cX1_speaks 108 = .ok (.if_icmp .lt 7, 3) := by decide +kernel
theorem dX1_speaks_111 : decode cX1_speaks 111 = .ok (.iconst 1, 1) := by decide +kernel
theorem dX1_speaks_112 : decode cX1_speaks 112 = .ok (.goto 4, 3) := by decide +kernel
theorem dX1_speaks_115 : decode cX1_speaks 115 = .ok (.iconst 0, 1) := by decide +kernel
theorem dX1_speaks_116 : decode cX1_speaks 116 = .ok (.ireturn, 1) := by decide +kernel
theorem dX1_tells_0 : decode cX1_tells 0 = .ok (.iconst 3, 1) := by decide +kernel
theorem dX1_tells_1 : decode cX1_tells 1 = .ok (.istore_n 1, 1) := by decide +kernel
theorem dX1_tells_2 : decode cX1_tells 2 = .ok (.iload_n 1, 1) := by decide +kernel
theorem dX1_tells_3 : decode cX1_tells 3 = .ok (.iconst 1, 1) := by decide +kernel
theorem dX1_tells_4 : decode cX1_tells 4 = .ok (.isub, 1) := by decide +kernel
theorem dX1_tells_5 : decode cX1_tells 5 = .ok (.istore_n 2, 1) := by decide +kernel
theorem dX1_tells_6 : decode cX1_tells 6 = .ok (.iconst 2, 1) := by decide +kernel
theorem dX1_tells_7 : decode cX1_tells 7 = .ok (.iload_n 1, 1) := by decide +kernel
theorem dX1_tells_8 : decode cX1_tells 8 = .ok (.imul, 1) := by decide +kernel
theorem dX1_tells_9 : decode cX1_tells 9 = .ok (.istore_n 3, 1) := by decide +kernel
theorem dX1_tells_10 : decode cX1_tells 10 = .ok (.iload_n 0, 1) := by decide +kernel
theorem dX1_tells_11 : decode cX1_tells 11 = .ok (.tableswitch 45 1 5 #[33, 35, 37, 39, 41], 33) := by decide +kernel
theorem dX1_tells_44 : decode cX1_tells 44 = .ok (.iload_n 2, 1) := by decide +kernel
theorem dX1_tells_45 : decode cX1_tells 45 = .ok (.ireturn, 1) := by decide +kernel
theorem dX1_tells_46 : decode cX1_tells 46 = .ok (.iload_n 3, 1) := by decide +kernel
theorem dX1_tells_47 : decode cX1_tells 47 = .ok (.ireturn, 1) := by decide +kernel
theorem dX1_tells_48 : decode cX1_tells 48 = .ok (.iconst 0, 1) := by decide +kernel
theorem dX1_tells_49 : decode cX1_tells 49 = .ok (.ireturn, 1) := by decide +kernel
theorem dX1_tells_50 : decode cX1_tells 50 = .ok (.iload_n 2, 1) := by decide +kernel
theorem dX1_tells_51 : decode cX1_tells 51 = .ok (.ireturn, 1) := by decide +kernel
theorem dX1_tells_52 : decode cX1_tells 52 = .ok (.iload_n 3, 1) := by decide +kernel
theorem dX1_tells_53 : decode cX1_tells 53 = .ok (.iconst 1, 1) := by decide +kernel
theorem dX1_tells_54 : decode cX1_tells 54 = .ok (.iadd, 1) := by decide +kernel
theorem dX1_tells_55 : decode cX1_tells 55 = .ok (.ireturn, 1) := by decide +kernel
theorem dX1_tells_56 : decode cX1_tells 56 = .ok (.iload_n 1, 1) := by decide +kernel
theorem dX1_tells_57 : decode cX1_tells 57 = .ok (.ireturn, 1) := by decide +kernel
theorem dX2_init_0 : decode cX2_init 0 = .ok (.aload_n 0, 1) := by decide +kernel
theorem dX2_init_1 : decode cX2_init 1 = .ok (.invokespecial 1, 3) := by decide +kernel
theorem dX2_init_4 : decode cX2_init 4 = .ok (.aload_n 0, 1) := by decide +kernel
theorem dX2_init_5 : decode cX2_init 5 = .ok (.iconst 4, 1) := by decide +kernel
theorem dX2_init_6 : decode cX2_init 6 = .ok (.newarray .int, 2) := by decide +kernel
theorem dX2_init_8 : decode cX2_init 8 = .ok (.putfield 9, 3) := by decide +kernel
theorem dX2_init_11 : decode cX2_init 11 = .ok (.aload_n 0, 1) := by decide +kernel
theorem dX2_init_12 : decode cX2_init 12 = .ok (.iconst 4, 1) := by decide +kernel
theorem dX2_init_13 : decode cX2_init 13 = .ok (.newarray .int, 2) := by decide +kernel
theorem dX2_init_15 : decode cX2_init 15 = .ok (.putfield 13, 3) := by decide +kernel
theorem dX2_init_18 : decode cX2_init 18 = .ok (.aload_n 0, 1) := by decide +kernel
theorem dX2_init_19 : decode cX2_init 19 = .ok (.sipush 160, 3) := by decide +kernel
theorem dX2_init_22 : decode cX2_init 22 = .ok (.newarray .long, 2) := by decide +kernel
theorem dX2_init_24 : decode cX2_init 24 = .ok (.putfield 16, 3) := by decide +kernel
theorem dX2_init_27 : decode cX2_init 27 = .ok (.return_, 1) := by decide +kernel
theorem dX2_isSheet_0 : decode cX2_isSheet 0 = .ok (.iload_n 1, 1) := by decide +kernel
theorem dX2_isSheet_1 : decode cX2_isSheet 1 = .ok (.ifCond .lt 12, 3) := by decide +kernel
theorem dX2_isSheet_4 : decode cX2_isSheet 4 = .ok (.iload_n 1, 1) := by decide +kernel
theorem dX2_isSheet_5 : decode cX2_isSheet 5 = .ok (.iconst 4, 1) := by decide +kernel
theorem dX2_isSheet_6 : decode cX2_isSheet 6 = .ok (.if_icmp .ge 7, 3) := by decide +kernel
theorem dX2_isSheet_9 : decode cX2_isSheet 9 = .ok (.iconst 1, 1) := by decide +kernel
theorem dX2_isSheet_10 : decode cX2_isSheet 10 = .ok (.goto 4, 3) := by decide +kernel
theorem dX2_isSheet_13 : decode cX2_isSheet 13 = .ok (.iconst 0, 1) := by decide +kernel
theorem dX2_isSheet_14 : decode cX2_isSheet 14 = .ok (.ireturn, 1) := by decide +kernel
theorem dX2_isMissing_0 : decode cX2_isMissing 0 = .ok (.aload_n 0, 1) := by decide +kernel
theorem dX2_isMissing_1 : decode cX2_isMissing 1 = .ok (.getfield 9, 3) := by decide +kernel
theorem dX2_isMissing_4 : decode cX2_isMissing 4 = .ok (.iload_n 1, 1) := by decide +kernel
theorem dX2_isMissing_5 : decode cX2_isMissing 5 = .ok (.iaload, 1) := by decide +kernel
theorem dX2_isMissing_6 : decode cX2_isMissing 6 = .ok (.ifCond .ne 7, 3) := by decide +kernel
theorem dX2_isMissing_9 : decode cX2_isMissing 9 = .ok (.iconst 1, 1) := by decide +kernel
theorem dX2_isMissing_10 : decode cX2_isMissing 10 = .ok (.goto 4, 3) := by decide +kernel
theorem dX2_isMissing_13 : decode cX2_isMissing 13 = .ok (.iconst 0, 1) := by decide +kernel
theorem dX2_isMissing_14 : decode cX2_isMissing 14 = .ok (.ireturn, 1) := by decide +kernel
theorem dX2_hasRange_0 : decode cX2_hasRange 0 = .ok (.iload_n 2, 1) := by decide +kernel
theorem dX2_hasRange_1 : decode cX2_hasRange 1 = .ok (.ifCond .lt 33, 3) := by decide +kernel
theorem dX2_hasRange_4 : decode cX2_hasRange 4 = .ok (.iload_n 3, 1) := by decide +kernel
theorem dX2_hasRange_5 : decode cX2_hasRange 5 = .ok (.ifCond .lt 29, 3) := by decide +kernel
theorem dX2_hasRange_8 : decode cX2_hasRange 8 = .ok (.iload_n 3, 1) := by decide +kernel
theorem dX2_hasRange_9 : decode cX2_hasRange 9 = .ok (.aload_n 0, 1) := by decide +kernel
theorem dX2_hasRange_10 : decode cX2_hasRange 10 = .ok (.getfield 13, 3) := by decide +kernel
theorem dX2_hasRange_13 : decode cX2_hasRange 13 = .ok (.iload_n 1, 1) := by decide +kernel
theorem dX2_hasRange_14 : decode cX2_hasRange 14 = .ok (.iaload, 1) := by decide +kernel
theorem dX2_hasRange_15 : decode cX2_hasRange 15 = .ok (.if_icmp .gt 19, 3) := by decide +kernel
theorem dX2_hasRange_18 : decode cX2_hasRange 18 = .ok (.iload_n 2, 1) := by decide +kernel
theorem dX2_hasRange_19 : decode cX2_hasRange 19 = .ok (.aload_n 0, 1) := by decide +kernel
theorem dX2_hasRange_20 : decode cX2_hasRange 20 = .ok (.getfield 13, 3) := by decide +kernel
theorem dX2_hasRange_23 : decode cX2_hasRange 23 = .ok (.iload_n 1, 1) := by decide +kernel
theorem dX2_hasRange_24 : decode cX2_hasRange 24 = .ok (.iaload, 1) := by decide +kernel
theorem dX2_hasRange_25 : decode cX2_hasRange 25 = .ok (.iload_n 3, 1) := by decide +kernel
theorem dX2_hasRange_26 : decode cX2_hasRange 26 = .ok (.isub, 1) := by decide +kernel
theorem dX2_hasRange_27 : decode cX2_hasRange 27 = .ok (.if_icmp .gt 7, 3) := by decide +kernel
theorem dX2_hasRange_30 : decode cX2_hasRange 30 = .ok (.iconst 1, 1) := by decide +kernel
theorem dX2_hasRange_31 : decode cX2_hasRange 31 = .ok (.goto 4, 3) := by decide +kernel
theorem dX2_hasRange_34 : decode cX2_hasRange 34 = .ok (.iconst 0, 1) := by decide +kernel
theorem dX2_hasRange_35 : decode cX2_hasRange 35 = .ok (.ireturn, 1) := by decide +kernel
theorem dX2_lay_0 : decode cX2_lay 0 = .ok (.aload_n 0, 1) := by decide +kernel
theorem dX2_lay_1 : decode cX2_lay 1 = .ok (.getfield 9, 3) := by decide +kernel
theorem dX2_lay_4 : decode cX2_lay 4 = .ok (.iload_n 1, 1) := by decide +kernel
theorem dX2_lay_5 : decode cX2_lay 5 = .ok (.iload_n 2, 1) := by decide +kernel
theorem dX2_lay_6 : decode cX2_lay 6 = .ok (.iastore, 1) := by decide +kernel
theorem dX2_lay_7 : decode cX2_lay 7 = .ok (.aload_n 0, 1) := by decide +kernel
theorem dX2_lay_8 : decode cX2_lay 8 = .ok (.getfield 13, 3) := by decide +kernel
theorem dX2_lay_11 : decode cX2_lay 11 = .ok (.iload_n 1, 1) := by decide +kernel
theorem dX2_lay_12 : decode cX2_lay 12 = .ok (.iload_n 3, 1) := by decide +kernel
theorem dX2_lay_13 : decode cX2_lay 13 = .ok (.iastore, 1) := by decide +kernel
theorem dX2_lay_14 : decode cX2_lay 14 = .ok (.iconst 0, 1) := by decide +kernel
theorem dX2_lay_15 : decode cX2_lay 15 = .ok (.istore 4, 2) := by decide +kernel
theorem dX2_lay_17 : decode cX2_lay 17 = .ok (.iload 4, 2) := by decide +kernel
theorem dX2_lay_19 : decode cX2_lay 19 = .ok (.bipush 40, 2) := by decide +kernel
theorem dX2_lay_21 : decode cX2_lay 21 = .ok (.if_icmp .ge 22, 3) := by decide +kernel
theorem dX2_lay_24 : decode cX2_lay 24 = .ok (.aload_n 0, 1) := by decide +kernel
theorem dX2_lay_25 : decode cX2_lay 25 = .ok (.getfield 16, 3) := by decide +kernel
theorem dX2_lay_28 : decode cX2_lay 28 = .ok (.iload_n 1, 1) := by decide +kernel
theorem dX2_lay_29 : decode cX2_lay 29 = .ok (.bipush 40, 2) := by decide +kernel
theorem dX2_lay_31 : decode cX2_lay 31 = .ok (.imul, 1) := by decide +kernel
theorem dX2_lay_32 : decode cX2_lay 32 = .ok (.iload 4, 2) := by decide +kernel
theorem dX2_lay_34 : decode cX2_lay 34 = .ok (.iadd, 1) := by decide +kernel
theorem dX2_lay_35 : decode cX2_lay 35 = .ok (.lconst 0, 1) := by decide +kernel
theorem dX2_lay_36 : decode cX2_lay 36 = .ok (.lastore, 1) := by decide +kernel
theorem dX2_lay_37 : decode cX2_lay 37 = .ok (.iinc 4 1, 3) := by decide +kernel
theorem dX2_lay_40 : decode cX2_lay 40 = .ok (.goto (-23), 3) := by decide +kernel
theorem dX2_lay_43 : decode cX2_lay 43 = .ok (.iload_n 3, 1) := by decide +kernel
theorem dX2_lay_44 : decode cX2_lay 44 = .ok (.ireturn, 1) := by decide +kernel
theorem dX2_numberAt_0 : decode cX2_numberAt 0 = .ok (.aload_n 0, 1) := by decide +kernel
theorem dX2_numberAt_1 : decode cX2_numberAt 1 = .ok (.getfield 16, 3) := by decide +kernel
theorem dX2_numberAt_4 : decode cX2_numberAt 4 = .ok (.iload_n 1, 1) := by decide +kernel
theorem dX2_numberAt_5 : decode cX2_numberAt 5 = .ok (.bipush 40, 2) := by decide +kernel
theorem dX2_numberAt_7 : decode cX2_numberAt 7 = .ok (.imul, 1) := by decide +kernel
theorem dX2_numberAt_8 : decode cX2_numberAt 8 = .ok (.iload_n 2, 1) := by decide +kernel
theorem dX2_numberAt_9 : decode cX2_numberAt 9 = .ok (.iadd, 1) := by decide +kernel
theorem dX2_numberAt_10 : decode cX2_numberAt 10 = .ok (.laload, 1) := by decide +kernel
theorem dX2_numberAt_11 : decode cX2_numberAt 11 = .ok (.lreturn, 1) := by decide +kernel
theorem dX2_put_0 : decode cX2_put 0 = .ok (.lload_n 3, 1) := by decide +kernel
theorem dX2_put_1 : decode cX2_put 1 = .ok (.lstore 5, 2) := by decide +kernel
theorem dX2_put_3 : decode cX2_put 3 = .ok (.aload_n 0, 1) := by decide +kernel
theorem dX2_put_4 : decode cX2_put 4 = .ok (.getfield 9, 3) := by decide +kernel
theorem dX2_put_7 : decode cX2_put 7 = .ok (.iload_n 1, 1) := by decide +kernel
theorem dX2_put_8 : decode cX2_put 8 = .ok (.iaload, 1) := by decide +kernel
theorem dX2_put_9 : decode cX2_put 9 = .ok (.bipush 8, 2) := by decide +kernel
theorem dX2_put_11 : decode cX2_put 11 = .ok (.if_icmp .ne 12, 3) := by decide +kernel
theorem dX2_put_14 : decode cX2_put 14 = .ok (.lload_n 3, 1) := by decide +kernel
theorem dX2_put_15 : decode cX2_put 15 = .ok (.l2i, 1) := by decide +kernel
theorem dX2_put_16 : decode cX2_put 16 = .ok (.i2b, 1) := by decide +kernel
theorem dX2_put_17 : decode cX2_put 17 = .ok (.i2l, 1) := by decide +kernel
theorem dX2_put_18 : decode cX2_put 18 = .ok (.lstore 5, 2) := by decide +kernel
theorem dX2_put_20 : decode cX2_put 20 = .ok (.goto 20, 3) := by decide +kernel
theorem dX2_put_23 : decode cX2_put 23 = .ok (.aload_n 0, 1) := by decide +kernel
theorem dX2_put_24 : decode cX2_put 24 = .ok (.getfield 9, 3) := by decide +kernel
theorem dX2_put_27 : decode cX2_put 27 = .ok (.iload_n 1, 1) := by decide +kernel
theorem dX2_put_28 : decode cX2_put 28 = .ok (.iaload, 1) := by decide +kernel
theorem dX2_put_29 : decode cX2_put 29 = .ok (.bipush 16, 2) := by decide +kernel
theorem dX2_put_31 : decode cX2_put 31 = .ok (.if_icmp .ne 9, 3) := by decide +kernel
theorem dX2_put_34 : decode cX2_put 34 = .ok (.lload_n 3, 1) := by decide +kernel
theorem dX2_put_35 : decode cX2_put 35 = .ok (.l2i, 1) := by decide +kernel
theorem dX2_put_36 : decode cX2_put 36 = .ok (.i2s, 1) := by decide +kernel
theorem dX2_put_37 : decode cX2_put 37 = .ok (.i2l, 1) := by decide +kernel
theorem dX2_put_38 : decode cX2_put 38 = .ok (.lstore 5, 2) := by decide +kernel
theorem dX2_put_40 : decode cX2_put 40 = .ok (.aload_n 0, 1) := by decide +kernel
theorem dX2_put_41 : decode cX2_put 41 = .ok (.getfield 16, 3) := by decide +kernel
theorem dX2_put_44 : decode cX2_put 44 = .ok (.iload_n 1, 1) := by decide +kernel
theorem dX2_put_45 : decode cX2_put 45 = .ok (.bipush 40, 2) := by decide +kernel
theorem dX2_put_47 : decode cX2_put 47 = .ok (.imul, 1) := by decide +kernel
theorem dX2_put_48 : decode cX2_put 48 = .ok (.iload_n 2, 1) := by decide +kernel
theorem dX2_put_49 : decode cX2_put 49 = .ok (.iadd, 1) := by decide +kernel
theorem dX2_put_50 : decode cX2_put 50 = .ok (.lload 5, 2) := by decide +kernel
theorem dX2_put_52 : decode cX2_put 52 = .ok (.lastore, 1) := by decide +kernel
theorem dX2_put_53 : decode cX2_put 53 = .ok (.return_, 1) := by decide +kernel
theorem dX2_move_0 : decode cX2_move 0 = .ok (.aload_n 0, 1) := by decide +kernel
theorem dX2_move_1 : decode cX2_move 1 = .ok (.getfield 16, 3) := by decide +kernel
theorem dX2_move_4 : decode cX2_move 4 = .ok (.iload_n 1, 1) := by decide +kernel
theorem dX2_move_5 : decode cX2_move 5 = .ok (.bipush 40, 2) := by decide +kernel
theorem dX2_move_7 : decode cX2_move 7 = .ok (.imul, 1) := by decide +kernel
theorem dX2_move_8 : decode cX2_move 8 = .ok (.iload_n 2, 1) := by decide +kernel
theorem dX2_move_9 : decode cX2_move 9 = .ok (.iadd, 1) := by decide +kernel
theorem dX2_move_10 : decode cX2_move 10 = .ok (.aload_n 0, 1) := by decide +kernel
theorem dX2_move_11 : decode cX2_move 11 = .ok (.getfield 16, 3) := by decide +kernel
theorem dX2_move_14 : decode cX2_move 14 = .ok (.iload_n 3, 1) := by decide +kernel
theorem dX2_move_15 : decode cX2_move 15 = .ok (.bipush 40, 2) := by decide +kernel
theorem dX2_move_17 : decode cX2_move 17 = .ok (.imul, 1) := by decide +kernel
theorem dX2_move_18 : decode cX2_move 18 = .ok (.iload 4, 2) := by decide +kernel
theorem dX2_move_20 : decode cX2_move 20 = .ok (.iadd, 1) := by decide +kernel
theorem dX2_move_21 : decode cX2_move 21 = .ok (.iload 5, 2) := by decide +kernel
theorem dX2_move_23 : decode cX2_move 23 = .ok (.invokestatic 20, 3) := by decide +kernel
theorem dX2_move_26 : decode cX2_move 26 = .ok (.return_, 1) := by decide +kernel
theorem dX3_init_0 : decode cX3_init 0 = .ok (.aload_n 0, 1) := by decide +kernel
theorem dX3_init_1 : decode cX3_init 1 = .ok (.invokespecial 3, 3) := by decide +kernel
theorem dX3_init_4 : decode cX3_init 4 = .ok (.aload_n 0, 1) := by decide +kernel
theorem dX3_init_5 : decode cX3_init 5 = .ok (.bipush 120, 2) := by decide +kernel
theorem dX3_init_7 : decode cX3_init 7 = .ok (.newarray .int, 2) := by decide +kernel
theorem dX3_init_9 : decode cX3_init 9 = .ok (.putfield 11, 3) := by decide +kernel
theorem dX3_init_12 : decode cX3_init 12 = .ok (.return_, 1) := by decide +kernel
set_option maxRecDepth 20000 in
theorem ggX3_addItems_X3_advance : GoodIn wsX3_addItems wsX3_advance := goodIn_r _ [8, 1, 9, 2, 3, 10, 11, 12, 13, 14, 15, 16, 17, 7, 18, 19, 20, 21, 22, 130, 131, 132, 133, 134, 135] (by decide +kernel) (by decide +kernel)
set_option maxRecDepth 20000 in
theorem gX3_addItems_X3_advance : GoodIn wsX3_addItems (wsV RX3 19 RX3 yX3_advance wsX3_advance) := goodIn_app (goodIn_of _ (by decide +kernel)) ggX3_addItems_X3_advance
set_option maxRecDepth 20000 in
theorem ggX3_addItems_X3_takeItem : GoodIn wsX3_addItems wsX3_takeItem := goodIn_r _ [26, 27, 28, 29, 7, 30, 31, 32, 33, 34, 3, 1, 2, 35, 36, 37, 38, 39, 40, 41, 42, 43, 44, 45, 46, 15, 16, 17, 18, 19, 47, 48, 49, 50, 51, 52, 53, 54, 55, 56, 57, 58, 59, 60, 61, 62, 63, 64, 65, 66, 67, 68, 69, 70, 71, 72, 73, 74, 75, 76, 77, 78, 79, 80, 81, 82, 83, 84, 85, 86, 87, 88, 10, 4, 5, 6, 8, 9, 11, 12, 13, 14, 20, 21, 22, 89, 90, 91, 92, 93, 94, 95, 96, 97, 98, 99, 100, 101, 102, 103, 104, 105, 106, 107, 108, 109, 110, 111, 112, 113, 114, 115, 116, 117, 118, 119, 120, 121, 122, 123, 124, 125, 126, 127, 128, 129, 130, 131, 132, 133, 134, 135, 136, 137, 138, 139, 140, 141, 142, 143, 144, 145, 146, 147, 148, 149] (by decide +kernel) (by decide +kernel)
set_option maxRecDepth 20000 in
theorem gX3_addItems_X3_takeItem : GoodIn wsX3_addItems (wsV RX3 22 RX3 yX3_takeItem wsX3_takeItem) := goodIn_app (goodIn_of _ (by decide +kernel)) ggX3_addItems_X3_takeItem
theorem dX3_addItems_0 : decode cX3_addItems 0 = .ok (.aload_n 0, 1) := by decide +kernel
theorem dX3_addItems_1 : decode cX3_addItems 1 = .ok (.iconst 0, 1) := by decide +kernel
theorem dX3_addItems_2 : decode cX3_addItems 2 = .ok (.putfield 15, 3) := by decide +kernel
theorem dX3_addItems_5 : decode cX3_addItems 5 = .ok (.aload_n 0, 1) := by decide +kernel
theorem dX3_addItems_6 : decode cX3_addItems 6 = .ok (.invokevirtual 19, 3) := by decide +kernel
theorem dX3_addItems_9 : decode cX3_addItems 9 = .ok (.iconst 1, 1) := by decide +kernel
theorem dX3_addItems_10 : decode cX3_addItems 10 = .ok (.istore_n 2, 1) := by decide +kernel
theorem dX3_addItems_11 : decode cX3_addItems 11 = .ok (.iload_n 2, 1) := by decide +kernel
theorem dX3_addItems_12 : decode cX3_addItems 12 = .ok (.bipush 120, 2) := by decide +kernel
theorem dX3_addItems_14 : decode cX3_addItems 14 = .ok (.if_icmp .gt 52, 3) := by decide +kernel
theorem dX3_addItems_17 : decode cX3_addItems 17 = .ok (.aload_n 0, 1) := by decide +kernel
theorem dX3_addItems_18 : decode cX3_addItems 18 = .ok (.aload_n 1, 1) := by decide +kernel
theorem dX3_addItems_19 : decode cX3_addItems 19 = .ok (.invokevirtual 22, 3) := by decide +kernel
theorem dX3_addItems_22 : decode cX3_addItems 22 = .ok (.ifCond .ne 10, 3) := by decide +kernel
theorem dX3_addItems_25 : decode cX3_addItems 25 = .ok (.iconst (-1), 1) := by decide +kernel
theorem dX3_addItems_26 : decode cX3_addItems 26 = .ok (.aload_n 0, 1) := by decide +kernel
theorem dX3_addItems_27 : decode cX3_addItems 27 = .ok (.getfield 26, 3) := by decide +kernel
theorem dX3_addItems_30 : decode cX3_addItems 30 = .ok (.isub, 1) := by decide +kernel
theorem dX3_addItems_31 : decode cX3_addItems 31 = .ok (.ireturn, 1) := by decide +kernel
theorem dX3_addItems_32 : decode cX3_addItems 32 = .ok (.aload_n 0, 1) := by decide +kernel
theorem dX3_addItems_33 : decode cX3_addItems 33 = .ok (.getfield 29, 3) := by decide +kernel
theorem dX3_addItems_36 : decode cX3_addItems 36 = .ok (.ifCond .ne 5, 3) := by decide +kernel
theorem dX3_addItems_39 : decode cX3_addItems 39 = .ok (.iload_n 2, 1) := by decide +kernel
theorem dX3_addItems_40 : decode cX3_addItems 40 = .ok (.ireturn, 1) := by decide +kernel
theorem dX3_addItems_41 : decode cX3_addItems 41 = .ok (.aload_n 0, 1) := by decide +kernel
theorem dX3_addItems_42 : decode cX3_addItems 42 = .ok (.getfield 29, 3) := by decide +kernel
theorem dX3_addItems_45 : decode cX3_addItems 45 = .ok (.iconst 3, 1) := by decide +kernel
theorem dX3_addItems_46 : decode cX3_addItems 46 = .ok (.if_icmp .eq 10, 3) := by decide +kernel
theorem dX3_addItems_49 : decode cX3_addItems 49 = .ok (.iconst (-1), 1) := by decide +kernel
theorem dX3_addItems_50 : decode cX3_addItems 50 = .ok (.aload_n 0, 1) := by decide +kernel
theorem dX3_addItems_51 : decode cX3_addItems 51 = .ok (.getfield 26, 3) := by decide +kernel
theorem dX3_addItems_54 : decode cX3_addItems 54 = .ok (.isub, 1) := by decide +kernel
theorem dX3_addItems_55 : decode cX3_addItems 55 = .ok (.ireturn, 1) := by decide +kernel
theorem dX3_addItems_56 : decode cX3_addItems 56 = .ok (.aload_n 0, 1) := by decide +kernel
theorem dX3_addItems_57 : decode cX3_addItems 57 = .ok (.invokevirtual 19, 3) := by decide +kernel
theorem dX3_addItems_60 : decode cX3_addItems 60 = .ok (.iinc 2 1, 3) := by decide +kernel
theorem dX3_addItems_63 : decode cX3_addItems 63 = .ok (.goto (-52), 3) := by decide +kernel
theorem dX3_addItems_66 : decode cX3_addItems 66 = .ok (.iconst (-1), 1) := by decide +kernel
theorem dX3_addItems_67 : decode cX3_addItems 67 = .ok (.aload_n 0, 1) := by decide +kernel
theorem dX3_addItems_68 : decode cX3_addItems 68 = .ok (.getfield 26, 3) := by decide +kernel
theorem dX3_addItems_71 : decode cX3_addItems 71 = .ok (.isub, 1) := by decide +kernel
theorem dX3_addItems_72 : decode cX3_addItems 72 = .ok (.ireturn, 1) := by decide +kernel
set_option maxRecDepth 20000 in
theorem ggX3_takeItem_X3_kindNamed : GoodIn wsX3_takeItem wsX3_kindNamed := goodIn_r _ [5, 6, 7, 8, 4, 9, 10, 11, 12, 13, 14, 15, 16, 17, 18, 19, 20, 21, 22, 23, 24, 25, 26, 27, 28, 29, 30, 31, 32, 33, 34, 35, 36, 37, 38, 39, 40, 41, 42, 43, 44, 45, 46, 47, 48, 49, 50, 51, 52, 53, 54, 55, 56, 57, 58, 59, 60, 61, 62, 63, 64, 65, 66, 126, 127, 128, 129, 130, 131] (by decide +kernel) (by decide +kernel)
set_option maxRecDepth 20000 in
theorem gX3_takeItem_X3_kindNamed : GoodIn wsX3_takeItem (wsV RX3 32 RX3 yX3_kindNamed wsX3_kindNamed) := goodIn_app (goodIn_of _ (by decide +kernel)) ggX3_takeItem_X3_kindNamed
set_option maxRecDepth 20000 in
theorem ggX3_takeItem_X3_takeMother : GoodIn wsX3_takeItem wsX3_takeMother := goodIn_r _ [70, 71, 72, 73, 74, 75, 4, 76, 11, 77, 12, 10, 78, 79, 80, 81, 25, 26, 27, 28, 29, 82, 83, 84, 6, 7, 8, 9, 13, 14, 15, 16, 17, 18, 19, 20, 21, 22, 23, 24, 30, 31, 32, 33, 34, 35, 36, 37, 38, 39, 40, 41, 42, 43, 44, 45, 46, 47, 48, 49, 50, 51, 52, 53, 54, 55, 56, 57, 58, 59, 60, 61, 62, 63, 64, 65, 66, 85, 86, 87, 88, 89, 90, 91, 92, 93, 94, 95, 96, 97, 98, 132, 133, 134, 135, 136, 137, 138, 139, 140, 141, 142, 143, 144, 145, 126, 127, 128, 129, 130, 131] (by decide +kernel) (by decide +kernel)
set_option maxRecDepth 20000 in
theorem gX3_takeItem_X3_takeMother : GoodIn wsX3_takeItem (wsV RX3 36 RX3 yX3_takeMother wsX3_takeMother) := goodIn_app (goodIn_of _ (by decide +kernel)) ggX3_takeItem_X3_takeMother
set_option maxRecDepth 20000 in
theorem ggX3_takeItem_X3_isWord : GoodIn wsX3_takeItem wsX3_isWord := goodIn_r _ [9, 10, 11, 12, 13, 14, 15, 16, 17, 18, 19, 20, 21, 22, 23, 24, 25, 26, 27, 4, 28, 29, 30, 31, 32, 33, 34, 35, 36, 37, 38, 39, 40, 41, 42, 43, 44, 45, 46, 47, 48, 49, 50, 51, 52, 53, 54, 55, 56, 57, 58, 59, 60, 61, 62, 63, 64, 65, 66, 126, 127, 128, 129, 130, 131] (by decide +kernel) (by decide +kernel)
set_option maxRecDepth 20000 in
theorem gX3_takeItem_X3_isWord : GoodIn wsX3_takeItem (wsV RX3 42 RX3 yX3_isWord wsX3_isWord) := goodIn_app (goodIn_of _ (by decide +kernel)) ggX3_takeItem_X3_isWord
set_option maxRecDepth 20000 in
theorem ggX3_takeItem_X3_takeChild : GoodIn wsX3_takeItem wsX3_takeChild := goodIn_r _ [102, 103, 72, 85, 86, 87, 4, 88, 10, 73, 74, 75, 76, 11, 77, 12, 78, 79, 80, 81, 25, 26, 27, 28, 29, 82, 83, 84, 6, 7, 8, 9, 13, 14, 15, 16, 17, 18, 19, 20, 21, 22, 23, 24, 30, 31, 32, 33, 34, 35, 36, 37, 38, 39, 40, 41, 42, 43, 44, 45, 46, 47, 48, 49, 50, 51, 52, 53, 54, 55, 56, 57, 58, 59, 60, 61, 62, 63, 64, 65, 66, 104, 105, 106, 92, 107, 108, 109, 110, 111, 132, 133, 134, 135, 136, 137, 138, 139, 140, 141, 142, 143, 144, 145, 126, 127, 128, 129, 130, 131] (by decide +kernel) (by decide +kernel)
set_option maxRecDepth 20000 in
theorem gX3_takeItem_X3_takeChild : GoodIn wsX3_takeItem (wsV RX3 46 RX3 yX3_takeChild wsX3_takeChild) := goodIn_app (goodIn_of _ (by decide +kernel)) ggX3_takeItem_X3_takeChild
set_option maxRecDepth 20000 in
theorem ggX3_takeItem_X3_takeWet : GoodIn wsX3_takeItem wsX3_takeWet := goodIn_r _ [115, 116, 72, 85, 86, 87, 4, 88, 10, 73, 74, 75, 76, 11, 77, 12, 78, 79, 80, 81, 25, 26, 27, 28, 29, 82, 83, 84, 132, 133, 134, 135, 136, 137, 138, 139, 140, 141, 142, 143, 144, 145, 126, 127, 128, 129, 130, 131] (by decide +kernel) (by decide +kernel)
set_option maxRecDepth 20000 in
theorem gX3_takeItem_X3_takeWet : GoodIn wsX3_takeItem (wsV RX3 51 RX3 yX3_takeWet wsX3_takeWet) := goodIn_app (goodIn_of _ (by decide +kernel)) ggX3_takeItem_X3_takeWet
set_option maxRecDepth 20000 in
theorem ggX3_takeItem_X3_takeDry : GoodIn wsX3_takeItem wsX3_takeDry := goodIn_r _ [120, 116, 72, 85, 86, 87, 4, 88, 10, 73, 74, 75, 76, 11, 77, 12, 78, 79, 80, 81, 25, 26, 27, 28, 29, 82, 83, 84, 132, 133, 134, 135, 136, 137, 138, 139, 140, 141, 142, 143, 144, 145, 126, 127, 128, 129, 130, 131] (by decide +kernel) (by decide +kernel)
set_option maxRecDepth 20000 in
theorem gX3_takeItem_X3_takeDry : GoodIn wsX3_takeItem (wsV RX3 56 RX3 yX3_takeDry wsX3_takeDry) := goodIn_app (goodIn_of _ (by decide +kernel)) ggX3_takeItem_X3_takeDry
set_option maxRecDepth 20000 in
theorem ggX3_takeItem_X3_takeHeavy : GoodIn wsX3_takeItem wsX3_takeHeavy := goodIn_r _ [124, 72, 125, 85, 86, 87, 4, 88, 10, 73, 74, 75, 76, 11, 77, 12, 78, 79, 80, 81, 25, 26, 27, 28, 29, 82, 83, 84, 126, 127, 128, 129, 130, 131, 132, 133, 134, 135, 136, 137, 138, 139, 140, 141, 142, 143, 144, 145] (by decide +kernel) (by decide +kernel)
set_option maxRecDepth 20000 in
theorem gX3_takeItem_X3_takeHeavy : GoodIn wsX3_takeItem (wsV RX3 61 RX3 yX3_takeHeavy wsX3_takeHeavy) := goodIn_app (goodIn_of _ (by decide +kernel)) ggX3_takeItem_X3_takeHeavy
theorem dX3_takeItem_0 : decode cX3_takeItem 0 = .ok (.aload_n 0, 1) := by decide +kernel
theorem dX3_takeItem_1 : decode cX3_takeItem 1 = .ok (.invokevirtual 32, 3) := by decide +kernel
theorem dX3_takeItem_4 : decode cX3_takeItem 4 = .ok (.istore_n 2, 1) := by decide +kernel
theorem dX3_takeItem_5 : decode cX3_takeItem 5 = .ok (.iload_n 2, 1) := by decide +kernel
theorem dX3_takeItem_6 : decode cX3_takeItem 6 = .ok (.ifCond .lt 10, 3) := by decide +kernel
theorem dX3_takeItem_9 : decode cX3_takeItem 9 = .ok (.aload_n 0, 1) := by decide +kernel
theorem dX3_takeItem_10 : decode cX3_takeItem 10 = .ok (.aload_n 1, 1) := by decide +kernel
theorem dX3_takeItem_11 : decode cX3_takeItem 11 = .ok (.iload_n 2, 1) := by decide +kernel
theorem dX3_takeItem_12 : decode cX3_takeItem 12 = .ok (.invokevirtual 36, 3) := by decide +kernel
theorem dX3_takeItem_15 : decode cX3_takeItem 15 = .ok (.ireturn, 1) := by decide +kernel
theorem dX3_takeItem_16 : decode cX3_takeItem 16 = .ok (.aload_n 0, 1) := by decide +kernel
theorem dX3_takeItem_17 : decode cX3_takeItem 17 = .ok (.ldc 40, 2) := by decide +kernel
theorem dX3_takeItem_19 : decode cX3_takeItem 19 = .ok (.invokevirtual 42, 3) := by decide +kernel
theorem dX3_takeItem_22 : decode cX3_takeItem 22 = .ok (.ifCond .eq 9, 3) := by decide +kernel
theorem dX3_takeItem_25 : decode cX3_takeItem 25 = .ok (.aload_n 0, 1) := by decide +kernel
theorem dX3_takeItem_26 : decode cX3_takeItem 26 = .ok (.aload_n 1, 1) := by decide +kernel
theorem dX3_takeItem_27 : decode cX3_takeItem 27 = .ok (.invokevirtual 46, 3) := by decide +kernel
theorem dX3_takeItem_30 : decode cX3_takeItem 30 = .ok (.ireturn, 1) := by decide +kernel
theorem dX3_takeItem_31 : decode cX3_takeItem 31 = .ok (.aload_n 0, 1) := by decide +kernel
theorem dX3_takeItem_32 : decode cX3_takeItem 32 = .ok (.ldc 49, 2) := by decide +kernel
theorem dX3_takeItem_34 : decode cX3_takeItem 34 = .ok (.invokevirtual 42, 3) := by decide +kernel
theorem dX3_takeItem_37 : decode cX3_takeItem 37 = .ok (.ifCond .eq 9, 3) := by decide +kernel
theorem dX3_takeItem_40 : decode cX3_takeItem 40 = .ok (.aload_n 0, 1) := by decide +kernel
theorem dX3_takeItem_41 : decode cX3_takeItem 41 = .ok (.aload_n 1, 1) := by decide +kernel
theorem dX3_takeItem_42 : decode cX3_takeItem 42 = .ok (.invokevirtual 51, 3) := by decide +kernel
theorem dX3_takeItem_45 : decode cX3_takeItem 45 = .ok (.ireturn, 1) := by decide +kernel
theorem dX3_takeItem_46 : decode cX3_takeItem 46 = .ok (.aload_n 0, 1) := by decide +kernel
theorem dX3_takeItem_47 : decode cX3_takeItem 47 = .ok (.ldc 54, 2) := by decide +kernel
theorem dX3_takeItem_49 : decode cX3_takeItem 49 = .ok (.invokevirtual 42, 3) := by decide +kernel
theorem dX3_takeItem_52 : decode cX3_takeItem 52 = .ok (.ifCond .eq 9, 3) := by decide +kernel
theorem dX3_takeItem_55 : decode cX3_takeItem 55 = .ok (.aload_n 0, 1) := by decide +kernel
theorem dX3_takeItem_56 : decode cX3_takeItem 56 = .ok (.aload_n 1, 1) := by decide +kernel
theorem dX3_takeItem_57 : decode cX3_takeItem 57 = .ok (.invokevirtual 56, 3) := by decide +kernel
theorem dX3_takeItem_60 : decode cX3_takeItem 60 = .ok (.ireturn, 1) := by decide +kernel
theorem dX3_takeItem_61 : decode cX3_takeItem 61 = .ok (.aload_n 0, 1) := by decide +kernel
theorem dX3_takeItem_62 : decode cX3_takeItem 62 = .ok (.ldc 59, 2) := by decide +kernel
theorem dX3_takeItem_64 : decode cX3_takeItem 64 = .ok (.invokevirtual 42, 3) := by decide +kernel
theorem dX3_takeItem_67 : decode cX3_takeItem 67 = .ok (.ifCond .eq 15, 3) := by decide +kernel
theorem dX3_takeItem_70 : decode cX3_takeItem 70 = .ok (.aload_n 0, 1) := by decide +kernel
theorem dX3_takeItem_71 : decode cX3_takeItem 71 = .ok (.aload_n 1, 1) := by decide +kernel
theorem dX3_takeItem_72 : decode cX3_takeItem 72 = .ok (.invokevirtual 61, 3) := by decide +kernel
theorem dX3_takeItem_75 : decode cX3_takeItem 75 = .ok (.ifCond .eq 7, 3) := by decide +kernel
theorem dX3_takeItem_78 : decode cX3_takeItem 78 = .ok (.iconst 1, 1) := by decide +kernel
theorem dX3_takeItem_79 : decode cX3_takeItem 79 = .ok (.goto 4, 3) := by decide +kernel
theorem dX3_takeItem_82 : decode cX3_takeItem 82 = .ok (.iconst 0, 1) := by decide +kernel
theorem dX3_takeItem_83 : decode cX3_takeItem 83 = .ok (.ireturn, 1) := by decide +kernel
set_option maxRecDepth 20000 in
theorem ggX3_kindNamed_X3_isWord : GoodIn wsX3_kindNamed wsX3_isWord := goodIn_r _ [5, 6, 7, 8, 9, 10, 11, 12, 13, 14, 15, 16, 17, 18, 19, 20, 21, 22, 23, 4, 24, 25, 26, 27, 28, 29, 30, 31, 32, 33, 34, 35, 36, 37, 38, 39, 40, 41, 42, 43, 44, 45, 46, 47, 48, 49, 50, 51, 52, 53, 54, 55, 56, 57, 58, 59, 60, 61, 62, 63, 64, 65, 66, 67, 68] (by decide +kernel) (by decide +kernel)
set_option maxRecDepth 20000 in
theorem gX3_kindNamed_X3_isWord : GoodIn wsX3_kindNamed (wsV RX3 42 RX3 yX3_isWord wsX3_isWord) := goodIn_app (goodIn_of _ (by decide +kernel)) ggX3_kindNamed_X3_isWord
theorem dX3_kindNamed_0 : decode cX3_kindNamed 0 = .ok (.aload_n 0, 1) := by decide +kernel
theorem dX3_kindNamed_1 : decode cX3_kindNamed 1 = .ok (.ldc 64, 2) := by decide +kernel
theorem dX3_kindNamed_3 : decode cX3_kindNamed 3 = .ok (.invokevirtual 42, 3) := by decide +kernel
theorem dX3_kindNamed_6 : decode cX3_kindNamed 6 = .ok (.ifCond .eq 5, 3) := by decide +kernel
theorem dX3_kindNamed_9 : decode cX3_kindNamed 9 = .ok (.iconst 0, 1) := by decide +kernel
theorem dX3_kindNamed_10 : decode cX3_kindNamed 10 = .ok (.ireturn, 1) := by decide +kernel
theorem dX3_kindNamed_11 : decode cX3_kindNamed 11 = .ok (.aload_n 0, 1) := by decide +kernel
theorem dX3_kindNamed_12 : decode cX3_kindNamed 12 = .ok (.ldc 68, 2) := by decide +kernel
theorem dX3_kindNamed_14 : decode cX3_kindNamed 14 = .ok (.invokevirtual 42, 3) := by decide +kernel
theorem dX3_kindNamed_17 : decode cX3_kindNamed 17 = .ok (.ifCond .eq 5, 3) := by decide +kernel
theorem dX3_kindNamed_20 : decode cX3_kindNamed 20 = .ok (.iconst 1, 1) := by decide +kernel
theorem dX3_kindNamed_21 : decode cX3_kindNamed 21 = .ok (.ireturn, 1) := by decide +kernel
theorem dX3_kindNamed_22 : decode cX3_kindNamed 22 = .ok (.aload_n 0, 1) := by decide +kernel
theorem dX3_kindNamed_23 : decode cX3_kindNamed 23 = .ok (.ldc 70, 2) := by decide +kernel
theorem dX3_kindNamed_25 : decode cX3_kindNamed 25 = .ok (.invokevirtual 42, 3) := by decide +kernel
theorem dX3_kindNamed_28 : decode cX3_kindNamed 28 = .ok (.ifCond .eq 5, 3) := by decide +kernel
theorem dX3_kindNamed_31 : decode cX3_kindNamed 31 = .ok (.iconst 2, 1) := by decide +kernel
theorem dX3_kindNamed_32 : decode cX3_kindNamed 32 = .ok (.ireturn, 1) := by decide +kernel
theorem dX3_kindNamed_33 : decode cX3_kindNamed 33 = .ok (.aload_n 0, 1) := by decide +kernel
theorem dX3_kindNamed_34 : decode cX3_kindNamed 34 = .ok (.ldc 72, 2) := by decide +kernel
theorem dX3_kindNamed_36 : decode cX3_kindNamed 36 = .ok (.invokevirtual 42, 3) := by decide +kernel
theorem dX3_kindNamed_39 : decode cX3_kindNamed 39 = .ok (.ifCond .eq 5, 3) := by decide +kernel
theorem dX3_kindNamed_42 : decode cX3_kindNamed 42 = .ok (.iconst 3, 1) := by decide +kernel
theorem dX3_kindNamed_43 : decode cX3_kindNamed 43 = .ok (.ireturn, 1) := by decide +kernel
theorem dX3_kindNamed_44 : decode cX3_kindNamed 44 = .ok (.aload_n 0, 1) := by decide +kernel
theorem dX3_kindNamed_45 : decode cX3_kindNamed 45 = .ok (.ldc 74, 2) := by decide +kernel
theorem dX3_kindNamed_47 : decode cX3_kindNamed 47 = .ok (.invokevirtual 42, 3) := by decide +kernel
theorem dX3_kindNamed_50 : decode cX3_kindNamed 50 = .ok (.ifCond .eq 5, 3) := by decide +kernel
theorem dX3_kindNamed_53 : decode cX3_kindNamed 53 = .ok (.iconst 4, 1) := by decide +kernel
theorem dX3_kindNamed_54 : decode cX3_kindNamed 54 = .ok (.ireturn, 1) := by decide +kernel
theorem dX3_kindNamed_55 : decode cX3_kindNamed 55 = .ok (.aload_n 0, 1) := by decide +kernel
theorem dX3_kindNamed_56 : decode cX3_kindNamed 56 = .ok (.ldc 76, 2) := by decide +kernel
theorem dX3_kindNamed_58 : decode cX3_kindNamed 58 = .ok (.invokevirtual 42, 3) := by decide +kernel
theorem dX3_kindNamed_61 : decode cX3_kindNamed 61 = .ok (.ifCond .eq 7, 3) := by decide +kernel
theorem dX3_kindNamed_64 : decode cX3_kindNamed 64 = .ok (.iconst 5, 1) := by decide +kernel
theorem dX3_kindNamed_65 : decode cX3_kindNamed 65 = .ok (.goto 4, 3) := by decide +kernel
theorem dX3_kindNamed_68 : decode cX3_kindNamed 68 = .ok (.iconst (-1), 1) := by decide +kernel
theorem dX3_kindNamed_69 : decode cX3_kindNamed 69 = .ok (.ireturn, 1) := by decide +kernel
set_option maxRecDepth 20000 in
theorem ggX3_takeMother_X3_advance : GoodIn wsX3_takeMother wsX3_advance := goodIn_r _ [7, 8, 9, 10, 11, 2, 12, 13, 14, 15, 16, 17, 18, 6, 19, 20, 21, 22, 23, 105, 106, 107, 108, 109, 110] (by decide +kernel) (by decide +kernel)
set_option maxRecDepth 20000 in
theorem gX3_takeMother_X3_advance : GoodIn wsX3_takeMother (wsV RX3 19 RX3 yX3_advance wsX3_advance) := goodIn_app (goodIn_of _ (by decide +kernel)) ggX3_takeMother_X3_advance
set_option maxRecDepth 20000 in
theorem ggX3_takeMother_X3_isWord : GoodIn wsX3_takeMother wsX3_isWord := goodIn_r _ [27, 11, 8, 10, 28, 29, 30, 31, 32, 33, 34, 35, 36, 37, 38, 39, 16, 17, 18, 6, 19, 20, 40, 41, 42, 43, 44, 45, 46, 47, 48, 49, 50, 51, 52, 53, 54, 55, 56, 57, 58, 59, 60, 61, 62, 63, 64, 65, 66, 67, 68, 69, 70, 71, 72, 73, 74, 75, 76, 105, 106, 107, 108, 109, 110] (by decide +kernel) (by decide +kernel)
set_option maxRecDepth 20000 in
theorem gX3_takeMother_X3_isWord : GoodIn wsX3_takeMother (wsV RX3 42 RX3 yX3_isWord wsX3_isWord) := goodIn_app (goodIn_of _ (by decide +kernel)) ggX3_takeMother_X3_isWord
set_option maxRecDepth 20000 in
theorem ggX3_takeMother_X3_takeNumber : GoodIn wsX3_takeMother wsX3_takeNumber := goodIn_r _ [80, 11, 2, 3, 4, 5, 6, 7, 8, 9, 10, 12, 13, 14, 15, 16, 17, 18, 19, 20, 21, 22, 23, 105, 106, 107, 108, 109, 110] (by decide +kernel) (by decide +kernel)
set_option maxRecDepth 20000 in
theorem gX3_takeMother_X3_takeNumber : GoodIn wsX3_takeMother (wsV RX3 85 RX3 yX3_takeNumber wsX3_takeNumber) := goodIn_app (goodIn_of _ (by decide +kernel)) ggX3_takeMother_X3_takeNumber
set_option maxRecDepth 20000 in
theorem ggX3_takeMother_X0_addMother : GoodIn wsX3_takeMother wsX0_addMother := goodIn_r _ [85, 86, 87, 88, 89, 90, 91, 92, 93, 94, 95, 96, 97, 98, 99, 100, 101, 102, 103, 104] (by decide +kernel) (by decide +kernel)
set_option maxRecDepth 20000 in
theorem gX3_takeMother_X0_addMother : GoodIn wsX3_takeMother (wsV RX3 94 RX0 yX0_addMother wsX0_addMother) := goodIn_app (goodIn_of _ (by decide +kernel)) ggX3_takeMother_X0_addMother
theorem dX3_takeMother_0 : decode cX3_takeMother 0 = .ok (.aload_n 1, 1) := by decide +kernel
theorem dX3_takeMother_1 : decode cX3_takeMother 1 = .ok (.getfield 78, 3) := by decide +kernel
theorem dX3_takeMother_4 : decode cX3_takeMother 4 = .ok (.bipush 8, 2) := by decide +kernel
theorem dX3_takeMother_6 : decode cX3_takeMother 6 = .ok (.if_icmp .lt 5, 3) := by decide +kernel
theorem dX3_takeMother_9 : decode cX3_takeMother 9 = .ok (.iconst 0, 1) := by decide +kernel
theorem dX3_takeMother_10 : decode cX3_takeMother 10 = .ok (.ireturn, 1) := by decide +kernel
theorem dX3_takeMother_11 : decode cX3_takeMother 11 = .ok (.aload_n 0, 1) := by decide +kernel
theorem dX3_takeMother_12 : decode cX3_takeMother 12 = .ok (.invokevirtual 19, 3) := by decide +kernel
theorem dX3_takeMother_15 : decode cX3_takeMother 15 = .ok (.bipush 10, 2) := by decide +kernel
theorem dX3_takeMother_17 : decode cX3_takeMother 17 = .ok (.istore_n 3, 1) := by decide +kernel
theorem dX3_takeMother_18 : decode cX3_takeMother 18 = .ok (.aload_n 0, 1) := by decide +kernel
theorem dX3_takeMother_19 : decode cX3_takeMother 19 = .ok (.ldc 83, 2) := by decide +kernel
theorem dX3_takeMother_21 : decode cX3_takeMother 21 = .ok (.invokevirtual 42, 3) := by decide +kernel
theorem dX3_takeMother_24 : decode cX3_takeMother 24 = .ok (.ifCond .eq 24, 3) := by decide +kernel
theorem dX3_takeMother_27 : decode cX3_takeMother 27 = .ok (.aload_n 0, 1) := by decide +kernel
theorem dX3_takeMother_28 : decode cX3_takeMother 28 = .ok (.iconst 0, 1) := by decide +kernel
theorem dX3_takeMother_29 : decode cX3_takeMother 29 = .ok (.bipush 99, 2) := by decide +kernel
theorem dX3_takeMother_31 : decode cX3_takeMother 31 = .ok (.invokevirtual 85, 3) := by decide +kernel
theorem dX3_takeMother_34 : decode cX3_takeMother 34 = .ok (.ifCond .ne 5, 3) := by decide +kernel
theorem dX3_takeMother_37 : decode cX3_takeMother 37 = .ok (.iconst 0, 1) := by decide +kernel
theorem dX3_takeMother_38 : decode cX3_takeMother 38 = .ok (.ireturn, 1) := by decide +kernel
theorem dX3_takeMother_39 : decode cX3_takeMother 39 = .ok (.aload_n 0, 1) := by decide +kernel
theorem dX3_takeMother_40 : decode cX3_takeMother 40 = .ok (.getfield 89, 3) := by decide +kernel
theorem dX3_takeMother_43 : decode cX3_takeMother 43 = .ok (.istore_n 3, 1) := by decide +kernel
theorem dX3_takeMother_44 : decode cX3_takeMother 44 = .ok (.aload_n 0, 1) := by decide +kernel
theorem dX3_takeMother_45 : decode cX3_takeMother 45 = .ok (.invokevirtual 19, 3) := by decide +kernel
theorem dX3_takeMother_48 : decode cX3_takeMother 48 = .ok (.iconst 0, 1) := by decide +kernel
theorem dX3_takeMother_49 : decode cX3_takeMother 49 = .ok (.istore 4, 2) := by decide +kernel
theorem dX3_takeMother_51 : decode cX3_takeMother 51 = .ok (.aload_n 0, 1) := by decide +kernel
theorem dX3_takeMother_52 : decode cX3_takeMother 52 = .ok (.ldc 92, 2) := by decide +kernel
theorem dX3_takeMother_54 : decode cX3_takeMother 54 = .ok (.invokevirtual 42, 3) := by decide +kernel
theorem dX3_takeMother_57 : decode cX3_takeMother 57 = .ok (.ifCond .eq 10, 3) := by decide +kernel
theorem dX3_takeMother_60 : decode cX3_takeMother 60 = .ok (.iconst 1, 1) := by decide +kernel
theorem dX3_takeMother_61 : decode cX3_takeMother 61 = .ok (.istore 4, 2) := by decide +kernel
theorem dX3_takeMother_63 : decode cX3_takeMother 63 = .ok (.aload_n 0, 1) := by decide +kernel
theorem dX3_takeMother_64 : decode cX3_takeMother 64 = .ok (.invokevirtual 19, 3) := by decide +kernel
theorem dX3_takeMother_67 : decode cX3_takeMother 67 = .ok (.aload_n 1, 1) := by decide +kernel
theorem dX3_takeMother_68 : decode cX3_takeMother 68 = .ok (.iload_n 2, 1) := by decide +kernel
theorem dX3_takeMother_69 : decode cX3_takeMother 69 = .ok (.iload_n 3, 1) := by decide +kernel
theorem dX3_takeMother_70 : decode cX3_takeMother 70 = .ok (.iload 4, 2) := by decide +kernel
theorem dX3_takeMother_72 : decode cX3_takeMother 72 = .ok (.invokevirtual 94, 3) := by decide +kernel
theorem dX3_takeMother_75 : decode cX3_takeMother 75 = .ok (.pop, 1) := by decide +kernel
theorem dX3_takeMother_76 : decode cX3_takeMother 76 = .ok (.iconst 1, 1) := by decide +kernel
theorem dX3_takeMother_77 : decode cX3_takeMother 77 = .ok (.ireturn, 1) := by decide +kernel
set_option maxRecDepth 20000 in
theorem ggX3_takeChild_X3_takeNumber : GoodIn wsX3_takeChild wsX3_takeNumber := goodIn_r _ [7, 8, 2, 9, 10, 11, 6, 12, 13, 14, 15, 16, 17, 18, 19, 20, 21, 22, 23, 24, 25, 26, 27, 104, 105, 106, 107, 108, 109] (by decide +kernel) (by decide +kernel)
set_option maxRecDepth 20000 in
theorem gX3_takeChild_X3_takeNumber : GoodIn wsX3_takeChild (wsV RX3 85 RX3 yX3_takeNumber wsX3_takeNumber) := goodIn_app (goodIn_of _ (by decide +kernel)) ggX3_takeChild_X3_takeNumber
set_option maxRecDepth 20000 in
theorem ggX3_takeChild_X3_advance : GoodIn wsX3_takeChild wsX3_advance := goodIn_r _ [12, 13, 14, 15, 8, 2, 16, 17, 18, 19, 20, 21, 22, 6, 23, 24, 25, 26, 27, 104, 105, 106, 107, 108, 109] (by decide +kernel) (by decide +kernel)
set_option maxRecDepth 20000 in
theorem gX3_takeChild_X3_advance : GoodIn wsX3_takeChild (wsV RX3 19 RX3 yX3_advance wsX3_advance) := goodIn_app (goodIn_of _ (by decide +kernel)) ggX3_takeChild_X3_advance
set_option maxRecDepth 20000 in
theorem ggX3_takeChild_X3_isWord : GoodIn wsX3_takeChild wsX3_isWord := goodIn_r _ [31, 8, 13, 15, 32, 33, 34, 35, 36, 37, 38, 39, 40, 41, 42, 43, 20, 21, 22, 6, 23, 24, 44, 45, 46, 47, 48, 49, 50, 51, 52, 53, 54, 55, 56, 57, 58, 59, 60, 61, 62, 63, 64, 65, 66, 67, 68, 69, 70, 71, 72, 73, 74, 75, 76, 77, 78, 79, 80, 104, 105, 106, 107, 108, 109] (by decide +kernel) (by decide +kernel)
set_option maxRecDepth 20000 in
theorem gX3_takeChild_X3_isWord : GoodIn wsX3_takeChild (wsV RX3 42 RX3 yX3_isWord wsX3_isWord) := goodIn_app (goodIn_of _ (by decide +kernel)) ggX3_takeChild_X3_isWord
set_option maxRecDepth 20000 in
theorem ggX3_takeChild_X0_addChild : GoodIn wsX3_takeChild wsX0_addChild := goodIn_r _ [85, 86, 87, 88, 89, 90, 91, 92, 93, 94, 95, 96, 97, 98, 99, 100, 101, 102, 103] (by decide +kernel) (by decide +kernel)
set_option maxRecDepth 20000 in
theorem gX3_takeChild_X0_addChild : GoodIn wsX3_takeChild (wsV RX3 103 RX0 yX0_addChild wsX0_addChild) := goodIn_app (goodIn_of _ (by decide +kernel)) ggX3_takeChild_X0_addChild
theorem dX3_takeChild_0 : decode cX3_takeChild 0 = .ok (.aload_n 1, 1) := by decide +kernel
theorem dX3_takeChild_1 : decode cX3_takeChild 1 = .ok (.getfield 98, 3) := by decide +kernel
theorem dX3_takeChild_4 : decode cX3_takeChild 4 = .ok (.bipush 6, 2) := by decide +kernel
theorem dX3_takeChild_6 : decode cX3_takeChild 6 = .ok (.if_icmp .ge 14, 3) := by decide +kernel
theorem dX3_takeChild_9 : decode cX3_takeChild 9 = .ok (.aload_n 0, 1) := by decide +kernel
theorem dX3_takeChild_10 : decode cX3_takeChild 10 = .ok (.iconst 0, 1) := by decide +kernel
theorem dX3_takeChild_11 : decode cX3_takeChild 11 = .ok (.sipush 200, 3) := by decide +kernel
theorem dX3_takeChild_14 : decode cX3_takeChild 14 = .ok (.invokevirtual 85, 3) := by decide +kernel
theorem dX3_takeChild_17 : decode cX3_takeChild 17 = .ok (.ifCond .ne 5, 3) := by decide +kernel
theorem dX3_takeChild_20 : decode cX3_takeChild 20 = .ok (.iconst 0, 1) := by decide +kernel
theorem dX3_takeChild_21 : decode cX3_takeChild 21 = .ok (.ireturn, 1) := by decide +kernel
theorem dX3_takeChild_22 : decode cX3_takeChild 22 = .ok (.aload_n 0, 1) := by decide +kernel
theorem dX3_takeChild_23 : decode cX3_takeChild 23 = .ok (.getfield 89, 3) := by decide +kernel
theorem dX3_takeChild_26 : decode cX3_takeChild 26 = .ok (.istore_n 2, 1) := by decide +kernel
theorem dX3_takeChild_27 : decode cX3_takeChild 27 = .ok (.aload_n 0, 1) := by decide +kernel
theorem dX3_takeChild_28 : decode cX3_takeChild 28 = .ok (.invokevirtual 19, 3) := by decide +kernel
theorem dX3_takeChild_31 : decode cX3_takeChild 31 = .ok (.iconst 0, 1) := by decide +kernel
theorem dX3_takeChild_32 : decode cX3_takeChild 32 = .ok (.istore_n 3, 1) := by decide +kernel
theorem dX3_takeChild_33 : decode cX3_takeChild 33 = .ok (.aload_n 0, 1) := by decide +kernel
theorem dX3_takeChild_34 : decode cX3_takeChild 34 = .ok (.ldc 101, 2) := by decide +kernel
theorem dX3_takeChild_36 : decode cX3_takeChild 36 = .ok (.invokevirtual 42, 3) := by decide +kernel
theorem dX3_takeChild_39 : decode cX3_takeChild 39 = .ok (.ifCond .eq 9, 3) := by decide +kernel
theorem dX3_takeChild_42 : decode cX3_takeChild 42 = .ok (.iconst 1, 1) := by decide +kernel
theorem dX3_takeChild_43 : decode cX3_takeChild 43 = .ok (.istore_n 3, 1) := by decide +kernel
theorem dX3_takeChild_44 : decode cX3_takeChild 44 = .ok (.aload_n 0, 1) := by decide +kernel
theorem dX3_takeChild_45 : decode cX3_takeChild 45 = .ok (.invokevirtual 19, 3) := by decide +kernel
theorem dX3_takeChild_48 : decode cX3_takeChild 48 = .ok (.aload_n 1, 1) := by decide +kernel
theorem dX3_takeChild_49 : decode cX3_takeChild 49 = .ok (.iload_n 2, 1) := by decide +kernel
theorem dX3_takeChild_50 : decode cX3_takeChild 50 = .ok (.iload_n 3, 1) := by decide +kernel
theorem dX3_takeChild_51 : decode cX3_takeChild 51 = .ok (.invokevirtual 103, 3) := by decide +kernel
theorem dX3_takeChild_54 : decode cX3_takeChild 54 = .ok (.pop, 1) := by decide +kernel
theorem dX3_takeChild_55 : decode cX3_takeChild 55 = .ok (.iconst 1, 1) := by decide +kernel
theorem dX3_takeChild_56 : decode cX3_takeChild 56 = .ok (.ireturn, 1) := by decide +kernel
set_option maxRecDepth 20000 in
theorem ggX3_takeWet_X3_takeNumber : GoodIn wsX3_takeWet wsX3_takeNumber := goodIn_r _ [7, 8, 2, 9, 10, 11, 6, 12, 13, 14, 15, 16, 17, 18, 19, 20, 21, 22, 23, 24, 25, 26, 27, 42, 43, 44, 45, 46, 47] (by decide +kernel) (by decide +kernel)
set_option maxRecDepth 20000 in
theorem gX3_takeWet_X3_takeNumber : GoodIn wsX3_takeWet (wsV RX3 85 RX3 yX3_takeNumber wsX3_takeNumber) := goodIn_app (goodIn_of _ (by decide +kernel)) ggX3_takeWet_X3_takeNumber
set_option maxRecDepth 20000 in
theorem ggX3_takeWet_X3_advance : GoodIn wsX3_takeWet wsX3_advance := goodIn_r _ [12, 13, 14, 15, 8, 2, 16, 17, 18, 19, 20, 21, 22, 6, 23, 24, 25, 26, 27, 42, 43, 44, 45, 46, 47] (by decide +kernel) (by decide +kernel)
set_option maxRecDepth 20000 in
theorem gX3_takeWet_X3_advance : GoodIn wsX3_takeWet (wsV RX3 19 RX3 yX3_advance wsX3_advance) := goodIn_app (goodIn_of _ (by decide +kernel)) ggX3_takeWet_X3_advance
theorem dX3_takeWet_0 : decode cX3_takeWet 0 = .ok (.aload_n 0, 1) := by decide +kernel
theorem dX3_takeWet_1 : decode cX3_takeWet 1 = .ok (.iconst 0, 1) := by decide +kernel
theorem dX3_takeWet_2 : decode cX3_takeWet 2 = .ok (.iconst 4, 1) := by decide +kernel
theorem dX3_takeWet_3 : decode cX3_takeWet 3 = .ok (.invokevirtual 85, 3) := by decide +kernel
theorem dX3_takeWet_6 : decode cX3_takeWet 6 = .ok (.ifCond .ne 5, 3) := by decide +kernel
theorem dX3_takeWet_9 : decode cX3_takeWet 9 = .ok (.iconst 0, 1) := by decide +kernel
theorem dX3_takeWet_10 : decode cX3_takeWet 10 = .ok (.ireturn, 1) := by decide +kernel
theorem dX3_takeWet_11 : decode cX3_takeWet 11 = .ok (.aload_n 1, 1) := by decide +kernel
theorem dX3_takeWet_12 : decode cX3_takeWet 12 = .ok (.dup, 1) := by decide +kernel
theorem dX3_takeWet_13 : decode cX3_takeWet 13 = .ok (.getfield 107, 3) := by decide +kernel
theorem dX3_takeWet_16 : decode cX3_takeWet 16 = .ok (.iconst 1, 1) := by decide +kernel
theorem dX3_takeWet_17 : decode cX3_takeWet 17 = .ok (.aload_n 0, 1) := by decide +kernel
theorem dX3_takeWet_18 : decode cX3_takeWet 18 = .ok (.getfield 89, 3) := by decide +kernel
theorem dX3_takeWet_21 : decode cX3_takeWet 21 = .ok (.ishl, 1) := by decide +kernel
theorem dX3_takeWet_22 : decode cX3_takeWet 22 = .ok (.ior, 1) := by decide +kernel
theorem dX3_takeWet_23 : decode cX3_takeWet 23 = .ok (.putfield 107, 3) := by decide +kernel
theorem dX3_takeWet_26 : decode cX3_takeWet 26 = .ok (.aload_n 0, 1) := by decide +kernel
theorem dX3_takeWet_27 : decode cX3_takeWet 27 = .ok (.invokevirtual 19, 3) := by decide +kernel
theorem dX3_takeWet_30 : decode cX3_takeWet 30 = .ok (.iconst 1, 1) := by decide +kernel
theorem dX3_takeWet_31 : decode cX3_takeWet 31 = .ok (.ireturn, 1) := by decide +kernel
set_option maxRecDepth 20000 in
theorem ggX3_takeDry_X3_takeNumber : GoodIn wsX3_takeDry wsX3_takeNumber := goodIn_r _ [7, 8, 2, 9, 10, 11, 6, 12, 13, 14, 15, 16, 17, 18, 19, 20, 21, 22, 23, 24, 25, 26, 27, 42, 43, 44, 45, 46, 47] (by decide +kernel) (by decide +kernel)
set_option maxRecDepth 20000 in
theorem gX3_takeDry_X3_takeNumber : GoodIn wsX3_takeDry (wsV RX3 85 RX3 yX3_takeNumber wsX3_takeNumber) := goodIn_app (goodIn_of _ (by decide +kernel)) ggX3_takeDry_X3_takeNumber
set_option maxRecDepth 20000 in
theorem ggX3_takeDry_X3_advance : GoodIn wsX3_takeDry wsX3_advance := goodIn_r _ [12, 13, 14, 15, 8, 2, 16, 17, 18, 19, 20, 21, 22, 6, 23, 24, 25, 26, 27, 42, 43, 44, 45, 46, 47] (by decide +kernel) (by decide +kernel)
set_option maxRecDepth 20000 in
theorem gX3_takeDry_X3_advance : GoodIn wsX3_takeDry (wsV RX3 19 RX3 yX3_advance wsX3_advance) := goodIn_app (goodIn_of _ (by decide +kernel)) ggX3_takeDry_X3_advance
theorem dX3_takeDry_0 : decode cX3_takeDry 0 = .ok (.aload_n 0, 1) := by decide +kernel
theorem dX3_takeDry_1 : decode cX3_takeDry 1 = .ok (.iconst 0, 1) := by decide +kernel
theorem dX3_takeDry_2 : decode cX3_takeDry 2 = .ok (.iconst 4, 1) := by decide +kernel
theorem dX3_takeDry_3 : decode cX3_takeDry 3 = .ok (.invokevirtual 85, 3) := by decide +kernel
theorem dX3_takeDry_6 : decode cX3_takeDry 6 = .ok (.ifCond .ne 5, 3) := by decide +kernel
theorem dX3_takeDry_9 : decode cX3_takeDry 9 = .ok (.iconst 0, 1) := by decide +kernel
theorem dX3_takeDry_10 : decode cX3_takeDry 10 = .ok (.ireturn, 1) := by decide +kernel
theorem dX3_takeDry_11 : decode cX3_takeDry 11 = .ok (.aload_n 1, 1) := by decide +kernel
theorem dX3_takeDry_12 : decode cX3_takeDry 12 = .ok (.dup, 1) := by decide +kernel
theorem dX3_takeDry_13 : decode cX3_takeDry 13 = .ok (.getfield 107, 3) := by decide +kernel
theorem dX3_takeDry_16 : decode cX3_takeDry 16 = .ok (.iconst 1, 1) := by decide +kernel
theorem dX3_takeDry_17 : decode cX3_takeDry 17 = .ok (.aload_n 0, 1) := by decide +kernel
theorem dX3_takeDry_18 : decode cX3_takeDry 18 = .ok (.getfield 89, 3) := by decide +kernel
theorem dX3_takeDry_21 : decode cX3_takeDry 21 = .ok (.ishl, 1) := by decide +kernel
theorem dX3_takeDry_22 : decode cX3_takeDry 22 = .ok (.iconst (-1), 1) := by decide +kernel
theorem dX3_takeDry_23 : decode cX3_takeDry 23 = .ok (.ixor, 1) := by decide +kernel
theorem dX3_takeDry_24 : decode cX3_takeDry 24 = .ok (.iand, 1) := by decide +kernel
theorem dX3_takeDry_25 : decode cX3_takeDry 25 = .ok (.putfield 107, 3) := by decide +kernel
theorem dX3_takeDry_28 : decode cX3_takeDry 28 = .ok (.aload_n 0, 1) := by decide +kernel
theorem dX3_takeDry_29 : decode cX3_takeDry 29 = .ok (.invokevirtual 19, 3) := by decide +kernel
theorem dX3_takeDry_32 : decode cX3_takeDry 32 = .ok (.iconst 1, 1) := by decide +kernel
theorem dX3_takeDry_33 : decode cX3_takeDry 33 = .ok (.ireturn, 1) := by decide +kernel
set_option maxRecDepth 20000 in
theorem ggX3_takeHeavy_X3_takeNumber : GoodIn wsX3_takeHeavy wsX3_takeNumber := goodIn_r _ [7, 8, 1, 9, 10, 11, 6, 12, 13, 14, 15, 16, 17, 18, 19, 20, 21, 22, 23, 24, 25, 26, 27, 28, 29, 30, 31, 32, 33] (by decide +kernel) (by decide +kernel)
set_option maxRecDepth 20000 in
theorem gX3_takeHeavy_X3_takeNumber : GoodIn wsX3_takeHeavy (wsV RX3 85 RX3 yX3_takeNumber wsX3_takeNumber) := goodIn_app (goodIn_of _ (by decide +kernel)) ggX3_takeHeavy_X3_takeNumber
set_option maxRecDepth 20000 in
theorem ggX3_takeHeavy_X3_advance : GoodIn wsX3_takeHeavy wsX3_advance := goodIn_r _ [12, 13, 14, 15, 8, 1, 16, 17, 18, 19, 20, 21, 22, 6, 23, 24, 25, 26, 27, 28, 29, 30, 31, 32, 33] (by decide +kernel) (by decide +kernel)
set_option maxRecDepth 20000 in
theorem gX3_takeHeavy_X3_advance : GoodIn wsX3_takeHeavy (wsV RX3 19 RX3 yX3_advance wsX3_advance) := goodIn_app (goodIn_of _ (by decide +kernel)) ggX3_takeHeavy_X3_advance
theorem dX3_takeHeavy_0 : decode cX3_takeHeavy 0 = .ok (.aload_n 0, 1) := by decide +kernel
theorem dX3_takeHeavy_1 : decode cX3_takeHeavy 1 = .ok (.iconst 1, 1) := by decide +kernel
theorem dX3_takeHeavy_2 : decode cX3_takeHeavy 2 = .ok (.bipush 50, 2) := by decide +kernel
theorem dX3_takeHeavy_4 : decode cX3_takeHeavy 4 = .ok (.invokevirtual 85, 3) := by decide +kernel
theorem dX3_takeHeavy_7 : decode cX3_takeHeavy 7 = .ok (.ifCond .ne 5, 3) := by decide +kernel
theorem dX3_takeHeavy_10 : decode cX3_takeHeavy 10 = .ok (.iconst 0, 1) := by decide +kernel
theorem dX3_takeHeavy_11 : decode cX3_takeHeavy 11 = .ok (.ireturn, 1) := by decide +kernel
theorem dX3_takeHeavy_12 : decode cX3_takeHeavy 12 = .ok (.aload_n 1, 1) := by decide +kernel
theorem dX3_takeHeavy_13 : decode cX3_takeHeavy 13 = .ok (.aload_n 0, 1) := by decide +kernel
theorem dX3_takeHeavy_14 : decode cX3_takeHeavy 14 = .ok (.getfield 89, 3) := by decide +kernel
theorem dX3_takeHeavy_17 : decode cX3_takeHeavy 17 = .ok (.putfield 110, 3) := by decide +kernel
theorem dX3_takeHeavy_20 : decode cX3_takeHeavy 20 = .ok (.aload_n 0, 1) := by decide +kernel
theorem dX3_takeHeavy_21 : decode cX3_takeHeavy 21 = .ok (.invokevirtual 19, 3) := by decide +kernel
theorem dX3_takeHeavy_24 : decode cX3_takeHeavy 24 = .ok (.iconst 1, 1) := by decide +kernel
theorem dX3_takeHeavy_25 : decode cX3_takeHeavy 25 = .ok (.ireturn, 1) := by decide +kernel
set_option maxRecDepth 20000 in
theorem ggX3_takeNumber_X3_advance : GoodIn wsX3_takeNumber wsX3_advance := goodIn_r _ [7, 8, 9, 10, 1, 2, 11, 12, 13, 14, 15, 16, 17, 6, 18, 19, 20, 21, 22, 23, 24, 25, 26, 27, 28] (by decide +kernel) (by decide +kernel)
set_option maxRecDepth 20000 in
theorem gX3_takeNumber_X3_advance : GoodIn wsX3_takeNumber (wsV RX3 19 RX3 yX3_advance wsX3_advance) := goodIn_app (goodIn_of _ (by decide +kernel)) ggX3_takeNumber_X3_advance
theorem dX3_takeNumber_0 : decode cX3_takeNumber 0 = .ok (.aload_n 0, 1) := by decide +kernel
theorem dX3_takeNumber_1 : decode cX3_takeNumber 1 = .ok (.invokevirtual 19, 3) := by decide +kernel
theorem dX3_takeNumber_4 : decode cX3_takeNumber 4 = .ok (.aload_n 0, 1) := by decide +kernel
theorem dX3_takeNumber_5 : decode cX3_takeNumber 5 = .ok (.getfield 29, 3) := by decide +kernel
theorem dX3_takeNumber_8 : decode cX3_takeNumber 8 = .ok (.iconst 2, 1) := by decide +kernel
theorem dX3_takeNumber_9 : decode cX3_takeNumber 9 = .ok (.if_icmp .ne 23, 3) := by decide +kernel
theorem dX3_takeNumber_12 : decode cX3_takeNumber 12 = .ok (.aload_n 0, 1) := by decide +kernel
theorem dX3_takeNumber_13 : decode cX3_takeNumber 13 = .ok (.getfield 89, 3) := by decide +kernel
theorem dX3_takeNumber_16 : decode cX3_takeNumber 16 = .ok (.iload_n 1, 1) := by decide +kernel
theorem dX3_takeNumber_17 : decode cX3_takeNumber 17 = .ok (.if_icmp .lt 15, 3) := by decide +kernel
theorem dX3_takeNumber_20 : decode cX3_takeNumber 20 = .ok (.aload_n 0, 1) := by decide +kernel
theorem dX3_takeNumber_21 : decode cX3_takeNumber 21 = .ok (.getfield 89, 3) := by decide +kernel
theorem dX3_takeNumber_24 : decode cX3_takeNumber 24 = .ok (.iload_n 2, 1) := by decide +kernel
theorem dX3_takeNumber_25 : decode cX3_takeNumber 25 = .ok (.if_icmp .gt 7, 3) := by decide +kernel
theorem dX3_takeNumber_28 : decode cX3_takeNumber 28 = .ok (.iconst 1, 1) := by decide +kernel
theorem dX3_takeNumber_29 : decode cX3_takeNumber 29 = .ok (.goto 4, 3) := by decide +kernel
theorem dX3_takeNumber_32 : decode cX3_takeNumber 32 = .ok (.iconst 0, 1) := by decide +kernel
theorem dX3_takeNumber_33 : decode cX3_takeNumber 33 = .ok (.ireturn, 1) := by decide +kernel
set_option maxRecDepth 20000 in
theorem ggX3_isWord_J0_length_8abf5 : GoodIn wsX3_isWord wsJ0_length_8abf5 := goodIn_r _ [8, 9, 10, 11, 12, 7, 13, 14, 15] (by decide +kernel) (by decide +kernel)
set_option maxRecDepth 20000 in
theorem gX3_isWord_J0_length_8abf5 : GoodIn wsX3_isWord (wsV RX3 113 RJ0 yJ0_length_8abf5 wsJ0_length_8abf5) := goodIn_app (goodIn_of _ (by decide +kernel)) ggX3_isWord_J0_length_8abf5
set_option maxRecDepth 20000 in
theorem ggX3_isWord_X3_byteAt : GoodIn wsX3_isWord wsX3_byteAt := goodIn_r _ [20, 21, 59, 60, 61, 62, 63, 64] (by decide +kernel) (by decide +kernel)
set_option maxRecDepth 20000 in
theorem gX3_isWord_X3_byteAt : GoodIn wsX3_isWord (wsV RX3 118 RX3 yX3_byteAt wsX3_byteAt) := goodIn_app (goodIn_of _ (by decide +kernel)) ggX3_isWord_X3_byteAt
set_option maxRecDepth 20000 in
theorem ggX3_isWord_J0_charAt_5068e : GoodIn wsX3_isWord wsJ0_charAt_5068e := goodIn_r _ [25, 9, 26, 27, 28, 7, 29, 14, 15, 30, 31, 32, 33, 34, 35, 36, 37, 38, 39, 40, 41, 42, 43, 44, 45, 46, 47, 48, 49, 50, 51, 52, 53, 54, 55, 56, 57, 58] (by decide +kernel) (by decide +kernel)
set_option maxRecDepth 20000 in
theorem gX3_isWord_J0_charAt_5068e : GoodIn wsX3_isWord (wsV RX3 122 RJ0 yJ0_charAt_5068e wsJ0_charAt_5068e) := goodIn_app (goodIn_of _ (by decide +kernel)) ggX3_isWord_J0_charAt_5068e
theorem dX3_isWord_0 : decode cX3_isWord 0 = .ok (.aload_n 0, 1) := by decide +kernel
theorem dX3_isWord_1 : decode cX3_isWord 1 = .ok (.getfield 29, 3) := by decide +kernel
theorem dX3_isWord_4 : decode cX3_isWord 4 = .ok (.iconst 1, 1) := by decide +kernel
theorem dX3_isWord_5 : decode cX3_isWord 5 = .ok (.if_icmp .ne 19, 3) := by decide +kernel
theorem dX3_isWord_8 : decode cX3_isWord 8 = .ok (.aload_n 0, 1) := by decide +kernel
theorem dX3_isWord_9 : decode cX3_isWord 9 = .ok (.getfield 15, 3) := by decide +kernel
theorem dX3_isWord_12 : decode cX3_isWord 12 = .ok (.aload_n 0, 1) := by decide +kernel
theorem dX3_isWord_13 : decode cX3_isWord 13 = .ok (.getfield 26, 3) := by decide +kernel
theorem dX3_isWord_16 : decode cX3_isWord 16 = .ok (.isub, 1) := by decide +kernel
theorem dX3_isWord_17 : decode cX3_isWord 17 = .ok (.aload_n 1, 1) := by decide +kernel
theorem dX3_isWord_18 : decode cX3_isWord 18 = .ok (.invokevirtual 113, 3) := by decide +kernel
theorem dX3_isWord_21 : decode cX3_isWord 21 = .ok (.if_icmp .eq 5, 3) := by decide +kernel
theorem dX3_isWord_24 : decode cX3_isWord 24 = .ok (.iconst 0, 1) := by decide +kernel
theorem dX3_isWord_25 : decode cX3_isWord 25 = .ok (.ireturn, 1) := by decide +kernel
theorem dX3_isWord_26 : decode cX3_isWord 26 = .ok (.iconst 0, 1) := by decide +kernel
theorem dX3_isWord_27 : decode cX3_isWord 27 = .ok (.istore_n 2, 1) := by decide +kernel
theorem dX3_isWord_28 : decode cX3_isWord 28 = .ok (.iload_n 2, 1) := by decide +kernel
theorem dX3_isWord_29 : decode cX3_isWord 29 = .ok (.aload_n 1, 1) := by decide +kernel
theorem dX3_isWord_30 : decode cX3_isWord 30 = .ok (.invokevirtual 113, 3) := by decide +kernel
theorem dX3_isWord_33 : decode cX3_isWord 33 = .ok (.if_icmp .ge 29, 3) := by decide +kernel
theorem dX3_isWord_36 : decode cX3_isWord 36 = .ok (.aload_n 0, 1) := by decide +kernel
theorem dX3_isWord_37 : decode cX3_isWord 37 = .ok (.aload_n 0, 1) := by decide +kernel
theorem dX3_isWord_38 : decode cX3_isWord 38 = .ok (.getfield 26, 3) := by decide +kernel
theorem dX3_isWord_41 : decode cX3_isWord 41 = .ok (.iload_n 2, 1) := by decide +kernel
theorem dX3_isWord_42 : decode cX3_isWord 42 = .ok (.iadd, 1) := by decide +kernel
theorem dX3_isWord_43 : decode cX3_isWord 43 = .ok (.invokevirtual 118, 3) := by decide +kernel
theorem dX3_isWord_46 : decode cX3_isWord 46 = .ok (.aload_n 1, 1) := by decide +kernel
theorem dX3_isWord_47 : decode cX3_isWord 47 = .ok (.iload_n 2, 1) := by decide +kernel
theorem dX3_isWord_48 : decode cX3_isWord 48 = .ok (.invokevirtual 122, 3) := by decide +kernel
theorem dX3_isWord_51 : decode cX3_isWord 51 = .ok (.if_icmp .eq 5, 3) := by decide +kernel
theorem dX3_isWord_54 : decode cX3_isWord 54 = .ok (.iconst 0, 1) := by decide +kernel
theorem dX3_isWord_55 : decode cX3_isWord 55 = .ok (.ireturn, 1) := by decide +kernel
theorem dX3_isWord_56 : decode cX3_isWord 56 = .ok (.iinc 2 1, 3) := by decide +kernel
theorem dX3_isWord_59 : decode cX3_isWord 59 = .ok (.goto (-31), 3) := by decide +kernel
theorem dX3_isWord_62 : decode cX3_isWord 62 = .ok (.iconst 1, 1) := by decide +kernel
theorem dX3_isWord_63 : decode cX3_isWord 63 = .ok (.ireturn, 1) := by decide +kernel
set_option maxRecDepth 20000 in
theorem ggX3_advance_X3_byteAt : GoodIn wsX3_advance wsX3_byteAt := goodIn_r _ [14, 15, 19, 20, 21, 22, 23, 24] (by decide +kernel) (by decide +kernel)
set_option maxRecDepth 20000 in
theorem gX3_advance_X3_byteAt : GoodIn wsX3_advance (wsV RX3 118 RX3 yX3_byteAt wsX3_byteAt) := goodIn_app (goodIn_of _ (by decide +kernel)) ggX3_advance_X3_byteAt
set_option maxRecDepth 20000 in
theorem ggX3_advance_X3_sortOf : GoodIn wsX3_advance wsX3_sortOf := goodIn_r _ [18] (by decide +kernel) (by decide +kernel)
set_option maxRecDepth 20000 in
theorem gX3_advance_X3_sortOf : GoodIn wsX3_advance (va_wsS RX3 128 yX3_sortOf wsX3_sortOf) := goodIn_app (goodIn_of _ (by decide +kernel)) ggX3_advance_X3_sortOf
theorem dX3_advance_0 : decode cX3_advance 0 = .ok (.aload_n 0, 1) := by decide +kernel
theorem dX3_advance_1 : decode cX3_advance 1 = .ok (.getfield 15, 3) := by decide +kernel
theorem dX3_advance_4 : decode cX3_advance 4 = .ok (.istore_n 1, 1) := by decide +kernel
theorem dX3_advance_5 : decode cX3_advance 5 = .ok (.iload_n 1, 1) := by decide +kernel
theorem dX3_advance_6 : decode cX3_advance 6 = .ok (.aload_n 0, 1) := by decide +kernel
theorem dX3_advance_7 : decode cX3_advance 7 = .ok (.getfield 126, 3) := by decide +kernel
theorem dX3_advance_10 : decode cX3_advance 10 = .ok (.if_icmp .ge 19, 3) := by decide +kernel
theorem dX3_advance_13 : decode cX3_advance 13 = .ok (.aload_n 0, 1) := by decide +kernel
theorem dX3_advance_14 : decode cX3_advance 14 = .ok (.iload_n 1, 1) := by decide +kernel
theorem dX3_advance_15 : decode cX3_advance 15 = .ok (.invokevirtual 118, 3) := by decide +kernel
theorem dX3_advance_18 : decode cX3_advance 18 = .ok (.bipush 32, 2) := by decide +kernel
theorem dX3_advance_20 : decode cX3_advance 20 = .ok (.if_icmp .ne 9, 3) := by decide +kernel
theorem dX3_advance_23 : decode cX3_advance 23 = .ok (.iinc 1 1, 3) := by decide +kernel
theorem dX3_advance_26 : decode cX3_advance 26 = .ok (.goto (-21), 3) := by decide +kernel
theorem dX3_advance_29 : decode cX3_advance 29 = .ok (.aload_n 0, 1) := by decide +kernel
theorem dX3_advance_30 : decode cX3_advance 30 = .ok (.iload_n 1, 1) := by decide +kernel
theorem dX3_advance_31 : decode cX3_advance 31 = .ok (.putfield 26, 3) := by decide +kernel
theorem dX3_advance_34 : decode cX3_advance 34 = .ok (.aload_n 0, 1) := by decide +kernel
theorem dX3_advance_35 : decode cX3_advance 35 = .ok (.iload_n 1, 1) := by decide +kernel
theorem dX3_advance_36 : decode cX3_advance 36 = .ok (.aload_n 0, 1) := by decide +kernel
theorem dX3_advance_37 : decode cX3_advance 37 = .ok (.getfield 126, 3) := by decide +kernel
theorem dX3_advance_40 : decode cX3_advance 40 = .ok (.if_icmp .ge 14, 3) := by decide +kernel
theorem dX3_advance_43 : decode cX3_advance 43 = .ok (.aload_n 0, 1) := by decide +kernel
theorem dX3_advance_44 : decode cX3_advance 44 = .ok (.iload_n 1, 1) := by decide +kernel
theorem dX3_advance_45 : decode cX3_advance 45 = .ok (.invokevirtual 118, 3) := by decide +kernel
theorem dX3_advance_48 : decode cX3_advance 48 = .ok (.invokestatic 128, 3) := by decide +kernel
theorem dX3_advance_51 : decode cX3_advance 51 = .ok (.goto 4, 3) := by decide +kernel
theorem dX3_advance_54 : decode cX3_advance 54 = .ok (.iconst 0, 1) := by decide +kernel
theorem dX3_advance_55 : decode cX3_advance 55 = .ok (.putfield 29, 3) := by decide +kernel
theorem dX3_advance_58 : decode cX3_advance 58 = .ok (.aload_n 0, 1) := by decide +kernel
theorem dX3_advance_59 : decode cX3_advance 59 = .ok (.iconst 0, 1) := by decide +kernel
theorem dX3_advance_60 : decode cX3_advance 60 = .ok (.putfield 89, 3) := by decide +kernel
theorem dX3_advance_63 : decode cX3_advance 63 = .ok (.aload_n 0, 1) := by decide +kernel
theorem dX3_advance_64 : decode cX3_advance 64 = .ok (.getfield 29, 3) := by decide +kernel
theorem dX3_advance_67 : decode cX3_advance 67 = .ok (.iconst 1, 1) := by decide +kernel
theorem dX3_advance_68 : decode cX3_advance 68 = .ok (.if_icmp .eq 11, 3) := by decide +kernel
theorem dX3_advance_71 : decode cX3_advance 71 = .ok (.aload_n 0, 1) := by decide +kernel
theorem dX3_advance_72 : decode cX3_advance 72 = .ok (.getfield 29, 3) := by decide +kernel
theorem dX3_advance_75 : decode cX3_advance 75 = .ok (.iconst 2, 1) := by decide +kernel
theorem dX3_advance_76 : decode cX3_advance 76 = .ok (.if_icmp .ne 7, 3) := by decide +kernel
theorem dX3_advance_79 : decode cX3_advance 79 = .ok (.iconst 1, 1) := by decide +kernel
theorem dX3_advance_80 : decode cX3_advance 80 = .ok (.goto 4, 3) := by decide +kernel
theorem dX3_advance_83 : decode cX3_advance 83 = .ok (.iconst 0, 1) := by decide +kernel
theorem dX3_advance_84 : decode cX3_advance 84 = .ok (.istore_n 2, 1) := by decide +kernel
theorem dX3_advance_85 : decode cX3_advance 85 = .ok (.iload_n 1, 1) := by decide +kernel
theorem dX3_advance_86 : decode cX3_advance 86 = .ok (.aload_n 0, 1) := by decide +kernel
theorem dX3_advance_87 : decode cX3_advance 87 = .ok (.getfield 126, 3) := by decide +kernel
theorem dX3_advance_90 : decode cX3_advance 90 = .ok (.if_icmp .ge 70, 3) := by decide +kernel
theorem dX3_advance_93 : decode cX3_advance 93 = .ok (.aload_n 0, 1) := by decide +kernel
theorem dX3_advance_94 : decode cX3_advance 94 = .ok (.iload_n 1, 1) := by decide +kernel
theorem dX3_advance_95 : decode cX3_advance 95 = .ok (.invokevirtual 118, 3) := by decide +kernel
theorem dX3_advance_98 : decode cX3_advance 98 = .ok (.invokestatic 128, 3) := by decide +kernel
theorem dX3_advance_101 : decode cX3_advance 101 = .ok (.aload_n 0, 1) := by decide +kernel
theorem dX3_advance_102 : decode cX3_advance 102 = .ok (.getfield 29, 3) := by decide +kernel
theorem dX3_advance_105 : decode cX3_advance 105 = .ok (.if_icmp .ne 55, 3) := by decide +kernel
theorem dX3_advance_108 : decode cX3_advance 108 = .ok (.iload_n 2, 1) := by decide +kernel
theorem dX3_advance_109 : decode cX3_advance 109 = .ok (.ifCond .ne 11, 3) := by decide +kernel
theorem dX3_advance_112 : decode cX3_advance 112 = .ok (.iload_n 1, 1) := by decide +kernel
theorem dX3_advance_113 : decode cX3_advance 113 = .ok (.aload_n 0, 1) := by decide +kernel
theorem dX3_advance_114 : decode cX3_advance 114 = .ok (.getfield 26, 3) := by decide +kernel
theorem dX3_advance_117 : decode cX3_advance 117 = .ok (.if_icmp .ne 43, 3) := by decide +kernel
theorem dX3_advance_120 : decode cX3_advance 120 = .ok (.aload_n 0, 1) := by decide +kernel
theorem dX3_advance_121 : decode cX3_advance 121 = .ok (.getfield 29, 3) := by decide +kernel
theorem dX3_advance_124 : decode cX3_advance 124 = .ok (.iconst 2, 1) := by decide +kernel
theorem dX3_advance_125 : decode cX3_advance 125 = .ok (.if_icmp .ne 29, 3) := by decide +kernel
theorem dX3_advance_128 : decode cX3_advance 128 = .ok (.aload_n 0, 1) := by decide +kernel
theorem dX3_advance_129 : decode cX3_advance 129 = .ok (.sipush 1000, 3) := by decide +kernel
theorem dX3_advance_132 : decode cX3_advance 132 = .ok (.bipush 10, 2) := by decide +kernel
theorem dX3_advance_134 : decode cX3_advance 134 = .ok (.aload_n 0, 1) := by decide +kernel
theorem dX3_advance_135 : decode cX3_advance 135 = .ok (.getfield 89, 3) := by decide +kernel
theorem dX3_advance_138 : decode cX3_advance 138 = .ok (.imul, 1) := by decide +kernel
theorem dX3_advance_139 : decode cX3_advance 139 = .ok (.aload_n 0, 1) := by decide +kernel
theorem dX3_advance_140 : decode cX3_advance 140 = .ok (.iload_n 1, 1) := by decide +kernel
theorem dX3_advance_141 : decode cX3_advance 141 = .ok (.invokevirtual 118, 3) := by decide +kernel
theorem dX3_advance_144 : decode cX3_advance 144 = .ok (.iadd, 1) := by decide +kernel
theorem dX3_advance_145 : decode cX3_advance 145 = .ok (.bipush 48, 2) := by decide +kernel
theorem dX3_advance_147 : decode cX3_advance 147 = .ok (.isub, 1) := by decide +kernel
theorem dX3_advance_148 : decode cX3_advance 148 = .ok (.invokestatic 131, 3) := by decide +kernel
theorem dX3_advance_151 : decode cX3_advance 151 = .ok (.putfield 89, 3) := by decide +kernel
theorem dX3_advance_154 : decode cX3_advance 154 = .ok (.iinc 1 1, 3) := by decide +kernel
theorem dX3_advance_157 : decode cX3_advance 157 = .ok (.goto (-72), 3) := by decide +kernel
theorem dX3_advance_160 : decode cX3_advance 160 = .ok (.aload_n 0, 1) := by decide +kernel
theorem dX3_advance_161 : decode cX3_advance 161 = .ok (.iload_n 1, 1) := by decide +kernel
theorem dX3_advance_162 : decode cX3_advance 162 = .ok (.putfield 15, 3) := by decide +kernel
theorem dX3_advance_165 : decode cX3_advance 165 = .ok (.return_, 1) := by decide +kernel
theorem dX3_sortOf_0 : decode cX3_sortOf 0 = .ok (.iload_n 0, 1) := by decide +kernel
theorem dX3_sortOf_1 : decode cX3_sortOf 1 = .ok (.bipush 97, 2) := by decide +kernel
theorem dX3_sortOf_3 : decode cX3_sortOf 3 = .ok (.if_icmp .lt 11, 3) := by decide +kernel
theorem dX3_sortOf_6 : decode cX3_sortOf 6 = .ok (.iload_n 0, 1) := by decide +kernel
theorem dX3_sortOf_7 : decode cX3_sortOf 7 = .ok (.bipush 122, 2) := by decide +kernel
theorem dX3_sortOf_9 : decode cX3_sortOf 9 = .ok (.if_icmp .gt 5, 3) := by decide +kernel
theorem dX3_sortOf_12 : decode cX3_sortOf 12 = .ok (.iconst 1, 1) := by decide +kernel
theorem dX3_sortOf_13 : decode cX3_sortOf 13 = .ok (.ireturn, 1) := by decide +kernel
theorem dX3_sortOf_14 : decode cX3_sortOf 14 = .ok (.iload_n 0, 1) := by decide +kernel
theorem dX3_sortOf_15 : decode cX3_sortOf 15 = .ok (.bipush 48, 2) := by decide +kernel
theorem dX3_sortOf_17 : decode cX3_sortOf 17 = .ok (.if_icmp .lt 11, 3) := by decide +kernel
theorem dX3_sortOf_20 : decode cX3_sortOf 20 = .ok (.iload_n 0, 1) := by decide +kernel
theorem dX3_sortOf_21 : decode cX3_sortOf 21 = .ok (.bipush 57, 2) := by decide +kernel
theorem dX3_sortOf_23 : decode cX3_sortOf 23 = .ok (.if_icmp .gt 5, 3) := by decide +kernel
theorem dX3_sortOf_26 : decode cX3_sortOf 26 = .ok (.iconst 2, 1) := by decide +kernel
theorem dX3_sortOf_27 : decode cX3_sortOf 27 = .ok (.ireturn, 1) := by decide +kernel
theorem dX3_sortOf_28 : decode cX3_sortOf 28 = .ok (.iload_n 0, 1) := by decide +kernel
theorem dX3_sortOf_29 : decode cX3_sortOf 29 = .ok (.bipush 59, 2) := by decide +kernel
theorem dX3_sortOf_31 : decode cX3_sortOf 31 = .ok (.if_icmp .ne 7, 3) := by decide +kernel
theorem dX3_sortOf_34 : decode cX3_sortOf 34 = .ok (.iconst 3, 1) := by decide +kernel
theorem dX3_sortOf_35 : decode cX3_sortOf 35 = .ok (.goto 4, 3) := by decide +kernel
theorem dX3_sortOf_38 : decode cX3_sortOf 38 = .ok (.iconst 4, 1) := by decide +kernel
theorem dX3_sortOf_39 : decode cX3_sortOf 39 = .ok (.ireturn, 1) := by decide +kernel
theorem dX3_byteAt_0 : decode cX3_byteAt 0 = .ok (.iload_n 1, 1) := by decide +kernel
theorem dX3_byteAt_1 : decode cX3_byteAt 1 = .ok (.ifCond .lt 18, 3) := by decide +kernel
theorem dX3_byteAt_4 : decode cX3_byteAt 4 = .ok (.iload_n 1, 1) := by decide +kernel
theorem dX3_byteAt_5 : decode cX3_byteAt 5 = .ok (.bipush 120, 2) := by decide +kernel
theorem dX3_byteAt_7 : decode cX3_byteAt 7 = .ok (.if_icmp .ge 12, 3) := by decide +kernel
theorem dX3_byteAt_10 : decode cX3_byteAt 10 = .ok (.aload_n 0, 1) := by decide +kernel
theorem dX3_byteAt_11 : decode cX3_byteAt 11 = .ok (.getfield 11, 3) := by decide +kernel
theorem dX3_byteAt_14 : decode cX3_byteAt 14 = .ok (.iload_n 1, 1) := by decide +kernel
theorem dX3_byteAt_15 : decode cX3_byteAt 15 = .ok (.iaload, 1) := by decide +kernel
theorem dX3_byteAt_16 : decode cX3_byteAt 16 = .ok (.goto 4, 3) := by decide +kernel
theorem dX3_byteAt_19 : decode cX3_byteAt 19 = .ok (.iconst 0, 1) := by decide +kernel
theorem dX3_byteAt_20 : decode cX3_byteAt 20 = .ok (.ireturn, 1) := by decide +kernel
theorem dJ6_bitCount_0f7a4_0 : decode cJ6_bitCount_0f7a4 0 = .ok (.iload_n 0, 1) := by decide +kernel
theorem dJ6_bitCount_0f7a4_1 : decode cJ6_bitCount_0f7a4 1 = .ok (.iload_n 0, 1) := by decide +kernel
theorem dJ6_bitCount_0f7a4_2 : decode cJ6_bitCount_0f7a4 2 = .ok (.iconst 1, 1) := by decide +kernel
theorem dJ6_bitCount_0f7a4_3 : decode cJ6_bitCount_0f7a4 3 = .ok (.iushr, 1) := by decide +kernel
theorem dJ6_bitCount_0f7a4_4 : decode cJ6_bitCount_0f7a4 4 = .ok (.ldc_w 265, 3) := by decide +kernel
theorem dJ6_bitCount_0f7a4_7 : decode cJ6_bitCount_0f7a4 7 = .ok (.iand, 1) := by decide +kernel
theorem dJ6_bitCount_0f7a4_8 : decode cJ6_bitCount_0f7a4 8 = .ok (.isub, 1) := by decide +kernel
theorem dJ6_bitCount_0f7a4_9 : decode cJ6_bitCount_0f7a4 9 = .ok (.istore_n 0, 1) := by decide +kernel
theorem dJ6_bitCount_0f7a4_10 : decode cJ6_bitCount_0f7a4 10 = .ok (.iload_n 0, 1) := by decide +kernel
theorem dJ6_bitCount_0f7a4_11 : decode cJ6_bitCount_0f7a4 11 = .ok (.ldc_w 266, 3) := by decide +kernel
theorem dJ6_bitCount_0f7a4_14 : decode cJ6_bitCount_0f7a4 14 = .ok (.iand, 1) := by decide +kernel
theorem dJ6_bitCount_0f7a4_15 : decode cJ6_bitCount_0f7a4 15 = .ok (.iload_n 0, 1) := by decide +kernel
theorem dJ6_bitCount_0f7a4_16 : decode cJ6_bitCount_0f7a4 16 = .ok (.iconst 2, 1) := by decide +kernel
theorem dJ6_bitCount_0f7a4_17 : decode cJ6_bitCount_0f7a4 17 = .ok (.iushr, 1) := by decide +kernel
theorem dJ6_bitCount_0f7a4_18 : decode cJ6_bitCount_0f7a4 18 = .ok (.ldc_w 266, 3) := by decide +kernel
theorem dJ6_bitCount_0f7a4_21 : decode cJ6_bitCount_0f7a4 21 = .ok (.iand, 1) := by decide +kernel
theorem dJ6_bitCount_0f7a4_22 : decode cJ6_bitCount_0f7a4 22 = .ok (.iadd, 1) := by decide +kernel
theorem dJ6_bitCount_0f7a4_23 : decode cJ6_bitCount_0f7a4 23 = .ok (.istore_n 0, 1) := by decide +kernel
theorem dJ6_bitCount_0f7a4_24 : decode cJ6_bitCount_0f7a4 24 = .ok (.iload_n 0, 1) := by decide +kernel
theorem dJ6_bitCount_0f7a4_25 : decode cJ6_bitCount_0f7a4 25 = .ok (.iload_n 0, 1) := by decide +kernel
theorem dJ6_bitCount_0f7a4_26 : decode cJ6_bitCount_0f7a4 26 = .ok (.iconst 4, 1) := by decide +kernel
theorem dJ6_bitCount_0f7a4_27 : decode cJ6_bitCount_0f7a4 27 = .ok (.iushr, 1) := by decide +kernel
theorem dJ6_bitCount_0f7a4_28 : decode cJ6_bitCount_0f7a4 28 = .ok (.iadd, 1) := by decide +kernel
theorem dJ6_bitCount_0f7a4_29 : decode cJ6_bitCount_0f7a4 29 = .ok (.ldc_w 267, 3) := by decide +kernel
theorem dJ6_bitCount_0f7a4_32 : decode cJ6_bitCount_0f7a4 32 = .ok (.iand, 1) := by decide +kernel
theorem dJ6_bitCount_0f7a4_33 : decode cJ6_bitCount_0f7a4 33 = .ok (.istore_n 0, 1) := by decide +kernel
theorem dJ6_bitCount_0f7a4_34 : decode cJ6_bitCount_0f7a4 34 = .ok (.iload_n 0, 1) := by decide +kernel
theorem dJ6_bitCount_0f7a4_35 : decode cJ6_bitCount_0f7a4 35 = .ok (.iload_n 0, 1) := by decide +kernel
theorem dJ6_bitCount_0f7a4_36 : decode cJ6_bitCount_0f7a4 36 = .ok (.bipush 8, 2) := by decide +kernel
theorem dJ6_bitCount_0f7a4_38 : decode cJ6_bitCount_0f7a4 38 = .ok (.iushr, 1) := by decide +kernel
theorem dJ6_bitCount_0f7a4_39 : decode cJ6_bitCount_0f7a4 39 = .ok (.iadd, 1) := by decide +kernel
theorem dJ6_bitCount_0f7a4_40 : decode cJ6_bitCount_0f7a4 40 = .ok (.istore_n 0, 1) := by decide +kernel
theorem dJ6_bitCount_0f7a4_41 : decode cJ6_bitCount_0f7a4 41 = .ok (.iload_n 0, 1) := by decide +kernel
theorem dJ6_bitCount_0f7a4_42 : decode cJ6_bitCount_0f7a4 42 = .ok (.iload_n 0, 1) := by decide +kernel
theorem dJ6_bitCount_0f7a4_43 : decode cJ6_bitCount_0f7a4 43 = .ok (.bipush 16, 2) := by decide +kernel
theorem dJ6_bitCount_0f7a4_45 : decode cJ6_bitCount_0f7a4 45 = .ok (.iushr, 1) := by decide +kernel
theorem dJ6_bitCount_0f7a4_46 : decode cJ6_bitCount_0f7a4 46 = .ok (.iadd, 1) := by decide +kernel
theorem dJ6_bitCount_0f7a4_47 : decode cJ6_bitCount_0f7a4 47 = .ok (.istore_n 0, 1) := by decide +kernel
theorem dJ6_bitCount_0f7a4_48 : decode cJ6_bitCount_0f7a4 48 = .ok (.iload_n 0, 1) := by decide +kernel
theorem dJ6_bitCount_0f7a4_49 : decode cJ6_bitCount_0f7a4 49 = .ok (.bipush 63, 2) := by decide +kernel
theorem dJ6_bitCount_0f7a4_51 : decode cJ6_bitCount_0f7a4 51 = .ok (.iand, 1) := by decide +kernel
theorem dJ6_bitCount_0f7a4_52 : decode cJ6_bitCount_0f7a4 52 = .ok (.ireturn, 1) := by decide +kernel
theorem dJ9_abs_0f7a4_0 : decode cJ9_abs_0f7a4 0 = .ok (.iload_n 0, 1) := by decide +kernel
theorem dJ9_abs_0f7a4_1 : decode cJ9_abs_0f7a4 1 = .ok (.ifCond .ge 8, 3) := by decide +kernel
theorem dJ9_abs_0f7a4_4 : decode cJ9_abs_0f7a4 4 = .ok (.iload_n 0, 1) := by decide +kernel
theorem dJ9_abs_0f7a4_5 : decode cJ9_abs_0f7a4 5 = .ok (.ineg, 1) := by decide +kernel
theorem dJ9_abs_0f7a4_6 : decode cJ9_abs_0f7a4 6 = .ok (.goto 4, 3) := by decide +kernel
theorem dJ9_abs_0f7a4_9 : decode cJ9_abs_0f7a4 9 = .ok (.iload_n 0, 1) := by decide +kernel
theorem dJ9_abs_0f7a4_10 : decode cJ9_abs_0f7a4 10 = .ok (.ireturn, 1) := by decide +kernel
theorem dJ9_max_7cf53_0 : decode cJ9_max_7cf53 0 = .ok (.iload_n 0, 1) := by decide +kernel
theorem dJ9_max_7cf53_1 : decode cJ9_max_7cf53 1 = .ok (.iload_n 1, 1) := by decide +kernel
theorem dJ9_max_7cf53_2 : decode cJ9_max_7cf53 2 = .ok (.if_icmp .lt 7, 3) := by decide +kernel
theorem dJ9_max_7cf53_5 : decode cJ9_max_7cf53 5 = .ok (.iload_n 0, 1) := by decide +kernel
theorem dJ9_max_7cf53_6 : decode cJ9_max_7cf53 6 = .ok (.goto 4, 3) := by decide +kernel
theorem dJ9_max_7cf53_9 : decode cJ9_max_7cf53 9 = .ok (.iload_n 1, 1) := by decide +kernel
theorem dJ9_max_7cf53_10 : decode cJ9_max_7cf53 10 = .ok (.ireturn, 1) := by decide +kernel
theorem dJ9_min_7cf53_0 : decode cJ9_min_7cf53 0 = .ok (.iload_n 0, 1) := by decide +kernel
theorem dJ9_min_7cf53_1 : decode cJ9_min_7cf53 1 = .ok (.iload_n 1, 1) := by decide +kernel
theorem dJ9_min_7cf53_2 : decode cJ9_min_7cf53 2 = .ok (.if_icmp .gt 7, 3) := by decide +kernel
theorem dJ9_min_7cf53_5 : decode cJ9_min_7cf53 5 = .ok (.iload_n 0, 1) := by decide +kernel
theorem dJ9_min_7cf53_6 : decode cJ9_min_7cf53 6 = .ok (.goto 4, 3) := by decide +kernel
theorem dJ9_min_7cf53_9 : decode cJ9_min_7cf53 9 = .ok (.iload_n 1, 1) := by decide +kernel
theorem dJ9_min_7cf53_10 : decode cJ9_min_7cf53 10 = .ok (.ireturn, 1) := by decide +kernel
set_option maxRecDepth 20000 in
theorem ggJ0_length_8abf5_J0_coder_7d493 : GoodIn wsJ0_length_8abf5 wsJ0_coder_7d493 := goodIn_r _ [6, 7, 8] (by decide +kernel) (by decide +kernel)
set_option maxRecDepth 20000 in
theorem gJ0_length_8abf5_J0_coder_7d493 : GoodIn wsJ0_length_8abf5 (wsV RJ0 335 RJ0 yJ0_coder_7d493 wsJ0_coder_7d493) := goodIn_app (goodIn_of _ (by decide +kernel)) ggJ0_length_8abf5_J0_coder_7d493
theorem dJ0_length_8abf5_0 : decode cJ0_length_8abf5 0 = .ok (.aload_n 0, 1) := by decide +kernel
theorem dJ0_length_8abf5_1 : decode cJ0_length_8abf5 1 = .ok (.getfield 9, 3) := by decide +kernel
theorem dJ0_length_8abf5_4 : decode cJ0_length_8abf5 4 = .ok (.arraylength, 1) := by decide +kernel
theorem dJ0_length_8abf5_5 : decode cJ0_length_8abf5 5 = .ok (.aload_n 0, 1) := by decide +kernel
theorem dJ0_length_8abf5_6 : decode cJ0_length_8abf5 6 = .ok (.invokevirtual 335, 3) := by decide +kernel
theorem dJ0_length_8abf5_9 : decode cJ0_length_8abf5 9 = .ok (.ishr, 1) := by decide +kernel
theorem dJ0_length_8abf5_10 : decode cJ0_length_8abf5 10 = .ok (.ireturn, 1) := by decide +kernel
set_option maxRecDepth 20000 in
theorem ggJ0_charAt_5068e_J0_isLatin1_aae02 : GoodIn wsJ0_charAt_5068e wsJ0_isLatin1_aae02 := goodIn_r _ [6, 7, 8] (by decide +kernel) (by decide +kernel)
set_option maxRecDepth 20000 in
theorem gJ0_charAt_5068e_J0_isLatin1_aae02 : GoodIn wsJ0_charAt_5068e (wsV RJ0 492 RJ0 yJ0_isLatin1_aae02 wsJ0_isLatin1_aae02) := goodIn_app (goodIn_of _ (by decide +kernel)) ggJ0_charAt_5068e_J0_isLatin1_aae02
set_option maxRecDepth 20000 in
theorem ggJ0_charAt_5068e_J1_charAt_3b067 : GoodIn wsJ0_charAt_5068e wsJ1_charAt_3b067 := goodIn_r _ [12, 13, 14, 5, 15, 16, 17, 18, 19, 20] (by decide +kernel) (by decide +kernel)
set_option maxRecDepth 20000 in
theorem gJ0_charAt_5068e_J1_charAt_3b067 : GoodIn wsJ0_charAt_5068e (va_wsS RJ0 495 yJ1_charAt_3b067 wsJ1_charAt_3b067) := goodIn_app (goodIn_of _ (by decide +kernel)) ggJ0_charAt_5068e_J1_charAt_3b067
set_option maxRecDepth 20000 in
theorem ggJ0_charAt_5068e_J2_charAt_3b067 : GoodIn wsJ0_charAt_5068e wsJ2_charAt_3b067 := goodIn_r _ [24, 25, 26, 23, 27, 28, 29, 30, 31, 14, 5, 15, 16, 17, 18, 19, 20, 32, 33, 34, 35, 36, 37] (by decide +kernel) (by decide +kernel)
set_option maxRecDepth 20000 in
theorem gJ0_charAt_5068e_J2_charAt_3b067 : GoodIn wsJ0_charAt_5068e (va_wsS RJ0 498 yJ2_charAt_3b067 wsJ2_charAt_3b067) := goodIn_app (goodIn_of _ (by decide +kernel)) ggJ0_charAt_5068e_J2_charAt_3b067
theorem dJ0_charAt_5068e_0 : decode cJ0_charAt_5068e 0 = .ok (.aload_n 0, 1) := by decide +kernel
theorem dJ0_charAt_5068e_1 : decode cJ0_charAt_5068e 1 = .ok (.invokevirtual 492, 3) := by decide +kernel
theorem dJ0_charAt_5068e_4 : decode cJ0_charAt_5068e 4 = .ok (.ifCond .eq 12, 3) := by decide +kernel
theorem dJ0_charAt_5068e_7 : decode cJ0_charAt_5068e 7 = .ok (.aload_n 0, 1) := by decide +kernel
theorem dJ0_charAt_5068e_8 : decode cJ0_charAt_5068e 8 = .ok (.getfield 9, 3) := by decide +kernel
theorem dJ0_charAt_5068e_11 : decode cJ0_charAt_5068e 11 = .ok (.iload_n 1, 1) := by decide +kernel
theorem dJ0_charAt_5068e_12 : decode cJ0_charAt_5068e 12 = .ok (.invokestatic 495, 3) := by decide +kernel
theorem dJ0_charAt_5068e_15 : decode cJ0_charAt_5068e 15 = .ok (.ireturn, 1) := by decide +kernel
theorem dJ0_charAt_5068e_16 : decode cJ0_charAt_5068e 16 = .ok (.aload_n 0, 1) := by decide +kernel
theorem dJ0_charAt_5068e_17 : decode cJ0_charAt_5068e 17 = .ok (.getfield 9, 3) := by decide +kernel
theorem dJ0_charAt_5068e_20 : decode cJ0_charAt_5068e 20 = .ok (.iload_n 1, 1) := by decide +kernel
theorem dJ0_charAt_5068e_21 : decode cJ0_charAt_5068e 21 = .ok (.invokestatic 498, 3) := by decide +kernel
theorem dJ0_charAt_5068e_24 : decode cJ0_charAt_5068e 24 = .ok (.ireturn, 1) := by decide +kernel
theorem dJ0_coder_7d493_0 : decode cJ0_coder_7d493 0 = .ok (.getstatic 38, 3) := by decide +kernel
theorem dJ0_coder_7d493_3 : decode cJ0_coder_7d493 3 = .ok (.ifCond .eq 10, 3) := by decide +kernel
theorem dJ0_coder_7d493_6 : decode cJ0_coder_7d493 6 = .ok (.aload_n 0, 1) := by decide +kernel
theorem dJ0_coder_7d493_7 : decode cJ0_coder_7d493 7 = .ok (.getfield 15, 3) := by decide +kernel
theorem dJ0_coder_7d493_10 : decode cJ0_coder_7d493 10 = .ok (.goto 4, 3) := by decide +kernel
theorem dJ0_coder_7d493_13 : decode cJ0_coder_7d493 13 = .ok (.iconst 1, 1) := by decide +kernel
theorem dJ0_coder_7d493_14 : decode cJ0_coder_7d493 14 = .ok (.ireturn, 1) := by decide +kernel
theorem dJ0_isLatin1_aae02_0 : decode cJ0_isLatin1_aae02 0 = .ok (.getstatic 38, 3) := by decide +kernel
theorem dJ0_isLatin1_aae02_3 : decode cJ0_isLatin1_aae02 3 = .ok (.ifCond .eq 14, 3) := by decide +kernel
theorem dJ0_isLatin1_aae02_6 : decode cJ0_isLatin1_aae02 6 = .ok (.aload_n 0, 1) := by decide +kernel
theorem dJ0_isLatin1_aae02_7 : decode cJ0_isLatin1_aae02 7 = .ok (.getfield 15, 3) := by decide +kernel
theorem dJ0_isLatin1_aae02_10 : decode cJ0_isLatin1_aae02 10 = .ok (.ifCond .ne 7, 3) := by decide +kernel
theorem dJ0_isLatin1_aae02_13 : decode cJ0_isLatin1_aae02 13 = .ok (.iconst 1, 1) := by decide +kernel
theorem dJ0_isLatin1_aae02_14 : decode cJ0_isLatin1_aae02 14 = .ok (.goto 4, 3) := by decide +kernel
theorem dJ0_isLatin1_aae02_17 : decode cJ0_isLatin1_aae02 17 = .ok (.iconst 0, 1) := by decide +kernel
theorem dJ0_isLatin1_aae02_18 : decode cJ0_isLatin1_aae02 18 = .ok (.ireturn, 1) := by decide +kernel
set_option maxRecDepth 20000 in
theorem ggJ0_checkIndex_df160_J3_checkIndex_8e157 : GoodIn wsJ0_checkIndex_df160 wsJ3_checkIndex_8e157 := goodIn_r _ [5] (by decide +kernel) (by decide +kernel)
set_option maxRecDepth 20000 in
theorem gJ0_checkIndex_df160_J3_checkIndex_8e157 : GoodIn wsJ0_checkIndex_df160 (va_wsS RJ0 1059 yJ3_checkIndex_8e157 wsJ3_checkIndex_8e157) := goodIn_app (goodIn_of _ (by decide +kernel)) ggJ0_checkIndex_df160_J3_checkIndex_8e157
theorem dJ0_checkIndex_df160_0 : decode cJ0_checkIndex_df160 0 = .ok (.iload_n 0, 1) := by decide +kernel
theorem dJ0_checkIndex_df160_1 : decode cJ0_checkIndex_df160 1 = .ok (.iload_n 1, 1) := by decide +kernel
theorem dJ0_checkIndex_df160_2 : decode cJ0_checkIndex_df160 2 = .ok (.getstatic 1053, 3) := by decide +kernel
theorem dJ0_checkIndex_df160_5 : decode cJ0_checkIndex_df160 5 = .ok (.invokestatic 1059, 3) := by decide +kernel
theorem dJ0_checkIndex_df160_8 : decode cJ0_checkIndex_df160 8 = .ok (.pop, 1) := by decide +kernel
theorem dJ0_checkIndex_df160_9 : decode cJ0_checkIndex_df160 9 = .ok (.return_, 1) := by decide +kernel
set_option maxRecDepth 20000 in
theorem ggJ1_charAt_3b067_J0_checkIndex_df160 : GoodIn wsJ1_charAt_3b067 wsJ0_checkIndex_df160 := goodIn_r _ [4, 5, 6, 7, 8, 9] (by decide +kernel) (by decide +kernel)
set_option maxRecDepth 20000 in
theorem gJ1_charAt_3b067_J0_checkIndex_df160 : GoodIn wsJ1_charAt_3b067 (va_wsS RJ1 9 yJ0_checkIndex_df160 wsJ0_checkIndex_df160) := goodIn_app (goodIn_of _ (by decide +kernel)) ggJ1_charAt_3b067_J0_checkIndex_df160
theorem dJ1_charAt_3b067_0 : decode cJ1_charAt_3b067 0 = .ok (.iload_n 1, 1) := by decide +kernel
theorem dJ1_charAt_3b067_1 : decode cJ1_charAt_3b067 1 = .ok (.aload_n 0, 1) := by decide +kernel
theorem dJ1_charAt_3b067_2 : decode cJ1_charAt_3b067 2 = .ok (.arraylength, 1) := by decide +kernel
theorem dJ1_charAt_3b067_3 : decode cJ1_charAt_3b067 3 = .ok (.invokestatic 9, 3) := by decide +kernel
theorem dJ1_charAt_3b067_6 : decode cJ1_charAt_3b067 6 = .ok (.aload_n 0, 1) := by decide +kernel
theorem dJ1_charAt_3b067_7 : decode cJ1_charAt_3b067 7 = .ok (.iload_n 1, 1) := by decide +kernel
theorem dJ1_charAt_3b067_8 : decode cJ1_charAt_3b067 8 = .ok (.baload, 1) := by decide +kernel
theorem dJ1_charAt_3b067_9 : decode cJ1_charAt_3b067 9 = .ok (.sipush 255, 3) := by decide +kernel
theorem dJ1_charAt_3b067_12 : decode cJ1_charAt_3b067 12 = .ok (.iand, 1) := by decide +kernel
theorem dJ1_charAt_3b067_13 : decode cJ1_charAt_3b067 13 = .ok (.i2c, 1) := by decide +kernel
theorem dJ1_charAt_3b067_14 : decode cJ1_charAt_3b067 14 = .ok (.ireturn, 1) := by decide +kernel
set_option maxRecDepth 20000 in
theorem ggJ2_getChar_3b067_J2_length_9d52b : GoodIn wsJ2_getChar_3b067 wsJ2_length_9d52b := goodIn_r _ [7] (by decide +kernel) (by decide +kernel)
set_option maxRecDepth 20000 in
theorem gJ2_getChar_3b067_J2_length_9d52b : GoodIn wsJ2_getChar_3b067 (va_wsS RJ2 48 yJ2_length_9d52b wsJ2_length_9d52b) := goodIn_app (goodIn_of _ (by decide +kernel)) ggJ2_getChar_3b067_J2_length_9d52b
theorem dJ2_getChar_3b067_0 : decode cJ2_getChar_3b067 0 = .ok (.getstatic 44, 3) := by decide +kernel
theorem dJ2_getChar_3b067_3 : decode cJ2_getChar_3b067 3 = .ok (.ifCond .ne 25, 3) := by decide +kernel
theorem dJ2_getChar_3b067_6 : decode cJ2_getChar_3b067 6 = .ok (.iload_n 1, 1) := by decide +kernel
theorem dJ2_getChar_3b067_7 : decode cJ2_getChar_3b067 7 = .ok (.ifCond .lt 11, 3) := by decide +kernel
theorem dJ2_getChar_3b067_10 : decode cJ2_getChar_3b067 10 = .ok (.iload_n 1, 1) := by decide +kernel
theorem dJ2_getChar_3b067_11 : decode cJ2_getChar_3b067 11 = .ok (.aload_n 0, 1) := by decide +kernel
theorem dJ2_getChar_3b067_12 : decode cJ2_getChar_3b067 12 = .ok (.invokestatic 48, 3) := by decide +kernel
theorem dJ2_getChar_3b067_15 : decode cJ2_getChar_3b067 15 = .ok (.if_icmp .lt 13, 3) := by decide +kernel
theorem dJ2_getChar_3b067_18 : decode cJ2_getChar_3b067 18 = .ok (.new 52, 3) := by decide +kernel
theorem dJ2_getChar_3b067_21 : decode cJ2_getChar_3b067 21 = .ok (.dup, 1) := by decide +kernel
theorem dJ2_getChar_3b067_22 : decode cJ2_getChar_3b067 22 = .ok (.ldc 54, 2) := by decide +kernel
theorem dJ2_getChar_3b067_24 : decode cJ2_getChar_3b067 24 = .ok (.invokespecial 56, 3) := by decide +kernel
theorem dJ2_getChar_3b067_27 : decode cJ2_getChar_3b067 27 = .ok (.athrow, 1) := by decide +kernel
theorem dJ2_getChar_3b067_28 : decode cJ2_getChar_3b067 28 = .ok (.iload_n 1, 1) := by decide +kernel
theorem dJ2_getChar_3b067_29 : decode cJ2_getChar_3b067 29 = .ok (.iconst 1, 1) := by decide +kernel
theorem dJ2_getChar_3b067_30 : decode cJ2_getChar_3b067 30 = .ok (.ishl, 1) := by decide +kernel
theorem dJ2_getChar_3b067_31 : decode cJ2_getChar_3b067 31 = .ok (.istore_n 1, 1) := by decide +kernel
theorem dJ2_getChar_3b067_32 : decode cJ2_getChar_3b067 32 = .ok (.aload_n 0, 1) := by decide +kernel
theorem dJ2_getChar_3b067_33 : decode cJ2_getChar_3b067 33 = .ok (.iload_n 1, 1) := by decide +kernel
theorem dJ2_getChar_3b067_34 : decode cJ2_getChar_3b067 34 = .ok (.iinc 1 1, 3) := by decide +kernel
theorem dJ2_getChar_3b067_37 : decode cJ2_getChar_3b067 37 = .ok (.baload, 1) := by decide +kernel
theorem dJ2_getChar_3b067_38 : decode cJ2_getChar_3b067 38 = .ok (.sipush 255, 3) := by decide +kernel
theorem dJ2_getChar_3b067_41 : decode cJ2_getChar_3b067 41 = .ok (.iand, 1) := by decide +kernel
theorem dJ2_getChar_3b067_42 : decode cJ2_getChar_3b067 42 = .ok (.getstatic 59, 3) := by decide +kernel
theorem dJ2_getChar_3b067_45 : decode cJ2_getChar_3b067 45 = .ok (.ishl, 1) := by decide +kernel
theorem dJ2_getChar_3b067_46 : decode cJ2_getChar_3b067 46 = .ok (.aload_n 0, 1) := by decide +kernel
theorem dJ2_getChar_3b067_47 : decode cJ2_getChar_3b067 47 = .ok (.iload_n 1, 1) := by decide +kernel
theorem dJ2_getChar_3b067_48 : decode cJ2_getChar_3b067 48 = .ok (.baload, 1) := by decide +kernel
theorem dJ2_getChar_3b067_49 : decode cJ2_getChar_3b067 49 = .ok (.sipush 255, 3) := by decide +kernel
theorem dJ2_getChar_3b067_52 : decode cJ2_getChar_3b067 52 = .ok (.iand, 1) := by decide +kernel
theorem dJ2_getChar_3b067_53 : decode cJ2_getChar_3b067 53 = .ok (.getstatic 63, 3) := by decide +kernel
theorem dJ2_getChar_3b067_56 : decode cJ2_getChar_3b067 56 = .ok (.ishl, 1) := by decide +kernel
theorem dJ2_getChar_3b067_57 : decode cJ2_getChar_3b067 57 = .ok (.ior, 1) := by decide +kernel
theorem dJ2_getChar_3b067_58 : decode cJ2_getChar_3b067 58 = .ok (.i2c, 1) := by decide +kernel
theorem dJ2_getChar_3b067_59 : decode cJ2_getChar_3b067 59 = .ok (.ireturn, 1) := by decide +kernel
theorem dJ2_length_9d52b_0 : decode cJ2_length_9d52b 0 = .ok (.aload_n 0, 1) := by decide +kernel
theorem dJ2_length_9d52b_1 : decode cJ2_length_9d52b 1 = .ok (.arraylength, 1) := by decide +kernel
theorem dJ2_length_9d52b_2 : decode cJ2_length_9d52b 2 = .ok (.iconst 1, 1) := by decide +kernel
theorem dJ2_length_9d52b_3 : decode cJ2_length_9d52b 3 = .ok (.ishr, 1) := by decide +kernel
theorem dJ2_length_9d52b_4 : decode cJ2_length_9d52b 4 = .ok (.ireturn, 1) := by decide +kernel
set_option maxRecDepth 20000 in
theorem ggJ2_charAt_3b067_J2_checkIndex_2214a : GoodIn wsJ2_charAt_3b067 wsJ2_checkIndex_2214a := goodIn_r _ [4, 5, 6, 3, 7, 8, 9, 10, 11, 12, 13, 14, 15, 16] (by decide +kernel) (by decide +kernel)
set_option maxRecDepth 20000 in
theorem gJ2_charAt_3b067_J2_checkIndex_2214a : GoodIn wsJ2_charAt_3b067 (va_wsS RJ2 67 yJ2_checkIndex_2214a wsJ2_checkIndex_2214a) := goodIn_app (goodIn_of _ (by decide +kernel)) ggJ2_charAt_3b067_J2_checkIndex_2214a
set_option maxRecDepth 20000 in
theorem ggJ2_charAt_3b067_J2_getChar_3b067 : GoodIn wsJ2_charAt_3b067 wsJ2_getChar_3b067 := goodIn_r _ [19, 20, 21, 22, 5, 6, 3, 7] (by decide +kernel) (by decide +kernel)
set_option maxRecDepth 20000 in
theorem gJ2_charAt_3b067_J2_getChar_3b067 : GoodIn wsJ2_charAt_3b067 (va_wsS RJ2 71 yJ2_getChar_3b067 wsJ2_getChar_3b067) := goodIn_app (goodIn_of _ (by decide +kernel)) ggJ2_charAt_3b067_J2_getChar_3b067
theorem dJ2_charAt_3b067_0 : decode cJ2_charAt_3b067 0 = .ok (.iload_n 1, 1) := by decide +kernel
theorem dJ2_charAt_3b067_1 : decode cJ2_charAt_3b067 1 = .ok (.aload_n 0, 1) := by decide +kernel
theorem dJ2_charAt_3b067_2 : decode cJ2_charAt_3b067 2 = .ok (.invokestatic 67, 3) := by decide +kernel
theorem dJ2_charAt_3b067_5 : decode cJ2_charAt_3b067 5 = .ok (.aload_n 0, 1) := by decide +kernel
theorem dJ2_charAt_3b067_6 : decode cJ2_charAt_3b067 6 = .ok (.iload_n 1, 1) := by decide +kernel
theorem dJ2_charAt_3b067_7 : decode cJ2_charAt_3b067 7 = .ok (.invokestatic 71, 3) := by decide +kernel
theorem dJ2_charAt_3b067_10 : decode cJ2_charAt_3b067 10 = .ok (.ireturn, 1) := by decide +kernel
set_option maxRecDepth 20000 in
theorem ggJ2_checkIndex_2214a_J2_length_9d52b : GoodIn wsJ2_checkIndex_2214a wsJ2_length_9d52b := goodIn_r _ [4] (by decide +kernel) (by decide +kernel)
set_option maxRecDepth 20000 in
theorem gJ2_checkIndex_2214a_J2_length_9d52b : GoodIn wsJ2_checkIndex_2214a (va_wsS RJ2 48 yJ2_length_9d52b wsJ2_length_9d52b) := goodIn_app (goodIn_of _ (by decide +kernel)) ggJ2_checkIndex_2214a_J2_length_9d52b
set_option maxRecDepth 20000 in
theorem ggJ2_checkIndex_2214a_J0_checkIndex_df160 : GoodIn wsJ2_checkIndex_2214a wsJ0_checkIndex_df160 := goodIn_r _ [8, 9, 10, 11, 12, 13] (by decide +kernel) (by decide +kernel)
set_option maxRecDepth 20000 in
theorem gJ2_checkIndex_2214a_J0_checkIndex_df160 : GoodIn wsJ2_checkIndex_2214a (va_wsS RJ2 414 yJ0_checkIndex_df160 wsJ0_checkIndex_df160) := goodIn_app (goodIn_of _ (by decide +kernel)) ggJ2_checkIndex_2214a_J0_checkIndex_df160
theorem dJ2_checkIndex_2214a_0 : decode cJ2_checkIndex_2214a 0 = .ok (.iload_n 0, 1) := by decide +kernel
theorem dJ2_checkIndex_2214a_1 : decode cJ2_checkIndex_2214a 1 = .ok (.aload_n 1, 1) := by decide +kernel
theorem dJ2_checkIndex_2214a_2 : decode cJ2_checkIndex_2214a 2 = .ok (.invokestatic 48, 3) := by decide +kernel
theorem dJ2_checkIndex_2214a_5 : decode cJ2_checkIndex_2214a 5 = .ok (.invokestatic 414, 3) := by decide +kernel
theorem dJ2_checkIndex_2214a_8 : decode cJ2_checkIndex_2214a 8 = .ok (.return_, 1) := by decide +kernel
theorem dJ3_checkIndex_8e157_0 : decode cJ3_checkIndex_8e157 0 = .ok (.iload_n 0, 1) := by decide +kernel
theorem dJ3_checkIndex_8e157_1 : decode cJ3_checkIndex_8e157 1 = .ok (.ifCond .lt 8, 3) := by decide +kernel
theorem dJ3_checkIndex_8e157_4 : decode cJ3_checkIndex_8e157 4 = .ok (.iload_n 0, 1) := by decide +kernel
theorem dJ3_checkIndex_8e157_5 : decode cJ3_checkIndex_8e157 5 = .ok (.iload_n 1, 1) := by decide +kernel
theorem dJ3_checkIndex_8e157_6 : decode cJ3_checkIndex_8e157 6 = .ok (.if_icmp .lt 10, 3) := by decide +kernel
theorem dJ3_checkIndex_8e157_9 : decode cJ3_checkIndex_8e157 9 = .ok (.aload_n 2, 1) := by decide +kernel
theorem dJ3_checkIndex_8e157_10 : decode cJ3_checkIndex_8e157 10 = .ok (.iload_n 0, 1) := by decide +kernel
theorem dJ3_checkIndex_8e157_11 : decode cJ3_checkIndex_8e157 11 = .ok (.iload_n 1, 1) := by decide +kernel
theorem dJ3_checkIndex_8e157_12 : decode cJ3_checkIndex_8e157 12 = .ok (.invokestatic 95, 3) := by decide +kernel
theorem dJ3_checkIndex_8e157_15 : decode cJ3_checkIndex_8e157 15 = .ok (.athrow, 1) := by decide +kernel
theorem dJ3_checkIndex_8e157_16 : decode cJ3_checkIndex_8e157 16 = .ok (.iload_n 0, 1) := by decide +kernel
theorem dJ3_checkIndex_8e157_17 : decode cJ3_checkIndex_8e157 17 = .ok (.ireturn, 1) := by decide +kernel
end
section
/-! ===== segments: the world as a list of lists of cells; a call takes some of them by a mask ===== -/
def sgT {α : Type} : List Bool → List α → List α
  | true :: bs, x :: xs => x :: sgT bs xs
  | false :: bs, _ :: xs => sgT bs xs
  | _, _ => []
def sgF {α : Type} : List Bool → List α → List α
  | true :: bs, _ :: xs => sgF bs xs
  | false :: bs, x :: xs => x :: sgF bs xs
  | [], xs => xs
  | _ :: _, [] => []
theorem sg_perm {α : Type} : ∀ (bs : List Bool) (ss : List (List α)), ss.flatten.Perm ((sgT bs ss).flatten ++ (sgF bs ss).flatten)
  | [], ss => by cases ss <;> exact List.Perm.refl _
  | b :: bs, [] => by cases b <;> exact List.Perm.refl _
  | true :: bs, x :: xs => by
    show (x ++ xs.flatten).Perm ((x ++ (sgT bs xs).flatten) ++ (sgF bs xs).flatten)
    rw [List.append_assoc]
    exact List.Perm.append_left x (sg_perm bs xs)
  | false :: bs, x :: xs => by
    show (x ++ xs.flatten).Perm ((sgT bs xs).flatten ++ (x ++ (sgF bs xs).flatten))
    refine (List.Perm.append_left x (sg_perm bs xs)).trans ?_
    rw [← List.append_assoc, ← List.append_assoc]
    exact List.Perm.append_right _ List.perm_append_comm
theorem sg_at {α : Type} : ∀ (ss : List (List α)) (i j : Nat) (seg : List α) (q : α), ss[i]? = some seg → seg[j]? = some q → ∃ k, ss.flatten[k]? = some q ∧ ∀ e, ss.flatten.set k e = (ss.set i (seg.set j e)).flatten
  | [], i, j, seg, q, h, _ => by simp at h
  | s0 :: ss, 0, j, seg, q, h, hj => by
    simp at h
    subst h
    have hl : j < s0.length := (List.getElem?_eq_some_iff.mp hj).1
    refine ⟨j, ?_, fun e => ?_⟩
    · rw [List.flatten_cons, List.getElem?_append_left hl]; exact hj
    · rw [List.flatten_cons, List.set_append_left _ _ hl, List.set_cons_zero, List.flatten_cons]
  | s0 :: ss, i + 1, j, seg, q, h, hj => by
    have h' : ss[i]? = some seg := by simpa using h
    obtain ⟨k, h1, h2⟩ := sg_at ss i j seg q h' hj
    refine ⟨s0.length + k, ?_, fun e => ?_⟩
    · rw [List.flatten_cons, List.getElem?_append_right (by omega), Nat.add_sub_cancel_left]; exact h1
    · rw [List.flatten_cons, List.set_append_right _ _ (by omega), Nat.add_sub_cancel_left, h2 e, List.set_cons_succ, List.flatten_cons]
theorem vp_mem {D : va_G} {cl : List vw_C} {ws : va_W} {H : Heap} : va_P D cl ws H ↔ ∀ q ∈ ws, va_at D cl q H :=
  ⟨fun h q hq => by obtain ⟨k, hk⟩ := List.getElem?_of_mem hq; exact h k q hk, fun h k q hk => h q (List.mem_of_getElem? hk)⟩
theorem vd_mem {A : Nat → Prop} {ws : va_W} : va_D A ws ↔ ws.Pairwise (fun p q => p.1 ≠ q.1) ∧ ∀ q ∈ ws, A q.1 := by
  constructor
  · intro h
    refine ⟨List.pairwise_iff_getElem.mpr fun i j hi hj hij e => ?_, fun q hq => ?_⟩
    · exact absurd (h.1 i j _ _ (List.getElem?_eq_getElem hi) (List.getElem?_eq_getElem hj) e) (Nat.ne_of_lt hij)
    · obtain ⟨k, hk⟩ := List.getElem?_of_mem hq
      exact h.2 k q hk
  · intro h
    refine ⟨fun i j p q hi hj e => ?_, fun k q hk => h.2 q (List.mem_of_getElem? hk)⟩
    obtain ⟨hi1, hi2⟩ := List.getElem?_eq_some_iff.mp hi
    obtain ⟨hj1, hj2⟩ := List.getElem?_eq_some_iff.mp hj
    rcases Nat.lt_trichotomy i j with g | g | g
    · exact absurd (by rw [hi2, hj2]; exact e) (List.pairwise_iff_getElem.mp h.1 i j hi1 hj1 g)
    · exact g
    · exact absurd (by rw [hi2, hj2]; exact e.symm) (List.pairwise_iff_getElem.mp h.1 j i hj1 hi1 g)
theorem va_mem {ws : va_W} {sz q : Nat} : va_A ws sz q ↔ (∃ e, (q, e) ∈ ws) ∨ sz ≤ q := by
  constructor
  · rintro (⟨k, e, h⟩ | h)
    · exact Or.inl ⟨e, List.mem_of_getElem? h⟩
    · exact Or.inr h
  · rintro (⟨e, h⟩ | h)
    · obtain ⟨k, hk⟩ := List.getElem?_of_mem h
      exact Or.inl ⟨k, e, hk⟩
    · exact Or.inr h
theorem vp_perm {D : va_G} {cl : List vw_C} {ws ws' : va_W} {H : Heap} (hp : ws.Perm ws') (h : va_P D cl ws H) : va_P D cl ws' H :=
  vp_mem.mpr fun q hq => vp_mem.mp h q (hp.mem_iff.mpr hq)
theorem vd_perm {A : Nat → Prop} {ws ws' : va_W} (hp : ws.Perm ws') (h : va_D A ws) : va_D A ws' :=
  vd_mem.mpr ⟨(hp.pairwise_iff (fun h e => h e.symm)).mp (vd_mem.mp h).1, fun q hq => (vd_mem.mp h).2 q (hp.mem_iff.mpr hq)⟩
/-- the frame rule, by a mask -/
theorem sg_join {D : va_G} {cl : List vw_C} {A0 : Nat → Prop} {H H1 : Heap} {ss ss' wcs w1s : List va_W} (bs : List Bool) (h1 : sgT bs ss = wcs) (h2 : sgT bs ss' = w1s) (h3 : sgF bs ss' = sgF bs ss)
    (hP : va_P D cl ss.flatten H) (hD : va_D A0 ss.flatten) (hk : ∀ q : Nat, q < H.size → ¬ va_A wcs.flatten H.size q → H1[q]? = H[q]?) (hF : ∀ q, va_A wcs.flatten H.size q → A0 q)
    (hP1 : va_P D cl w1s.flatten H1) (hD1 : va_D (va_A wcs.flatten H.size) w1s.flatten) : va_P D cl ss'.flatten H1 ∧ va_D A0 ss'.flatten := by
  subst h1; subst h2
  have pe := sg_perm bs ss
  have pe' := sg_perm bs ss'
  rw [h3] at pe'
  have hP' := vp_mem.mp (vp_perm pe hP)
  have hD' := vd_mem.mp (vd_perm pe hD)
  obtain ⟨n1, n2, n3⟩ := List.pairwise_append.mp hD'.1
  have apart : ∀ q ∈ (sgF bs ss).flatten, ¬ va_A (sgT bs ss).flatten H.size q.1 ∧ q.1 < H.size := by
    intro q hq
    have hl := (hP' q (List.mem_append_right _ hq)).lt
    refine ⟨fun h => ?_, hl⟩
    rcases va_mem.mp h with ⟨e, h⟩ | h
    · exact n3 _ h q hq rfl
    · omega
  have hD1' := vd_mem.mp hD1
  refine ⟨vp_perm pe'.symm (vp_mem.mpr fun q hq => ?_), vd_perm pe'.symm (vd_mem.mpr ⟨List.pairwise_append.mpr ⟨hD1'.1, n2, fun x hx y hy e => ?_⟩, fun q hq => ?_⟩)⟩
  · rcases List.mem_append.mp hq with h | h
    · exact vp_mem.mp hP1 q h
    · exact (hP' q (List.mem_append_right _ h)).kept (hk q.1 (apart q h).2 (apart q h).1)
  · exact (apart y hy).1 (by rw [← e]; exact hD1'.2 x hx)
  · rcases List.mem_append.mp hq with h | h
    · exact hF _ (hD1'.2 q h)
    · exact hD'.2 q (List.mem_append_right _ h)
/-- the world of a walk: its cells, that they are apart and the walk's own, and the frame -/
def Wo (D : va_G) (cl : List vw_C) (A : Nat → Prop) (H0 H : Heap) (locs : List Loc) (ss : List va_W) : Prop := va_P D cl ss.flatten H ∧ va_D A ss.flatten ∧ va_S A H0 H locs
theorem Wo.to {D : va_G} {cl : List vw_C} {A : Nat → Prop} {H0 H : Heap} {locs : List Loc} {ss ss' : List va_W} (h : Wo D cl A H0 H locs ss) (e : ss = ss') : Wo D cl A H0 H locs ss' := e ▸ h
theorem Wo.free {D : va_G} {cl : List vw_C} {A : Nat → Prop} {H0 H : Heap} {locs : List Loc} {ss wcs : List va_W} (h : Wo D cl A H0 H locs ss) (hA : ∀ q, H0.size ≤ q → A q) (bs : List Bool) (h1 : sgT bs ss = wcs) : ∀ q, va_A wcs.flatten H.size q → A q := by
  subst h1
  intro q hq
  rcases va_mem.mp hq with ⟨e, g⟩ | g
  · exact (vd_mem.mp h.2.1).2 (q, e) ((sg_perm bs ss).mem_iff.mpr (List.mem_append_left _ g))
  · exact hA q (Nat.le_trans h.2.2.1 g)
theorem Wo.part {D : va_G} {cl : List vw_C} {A : Nat → Prop} {H0 H : Heap} {locs : List Loc} {ss wcs : List va_W} (h : Wo D cl A H0 H locs ss) (bs : List Bool) (h1 : sgT bs ss = wcs) : va_P D cl wcs.flatten H ∧ va_D A wcs.flatten := by
  subst h1
  have pe := sg_perm bs ss
  exact ⟨vp_mem.mpr fun q hq => vp_mem.mp h.1 q (pe.mem_iff.mpr (List.mem_append_left _ hq)), vd_mem.mpr ⟨(List.pairwise_append.mp (vd_mem.mp (vd_perm pe h.2.1)).1).1, fun q hq => (vd_mem.mp h.2.1).2 q (pe.mem_iff.mpr (List.mem_append_left _ hq))⟩⟩
/-- facts of cells that nobody writes -/
def EGood (E : (Nat → Prop) → State → Heap → Prop) : Prop :=
  (∀ (A : Nat → Prop) (u U : State) (H : Heap), u.vm.Alike U.vm → E A u H → E A U H) ∧ (∀ (A : Nat → Prop) (U : State) (H H1 : Heap), H.size ≤ H1.size → (∀ q : Nat, q < H.size → ¬ A q → H1[q]? = H[q]?) → E A U H → E A U H1) ∧ ∀ (A A' : Nat → Prop) (U : State) (H : Heap), (∀ q, q < H.size → A' q → A q) → E A U H → E A' U H
def E0 : (Nat → Prop) → State → Heap → Prop := fun _ _ _ => True
theorem E0_good : EGood E0 := ⟨fun _ _ _ _ _ _ => trivial, fun _ _ _ _ _ _ _ => trivial, fun _ _ _ _ _ _ => trivial⟩
/-- a contract over segments: the answer rv, the segments behind it w1 u for some u with 'post u' -/
def CE (E : (Nat → Prop) → State → Heap → Prop) (l : Launch) (D : va_G) (cl : List vw_C) (tys : List (ClassId × FieldType)) (y : MethodName) (ws : List Cond) (rm : Room) (av : List Value) (w : List va_W) {S : Type} (rv : Option Value) (post : S → Prop) (w1 : S → List va_W) (mc ms : Nat) : Prop :=
  ∀ sz : Nat, Met l y ws rm (va_Pc av (fun U => U.heap.size = sz ∧ va_P D cl w.flatten U.heap ∧ va_K D cl tys U ∧ va_D (fun _ => True) w.flatten ∧ E (va_A w.flatten sz) U U.heap))
    (fun _ st oc t => (∃ u : S, oc = .returned rv ∧ post u ∧ va_P D cl (w1 u).flatten t.heap ∧ va_D (va_A w.flatten sz) (w1 u).flatten) ∧ va_F (va_A w.flatten sz) st t) mc ms (va_A w.flatten sz)
/-- where a walk of such a method ends -/
def RQ (below : List Frame) (D : va_G) (cl : List vw_C) (A : Nat → Prop) (args : Array Value) (s : State) {S : Type} (rv : Option Value) (post : S → Prop) (w1 : S → List va_W) (mc ms : Nat) : State → Prop :=
  MQ below (fun _ st oc t => (∃ u : S, oc = .returned rv ∧ post u ∧ va_P D cl (w1 u).flatten t.heap ∧ va_D A (w1 u).flatten) ∧ va_F A st t) args s mc ms A
theorem CE.ofW {E : (Nat → Prop) → State → Heap → Prop} {l : Launch} {D : va_G} {cl : List vw_C} {tys : List (ClassId × FieldType)} {y : MethodName} {ws ws' : List Cond} {rm : Room} {av : List Value} {w : List va_W} {S : Type} {rv : Option Value} {post : S → Prop} {w1 : S → List va_W} {mc ms : Nat} {cc : ByteArray} {maxL : Nat} {ret : Option FieldType} {lv : List (Nat × Value)}
    (hy : plainName y.cls = true) (hw : ws = Cond.code y cc maxL ret :: ws') (hln : (lg_sl av).length ≤ maxL) (hlv : lv_args 0 av = lv)
    (body : ∀ (p : Program) (e : Env) (s : State) (m : MethodId) (args : Array Value) (below : List Frame) (meth : Method) (c : Code) (ls : Array Slot) (A : Nat → Prop) (Q : State → Prop), Q = RQ below D cl A args s rv post w1 mc ms → p.tables.exec = Jvm.exec → c.code = cc → c.maxLocals = maxL → meth.sig.returnType = ret → meth.locks = false → meth.name = y.name → s.vm.findClass y.cls = some m.cls → (∀ w ∈ ws, w.before args s = true) → va_K D cl tys s → (∀ q, s.heap.size ≤ q → A q) → E A s s.heap → Wo D cl A s.heap s.heap [] w → lv_has ls maxL lv →
      W p l e rm s m args below meth c s.heap [] 0 0 Q (F0 m 0 ls [])) : CE E l D cl tys y ws rm av w rv post w1 mc ms := by
  intro sz
  refine Met.ofW (cc := cc) (maxL := maxL) (ret := ret) hy hw ?_
  intro p e s m args below meth c s₁ B hml hv
  obtain ⟨rfl, hsz, hP, hK, hD0, hE⟩ := hv
  subst hsz
  subst hlv
  have hl := lv_entry av (n := maxL) hln
  rw [lg_entry_eq]
  exact body p e s m av.toArray below meth c _ (va_A w.flatten s.heap.size) _ rfl B.exec B.bytes hml B.returns B.notSynchronized (name_of_methodNamed B.named B.method).1 (findClass_of_methodNamed B.named) (atoms_spec (ws := ws) B.pre) hK (fun q h => Or.inr h) hE ⟨hP, hD0.self, va_S.rf⟩ hl
section FR
variable {p : Program} {l : Launch} {e : Env} {R : Room} {s : State} {m : MethodId} {args : Array Value} {below : List Frame} {meth : Method} {c : Code} {H H0 : Heap} {locs : List Loc} {cells slots : Nat} {Q : State → Prop}
variable {cc : ByteArray} {pc : Nat} {ls : Array Slot} {rest : List Value} {D : va_G} {cl : List vw_C} {tys : List (ClassId × FieldType)} {A : Nat → Prop} {ss : List va_W}
theorem rt_i {S : Type} {v : Int32} {rv : Option Value} {post : S → Prop} {w1 : S → List va_W} (hQ : Q = RQ below D cl A args s rv post w1 cells slots) (hx : p.tables.exec = Jvm.exec) (hb : c.code = cc) (hr : meth.sig.returnType = some .int) (hlocks : meth.locks = false) (hW : Wo D cl A s.heap H locs ss) (hdg : decode cc pc = .ok (.ireturn, 1)) (u : S) (hv : rv = some (.int v)) (hp : post u) (hs : ss = w1 u) :
    W p l e R s m args below meth c H locs cells slots Q (F0 m pc ls [.int v]) := by
  subst hQ; subst hs; subst hv
  exact W.iret hx hb hr (fun t ht _ => ⟨⟨u, rfl, hp, by rw [ht]; exact hW.1, hW.2.1⟩, hW.2.2.F ht⟩) hW.2.2.2.2 hdg hlocks
theorem rt_z {S : Type} {v : Int32} {ty : FieldType} {rv : Option Value} {post : S → Prop} {w1 : S → List va_W} (hQ : Q = RQ below D cl A args s rv post w1 cells slots) (hx : p.tables.exec = Jvm.exec) (hb : c.code = cc) (hr : meth.sig.returnType = some ty) (hlocks : meth.locks = false) (hW : Wo D cl A s.heap H locs ss) (hdg : decode cc pc = .ok (.ireturn, 1)) (hn : narrow ty (.int v) = .int v) (u : S) (hv : rv = some (.int v)) (hp : post u) (hs : ss = w1 u) :
    W p l e R s m args below meth c H locs cells slots Q (F0 m pc ls [.int v]) := by
  subst hQ; subst hs; subst hv
  exact W.zret hx hb hr hn (fun t ht _ => ⟨⟨u, rfl, hp, by rw [ht]; exact hW.1, hW.2.1⟩, hW.2.2.F ht⟩) hW.2.2.2.2 hdg hlocks
theorem rt_l {S : Type} {v : Int64} {rv : Option Value} {post : S → Prop} {w1 : S → List va_W} (hQ : Q = RQ below D cl A args s rv post w1 cells slots) (hx : p.tables.exec = Jvm.exec) (hb : c.code = cc) (hr : meth.sig.returnType = some .long) (hlocks : meth.locks = false) (hW : Wo D cl A s.heap H locs ss) (hdg : decode cc pc = .ok (.lreturn, 1)) (u : S) (hv : rv = some (.long v)) (hp : post u) (hs : ss = w1 u) :
    W p l e R s m args below meth c H locs cells slots Q (F0 m pc ls [.long v]) := by
  subst hQ; subst hs; subst hv
  exact W.lret hx hb hr (fun t ht _ => ⟨⟨u, rfl, hp, by rw [ht]; exact hW.1, hW.2.1⟩, hW.2.2.F ht⟩) hW.2.2.2.2 hdg hlocks
theorem rt_v {S : Type} {rv : Option Value} {post : S → Prop} {w1 : S → List va_W} (hQ : Q = RQ below D cl A args s rv post w1 cells slots) (hx : p.tables.exec = Jvm.exec) (hb : c.code = cc) (hr : meth.sig.returnType = none) (hlocks : meth.locks = false) (hW : Wo D cl A s.heap H locs ss) (hdg : decode cc pc = .ok (.return_, 1)) (u : S) (hv : rv = none) (hp : post u) (hs : ss = w1 u) :
    W p l e R s m args below meth c H locs cells slots Q (F0 m pc ls []) := by
  subst hQ; subst hs; subst hv
  exact W.vret hx hb hr (fun t ht _ => ⟨⟨u, rfl, hp, by rw [ht]; exact hW.1, hW.2.1⟩, hW.2.2.F ht⟩) hW.2.2.2.2 hdg hlocks
/-- fields -/
theorem sg_get (hx : p.tables.exec = Jvm.exec) (hb : c.code = cc) {own C : String} {T : u_T} {N ci index a : Nat} {Ts : List Cond} (hts : ∀ w ∈ Ts, w.before args s = true) (hin : ∀ w ∈ u_ws C T N, w ∈ Ts) (hown : s.vm.findClass own = some m.cls) (hK : va_K D cl tys s) (hW : Wo D cl A H0 H locs ss) (i j : Nat) {seg : va_W} {fs : List Value} (hi : ss[i]? = some seg) (he : seg[j]? = some (a, .inr (ci, fs))) (hc : cl[ci]? = some (C, T, N)) (k : Nat) (hk : k < N) (hlink : (Cond.fieldLink own index (T k).1 (T k).2.1 (T k).2.2.1).before args s = true) {v : Value} (hv : fs[k]? = some v) (hdg : decode cc pc = .ok (.getfield index, 3))
    (kk : W p l e R s m args below meth c H locs cells slots Q (F0 m (pc + 3) ls (v :: rest))) : W p l e R s m args below meth c H locs cells slots Q (F0 m pc ls (.ref a :: rest)) := by
  obtain ⟨q0, h1, -⟩ := sg_at ss i j seg _ hi he
  exact va_get hx hb hts hin hown hK hW.1 q0 h1 hc k hk hlink (fun _ h => h) hv hdg kk
theorem sg_put (hx : p.tables.exec = Jvm.exec) (hb : c.code = cc) {own C : String} {T : u_T} {N ci index a : Nat} {Ts : List Cond} (hts : ∀ w ∈ Ts, w.before args s = true) (hin : ∀ w ∈ u_ws C T N, w ∈ Ts) (ty0 : Nat → FieldType) (hty : ∀ k, k < N → parseFieldDescriptor (T k).2.2.1 = some (ty0 k)) (hnm : ∀ a, a < N → ∀ b, b < N → a ≠ b → (T a).2.1 ≠ (T b).2.1) (hown : s.vm.findClass own = some m.cls) (hK : va_K D cl tys s) (hW : Wo D cl A H0 H locs ss) (i j : Nat) {seg : va_W} {fs : List Value} (hi : ss[i]? = some seg) (he : seg[j]? = some (a, .inr (ci, fs))) (hc : cl[ci]? = some (C, T, N)) (k : Nat) (hk : k < N) (hlink : (Cond.fieldLink own index (T k).1 (T k).2.1 (T k).2.2.1).before args s = true) (hfin : (T k).2.2.2 = false) {v : Value} (hn : narrow (ty0 k) v = v) (hfit : fits (ty0 k) v = true) (hl : k < fs.length) {seg' : va_W} (hs : seg.set j (a, .inr (ci, fs.set k v)) = seg') {ss' : List va_W} (hss : ss.set i seg' = ss')
    (hdg : decode cc pc = .ok (.putfield index, 3)) (kk : ∀ (H1 : Heap) (locs1 : List Loc), Wo D cl A H0 H1 locs1 ss' → W p l e R s m args below meth c H1 locs1 cells slots Q (F0 m (pc + 3) ls rest)) : W p l e R s m args below meth c H locs cells slots Q (F0 m pc ls (v :: .ref a :: rest)) := by
  obtain ⟨q0, h1, h2⟩ := sg_at ss i j seg _ hi he
  subst hss; subst hs
  refine va_put hx hb hts hin ty0 hty hnm hown hK hW.1 hW.2.1 hW.2.2 q0 h1 hc k hk hlink (fun _ h => h) hfin (hty k hk) hn hfit hl hdg (fun H1 locs1 hP hD hS => ?_)
  rw [h2] at hP hD
  exact kk H1 locs1 ⟨hP, hD, hS⟩
/-- rows of ints, of longs -/
theorem sg_ild (hx : p.tables.exec = Jvm.exec) (hb : c.code = cc) (hK : va_K D cl tys s) (hW : Wo D cl A H0 H locs ss) (i j t0 : Nat) {seg : va_W} {a n : Nat} {cA : ClassId} {f : Nat → Int32} (hi : ss[i]? = some seg) (he : seg[j]? = some (a, .inl (cA, n, .inl f))) (ht : tys[t0]? = some (cA, .int)) {x : Nat} {v : Int32} (hxn : x < n) (hn : n < 2 ^ 31) (hv : f x = v) (hdg : decode cc pc = .ok (.iaload, 1))
    (kk : W p l e R s m args below meth c H locs cells slots Q (F0 m (pc + 1) ls (.int v :: rest))) : W p l e R s m args below meth c H locs cells slots Q (F0 m pc ls (.int (nI x) :: .ref a :: rest)) := by
  obtain ⟨q0, h1, -⟩ := sg_at ss i j seg _ hi he
  refine va_iald hx hb hK hW.1 q0 t0 h1 ht (vp_in_nI hxn hn) hdg ?_
  rw [nI_clamp (by omega), hv]
  exact kk
theorem sg_lld (hx : p.tables.exec = Jvm.exec) (hb : c.code = cc) (hK : va_K D cl tys s) (hW : Wo D cl A H0 H locs ss) (i j t0 : Nat) {seg : va_W} {a n : Nat} {cA : ClassId} {f : Nat → Int64} (hi : ss[i]? = some seg) (he : seg[j]? = some (a, .inl (cA, n, .inr (.inl f)))) (ht : tys[t0]? = some (cA, .long)) {x : Nat} {v : Int64} (hxn : x < n) (hn : n < 2 ^ 31) (hv : f x = v) (hdg : decode cc pc = .ok (.laload, 1))
    (kk : W p l e R s m args below meth c H locs cells slots Q (F0 m (pc + 1) ls (.long v :: rest))) : W p l e R s m args below meth c H locs cells slots Q (F0 m pc ls (.int (nI x) :: .ref a :: rest)) := by
  obtain ⟨q0, h1, -⟩ := sg_at ss i j seg _ hi he
  refine va_lald hx hb hK hW.1 q0 t0 h1 ht (vp_in_nI hxn hn) hdg ?_
  rw [nI_clamp (by omega), hv]
  exact kk
theorem sg_ist (hx : p.tables.exec = Jvm.exec) (hb : c.code = cc) (hK : va_K D cl tys s) (hW : Wo D cl A H0 H locs ss) (i j t0 : Nat) {seg : va_W} {a n : Nat} {cA : ClassId} {f : Nat → Int32} (hi : ss[i]? = some seg) (he : seg[j]? = some (a, .inl (cA, n, .inl f))) (ht : tys[t0]? = some (cA, .int)) {x : Nat} {v : Int32} (hxn : x < n) (hn : n < 2 ^ 31) {seg' : va_W} (hs : seg.set j (a, .inl (cA, n, .inl (upd f x v))) = seg') {ss' : List va_W} (hss : ss.set i seg' = ss') (hdg : decode cc pc = .ok (.iastore, 1))
    (kk : ∀ (H1 : Heap) (locs1 : List Loc), Wo D cl A H0 H1 locs1 ss' → W p l e R s m args below meth c H1 locs1 cells slots Q (F0 m (pc + 1) ls rest)) : W p l e R s m args below meth c H locs cells slots Q (F0 m pc ls (.int v :: .int (nI x) :: .ref a :: rest)) := by
  obtain ⟨q0, h1, h2⟩ := sg_at ss i j seg _ hi he
  subst hss; subst hs
  refine va_iast hx hb hK hW.1 hW.2.1 hW.2.2 q0 t0 h1 ht (vp_in_nI hxn hn) hdg (fun H1 locs1 hP hD hS => ?_)
  rw [nI_clamp (by omega), h2] at hP hD
  exact kk H1 locs1 ⟨hP, hD, hS⟩
theorem sg_lst (hx : p.tables.exec = Jvm.exec) (hb : c.code = cc) (hK : va_K D cl tys s) (hW : Wo D cl A H0 H locs ss) (i j t0 : Nat) {seg : va_W} {a n : Nat} {cA : ClassId} {f : Nat → Int64} (hi : ss[i]? = some seg) (he : seg[j]? = some (a, .inl (cA, n, .inr (.inl f)))) (ht : tys[t0]? = some (cA, .long)) {x : Nat} {v : Int64} (hxn : x < n) (hn : n < 2 ^ 31) {seg' : va_W} (hs : seg.set j (a, .inl (cA, n, .inr (.inl (vp_updL f x v)))) = seg') {ss' : List va_W} (hss : ss.set i seg' = ss') (hdg : decode cc pc = .ok (.lastore, 1))
    (kk : ∀ (H1 : Heap) (locs1 : List Loc), Wo D cl A H0 H1 locs1 ss' → W p l e R s m args below meth c H1 locs1 cells slots Q (F0 m (pc + 1) ls rest)) : W p l e R s m args below meth c H locs cells slots Q (F0 m pc ls (.long v :: .int (nI x) :: .ref a :: rest)) := by
  obtain ⟨q0, h1, h2⟩ := sg_at ss i j seg _ hi he
  subst hss; subst hs
  refine va_last hx hb hK hW.1 hW.2.1 hW.2.2 q0 t0 h1 ht (vp_in_nI hxn hn) hdg (fun H1 locs1 hP hD hS => ?_)
  rw [nI_clamp (by omega), h2] at hP hD
  exact kk H1 locs1 ⟨hP, hD, hS⟩
/-- calls -/
theorem sg_call {E' : (Nat → Prop) → State → Heap → Prop} {y : MethodName} {wsy : List Cond} {rm : Room} {av rest st0 : List Value} {wcs : List va_W} {S : Type} {rv : Option Value} {post : S → Prop} {w1 : S → List va_W} {mc ms : Nat} (ss' : S → List va_W)
    (hr : va_Run p l e R s m args below meth c H locs cells slots mc ms (F0 m pc ls st0) rest (fun st oc t => (∃ u : S, oc = .returned rv ∧ post u ∧ va_P D cl (w1 u).flatten t.heap ∧ va_D (va_A wcs.flatten H.size) (w1 u).flatten) ∧ va_F (va_A wcs.flatten H.size) st t) (va_A wcs.flatten H.size))
    (hW : Wo D cl A H0 H locs ss) (hA : ∀ q, H0.size ≤ q → A q) (bs : List Bool) (h1 : sgT bs ss = wcs) (h2 : ∀ u, sgT bs (ss' u) = w1 u) (h3 : ∀ u, sgF bs (ss' u) = sgF bs ss)
    (kk : ∀ (u : S) (H1 : Heap) (locs1 : List Loc), post u → Wo D cl A H0 H1 locs1 (ss' u) → W p l e R s m args below meth c H1 locs1 (cells + mc) (slots + ms) Q (F0 m (pc + 3) ls (rv.toList ++ rest))) : W p l e R s m args below meth c H locs cells slots Q (F0 m pc ls st0) := by
  intro T hT X
  obtain ⟨v, st₀, t, T', L, h0, X', hL, e1, e2, ⟨⟨u, hv, hp, hP1, hD1⟩, hz, hk⟩, st⟩ := hr T hT X
  cases hv
  rw [h0] at hz hk
  have hF := hW.free hA bs h1
  have hk' : ∀ q : Nat, q < H.size → ¬ va_A wcs.flatten H.size q → T'.heap[q]? = H[q]? := fun q g1 g2 => by rw [e1]; exact hk q g1 g2
  have hj := sg_join bs h1 (h2 u) (h3 u) hW.1 hW.2.1 hk' hF (by rw [e1]; exact hP1) hD1
  obtain ⟨t2, a1, b1⟩ := kk u T'.heap (locs ++ L) hp ⟨hj.1, hj.2, ⟨Nat.le_trans hW.2.2.1 (by rw [e1]; exact hz), fun q g1 g2 => by
    rw [hk' q (Nat.lt_of_lt_of_le g1 hW.2.2.1) (fun z => g2 (hF q z))]; exact hW.2.2.2.1 q g1 g2, fun q hq => by
      rcases List.mem_append.mp hq with h | h
      · exact hW.2.2.2.2 q h
      · exact hF _ (hL q h)⟩⟩ T' rfl X'
  exact ⟨t2, st t2 a1, b1⟩
/-- a contract's start, from the caller's world -/
theorem sg_pre {E' : (Nat → Prop) → State → Heap → Prop} {av : List Value} {wcs : List va_W} (hEg : EGood E') (hK : va_K D cl tys s) (hW : Wo D cl A H0 H locs ss) (bs : List Bool) (h1 : sgT bs ss = wcs) (hE : E' (va_A wcs.flatten H.size) s H) :
    FrameBlind (va_Pc av (fun U => U.heap.size = H.size ∧ va_P D cl wcs.flatten U.heap ∧ va_K D cl tys U ∧ va_D (fun _ => True) wcs.flatten ∧ E' (va_A wcs.flatten H.size) U U.heap)) ∧ ∀ U : State, U.heap = H → s.WarmedH U.vm → va_Pc av (fun U => U.heap.size = H.size ∧ va_P D cl wcs.flatten U.heap ∧ va_K D cl tys U ∧ va_D (fun _ => True) wcs.flatten ∧ E' (va_A wcs.flatten H.size) U U.heap) av.toArray U := by
  obtain ⟨hP, hD⟩ := hW.part bs h1
  refine ⟨fun a U g mk q => ?_, fun U hU hWm => ⟨rfl, by rw [hU], by rw [hU]; exact hP, va_K.moved hWm.alike hK, hD.weaken (fun _ _ _ _ => trivial), by rw [hU]; exact hEg.1 _ _ _ _ hWm.alike hE⟩⟩
  obtain ⟨q0, q1, qP, qK, qD, qE⟩ := q
  exact ⟨q0, q1, qP, va_K.moved (u := U) (U := U.calling g mk a) (Vm.Alike.refl U.vm) qK, qD, hEg.1 _ _ _ _ (Vm.Alike.refl U.vm) qE⟩
theorem cl_Vi {E' : (Nat → Prop) → State → Heap → Prop} {y : MethodName} {wsy Ts : List Cond} {rm : Room} {own : String} {b : Nat} {C : String} {index maxL nL n : Nat} {bytes : ByteArray} {ret : Option FieldType} {As rest st0 : List Value} {wcs : List va_W} {S : Type} {r : Int32} {post : S → Prop} {w1 : S → List va_W}
    (B : CallFix p m c cc nL s args Ts own) (hM : CE E' l D cl tys y wsy rm (.ref b :: As) wcs (some (.int r)) post w1 0 0) (cw : CallW R s args own C index y bytes maxL ret wsy rm 0 0 n) (hEg : EGood E') (hK : va_K D cl tys s) (hA : ∀ q, H0.size ≤ q → A q) (hW : Wo D cl A H0 H locs ss) (hE : E' (va_A wcs.flatten H.size) s H) (bs : List Bool) (ss' : S → List va_W) (h1 : sgT bs ss = wcs) (h2 : ∀ u, sgT bs (ss' u) = w1 u) (h3 : ∀ u, sgF bs (ss' u) = sgF bs ss) (i j : Nat) {seg : va_W} {fs : List Value} {ci N : Nat} {T : u_T} (hi : ss[i]? = some seg) (he : seg[j]? = some (b, .inr (ci, fs))) (hc : cl[ci]? = some (C, T, N)) (hn : As.length = n) (hsz : ls.size = nL) (hst : st0 = As.reverse ++ .ref b :: rest) (hrm : 2 * (F0 m pc ls st0).monitorRoom + (rest.map fun v => v.category).sum ≤ 8) (hdg : decode cc pc = .ok (.invokevirtual index, 3)) (hf : cells + 0 ≤ R.cells ∧ slots + 0 ≤ R.slots)
    (kk : ∀ (u : S) (H1 : Heap) (locs1 : List Loc), post u → Wo D cl A H0 H1 locs1 (ss' u) → W p l e R s m args below meth c H1 locs1 cells slots Q (F0 m (pc + 3) ls (.int r :: rest))) : W p l e R s m args below meth c H locs cells slots Q (F0 m pc ls st0) := by
  obtain ⟨q0, g1, -⟩ := sg_at ss i j seg _ hi he
  have hpre := sg_pre (av := .ref b :: As) hEg hK hW bs h1 hE
  refine sg_call (E' := E') (y := y) (wsy := wsy) (rm := rm) (av := .ref b :: As) ss' (va_runV (As := As) (rest := rest) B (hM H.size) cw ⟨hpre.1, va_recv hK hW.1 hc g1, hpre.2⟩ rfl hn hsz hst hrm hdg hf) hW hA bs h1 h2 h3 (fun u H1 locs1 hp hW1 => ?_)
  exact kk u H1 locs1 hp hW1
theorem cl_Vl {E' : (Nat → Prop) → State → Heap → Prop} {y : MethodName} {wsy Ts : List Cond} {rm : Room} {own : String} {b : Nat} {C : String} {index maxL nL n : Nat} {bytes : ByteArray} {ret : Option FieldType} {As rest st0 : List Value} {wcs : List va_W} {S : Type} {r : Int64} {post : S → Prop} {w1 : S → List va_W}
    (B : CallFix p m c cc nL s args Ts own) (hM : CE E' l D cl tys y wsy rm (.ref b :: As) wcs (some (.long r)) post w1 0 0) (cw : CallW R s args own C index y bytes maxL ret wsy rm 0 0 n) (hEg : EGood E') (hK : va_K D cl tys s) (hA : ∀ q, H0.size ≤ q → A q) (hW : Wo D cl A H0 H locs ss) (hE : E' (va_A wcs.flatten H.size) s H) (bs : List Bool) (ss' : S → List va_W) (h1 : sgT bs ss = wcs) (h2 : ∀ u, sgT bs (ss' u) = w1 u) (h3 : ∀ u, sgF bs (ss' u) = sgF bs ss) (i j : Nat) {seg : va_W} {fs : List Value} {ci N : Nat} {T : u_T} (hi : ss[i]? = some seg) (he : seg[j]? = some (b, .inr (ci, fs))) (hc : cl[ci]? = some (C, T, N)) (hn : As.length = n) (hsz : ls.size = nL) (hst : st0 = As.reverse ++ .ref b :: rest) (hrm : 2 * (F0 m pc ls st0).monitorRoom + (rest.map fun v => v.category).sum ≤ 8) (hdg : decode cc pc = .ok (.invokevirtual index, 3)) (hf : cells + 0 ≤ R.cells ∧ slots + 0 ≤ R.slots)
    (kk : ∀ (u : S) (H1 : Heap) (locs1 : List Loc), post u → Wo D cl A H0 H1 locs1 (ss' u) → W p l e R s m args below meth c H1 locs1 cells slots Q (F0 m (pc + 3) ls (.long r :: rest))) : W p l e R s m args below meth c H locs cells slots Q (F0 m pc ls st0) := by
  obtain ⟨q0, g1, -⟩ := sg_at ss i j seg _ hi he
  have hpre := sg_pre (av := .ref b :: As) hEg hK hW bs h1 hE
  refine sg_call (E' := E') (y := y) (wsy := wsy) (rm := rm) (av := .ref b :: As) ss' (va_runV (As := As) (rest := rest) B (hM H.size) cw ⟨hpre.1, va_recv hK hW.1 hc g1, hpre.2⟩ rfl hn hsz hst hrm hdg hf) hW hA bs h1 h2 h3 (fun u H1 locs1 hp hW1 => ?_)
  exact kk u H1 locs1 hp hW1
theorem cl_Vv {E' : (Nat → Prop) → State → Heap → Prop} {y : MethodName} {wsy Ts : List Cond} {rm : Room} {own : String} {b : Nat} {C : String} {index maxL nL n : Nat} {bytes : ByteArray} {ret : Option FieldType} {As rest st0 : List Value} {wcs : List va_W} {S : Type} {post : S → Prop} {w1 : S → List va_W}
    (B : CallFix p m c cc nL s args Ts own) (hM : CE E' l D cl tys y wsy rm (.ref b :: As) wcs none post w1 0 0) (cw : CallW R s args own C index y bytes maxL ret wsy rm 0 0 n) (hEg : EGood E') (hK : va_K D cl tys s) (hA : ∀ q, H0.size ≤ q → A q) (hW : Wo D cl A H0 H locs ss) (hE : E' (va_A wcs.flatten H.size) s H) (bs : List Bool) (ss' : S → List va_W) (h1 : sgT bs ss = wcs) (h2 : ∀ u, sgT bs (ss' u) = w1 u) (h3 : ∀ u, sgF bs (ss' u) = sgF bs ss) (i j : Nat) {seg : va_W} {fs : List Value} {ci N : Nat} {T : u_T} (hi : ss[i]? = some seg) (he : seg[j]? = some (b, .inr (ci, fs))) (hc : cl[ci]? = some (C, T, N)) (hn : As.length = n) (hsz : ls.size = nL) (hst : st0 = As.reverse ++ .ref b :: rest) (hrm : 2 * (F0 m pc ls st0).monitorRoom + (rest.map fun v => v.category).sum ≤ 8) (hdg : decode cc pc = .ok (.invokevirtual index, 3)) (hf : cells + 0 ≤ R.cells ∧ slots + 0 ≤ R.slots)
    (kk : ∀ (u : S) (H1 : Heap) (locs1 : List Loc), post u → Wo D cl A H0 H1 locs1 (ss' u) → W p l e R s m args below meth c H1 locs1 cells slots Q (F0 m (pc + 3) ls (rest))) : W p l e R s m args below meth c H locs cells slots Q (F0 m pc ls st0) := by
  obtain ⟨q0, g1, -⟩ := sg_at ss i j seg _ hi he
  have hpre := sg_pre (av := .ref b :: As) hEg hK hW bs h1 hE
  refine sg_call (E' := E') (y := y) (wsy := wsy) (rm := rm) (av := .ref b :: As) ss' (va_runV (As := As) (rest := rest) B (hM H.size) cw ⟨hpre.1, va_recv hK hW.1 hc g1, hpre.2⟩ rfl hn hsz hst hrm hdg hf) hW hA bs h1 h2 h3 (fun u H1 locs1 hp hW1 => ?_)
  exact kk u H1 locs1 hp hW1
theorem cl_Si {E' : (Nat → Prop) → State → Heap → Prop} {y : MethodName} {wsy Ts : List Cond} {rm : Room} {own : String} {index maxL nL n : Nat} {bytes : ByteArray} {ret : Option FieldType} {As rest st0 : List Value} {wcs : List va_W} {S : Type} {r : Int32} {post : S → Prop} {w1 : S → List va_W}
    (B : CallFix p m c cc nL s args Ts own) (hM : CE E' l D cl tys y wsy rm As wcs (some (.int r)) post w1 0 0) (cw : CallB R s args own index y bytes maxL ret wsy rm 0 0 n ∧ (Cond.static y).before args s = true) (hEg : EGood E') (hK : va_K D cl tys s) (hA : ∀ q, H0.size ≤ q → A q) (hW : Wo D cl A H0 H locs ss) (hE : E' (va_A wcs.flatten H.size) s H) (bs : List Bool) (ss' : S → List va_W) (h1 : sgT bs ss = wcs) (h2 : ∀ u, sgT bs (ss' u) = w1 u) (h3 : ∀ u, sgF bs (ss' u) = sgF bs ss) (hn : As.length = n) (hsz : ls.size = nL) (hst : st0 = As.reverse ++ rest) (hrm : 2 * (F0 m pc ls st0).monitorRoom + (rest.map fun v => v.category).sum ≤ 8) (hdg : decode cc pc = .ok (.invokestatic index, 3)) (hf : cells + 0 ≤ R.cells ∧ slots + 0 ≤ R.slots)
    (kk : ∀ (u : S) (H1 : Heap) (locs1 : List Loc), post u → Wo D cl A H0 H1 locs1 (ss' u) → W p l e R s m args below meth c H1 locs1 cells slots Q (F0 m (pc + 3) ls (.int r :: rest))) : W p l e R s m args below meth c H locs cells slots Q (F0 m pc ls st0) := by
  have hpre := sg_pre (av := As) hEg hK hW bs h1 hE
  refine sg_call (E' := E') (y := y) (wsy := wsy) (rm := rm) (av := As) ss' (va_runS (As := As) (rest := rest) B (hM H.size) cw hpre rfl hn hsz hst hrm hdg hf) hW hA bs h1 h2 h3 (fun u H1 locs1 hp hW1 => ?_)
  exact kk u H1 locs1 hp hW1
theorem cl_Sl {E' : (Nat → Prop) → State → Heap → Prop} {y : MethodName} {wsy Ts : List Cond} {rm : Room} {own : String} {index maxL nL n : Nat} {bytes : ByteArray} {ret : Option FieldType} {As rest st0 : List Value} {wcs : List va_W} {S : Type} {r : Int64} {post : S → Prop} {w1 : S → List va_W}
    (B : CallFix p m c cc nL s args Ts own) (hM : CE E' l D cl tys y wsy rm As wcs (some (.long r)) post w1 0 0) (cw : CallB R s args own index y bytes maxL ret wsy rm 0 0 n ∧ (Cond.static y).before args s = true) (hEg : EGood E') (hK : va_K D cl tys s) (hA : ∀ q, H0.size ≤ q → A q) (hW : Wo D cl A H0 H locs ss) (hE : E' (va_A wcs.flatten H.size) s H) (bs : List Bool) (ss' : S → List va_W) (h1 : sgT bs ss = wcs) (h2 : ∀ u, sgT bs (ss' u) = w1 u) (h3 : ∀ u, sgF bs (ss' u) = sgF bs ss) (hn : As.length = n) (hsz : ls.size = nL) (hst : st0 = As.reverse ++ rest) (hrm : 2 * (F0 m pc ls st0).monitorRoom + (rest.map fun v => v.category).sum ≤ 8) (hdg : decode cc pc = .ok (.invokestatic index, 3)) (hf : cells + 0 ≤ R.cells ∧ slots + 0 ≤ R.slots)
    (kk : ∀ (u : S) (H1 : Heap) (locs1 : List Loc), post u → Wo D cl A H0 H1 locs1 (ss' u) → W p l e R s m args below meth c H1 locs1 cells slots Q (F0 m (pc + 3) ls (.long r :: rest))) : W p l e R s m args below meth c H locs cells slots Q (F0 m pc ls st0) := by
  have hpre := sg_pre (av := As) hEg hK hW bs h1 hE
  refine sg_call (E' := E') (y := y) (wsy := wsy) (rm := rm) (av := As) ss' (va_runS (As := As) (rest := rest) B (hM H.size) cw hpre rfl hn hsz hst hrm hdg hf) hW hA bs h1 h2 h3 (fun u H1 locs1 hp hW1 => ?_)
  exact kk u H1 locs1 hp hW1
theorem cl_Sv {E' : (Nat → Prop) → State → Heap → Prop} {y : MethodName} {wsy Ts : List Cond} {rm : Room} {own : String} {index maxL nL n : Nat} {bytes : ByteArray} {ret : Option FieldType} {As rest st0 : List Value} {wcs : List va_W} {S : Type} {post : S → Prop} {w1 : S → List va_W}
    (B : CallFix p m c cc nL s args Ts own) (hM : CE E' l D cl tys y wsy rm As wcs none post w1 0 0) (cw : CallB R s args own index y bytes maxL ret wsy rm 0 0 n ∧ (Cond.static y).before args s = true) (hEg : EGood E') (hK : va_K D cl tys s) (hA : ∀ q, H0.size ≤ q → A q) (hW : Wo D cl A H0 H locs ss) (hE : E' (va_A wcs.flatten H.size) s H) (bs : List Bool) (ss' : S → List va_W) (h1 : sgT bs ss = wcs) (h2 : ∀ u, sgT bs (ss' u) = w1 u) (h3 : ∀ u, sgF bs (ss' u) = sgF bs ss) (hn : As.length = n) (hsz : ls.size = nL) (hst : st0 = As.reverse ++ rest) (hrm : 2 * (F0 m pc ls st0).monitorRoom + (rest.map fun v => v.category).sum ≤ 8) (hdg : decode cc pc = .ok (.invokestatic index, 3)) (hf : cells + 0 ≤ R.cells ∧ slots + 0 ≤ R.slots)
    (kk : ∀ (u : S) (H1 : Heap) (locs1 : List Loc), post u → Wo D cl A H0 H1 locs1 (ss' u) → W p l e R s m args below meth c H1 locs1 cells slots Q (F0 m (pc + 3) ls (rest))) : W p l e R s m args below meth c H locs cells slots Q (F0 m pc ls st0) := by
  have hpre := sg_pre (av := As) hEg hK hW bs h1 hE
  refine sg_call (E' := E') (y := y) (wsy := wsy) (rm := rm) (av := As) ss' (va_runS (As := As) (rest := rest) B (hM H.size) cw hpre rfl hn hsz hst hrm hdg hf) hW hA bs h1 h2 h3 (fun u H1 locs1 hp hW1 => ?_)
  exact kk u H1 locs1 hp hW1
end FR
/-! ===== numbers that are natural: the machine's rows for them ===== -/
section NN
variable {p : Program} {l : Launch} {e : Env} {R : Room} {s : State} {m : MethodId} {args : Array Value} {below : List Frame} {meth : Method} {c : Code} {H : Heap} {locs : List Loc} {cells slots : Nat} {Q : State → Prop}
variable {cc : ByteArray} {pc : Nat} {ls : Array Slot} {rest : List Value}
theorem W.top {v v' : Value} (h : v = v') (k : W p l e R s m args below meth c H locs cells slots Q (F0 m pc ls (v' :: rest))) : W p l e R s m args below meth c H locs cells slots Q (F0 m pc ls (v :: rest)) := by rw [h]; exact k
theorem nn_add (hx : p.tables.exec = Jvm.exec) (hb : c.code = cc) {a b : Nat} (hdg : decode cc pc = .ok (.iadd, 1)) (k : W p l e R s m args below meth c H locs cells slots Q (F0 m (pc + 1) ls (.int (nI (a + b)) :: rest))) : W p l e R s m args below meth c H locs cells slots Q (F0 m pc ls (.int (nI b) :: .int (nI a) :: rest)) :=
  lv_iadd hx hb hdg (by rw [nI_add]; exact k)
theorem nn_sub (hx : p.tables.exec = Jvm.exec) (hb : c.code = cc) {a b : Nat} (hdg : decode cc pc = .ok (.isub, 1)) (h : b ≤ a) (k : W p l e R s m args below meth c H locs cells slots Q (F0 m (pc + 1) ls (.int (nI (a - b)) :: rest))) : W p l e R s m args below meth c H locs cells slots Q (F0 m pc ls (.int (nI b) :: .int (nI a) :: rest)) :=
  lv_isub hx hb hdg (by rw [pk_sub h]; exact k)
theorem nn_mul (hx : p.tables.exec = Jvm.exec) (hb : c.code = cc) {a b : Nat} (hdg : decode cc pc = .ok (.imul, 1)) (k : W p l e R s m args below meth c H locs cells slots Q (F0 m (pc + 1) ls (.int (nI (a * b)) :: rest))) : W p l e R s m args below meth c H locs cells slots Q (F0 m pc ls (.int (nI b) :: .int (nI a) :: rest)) :=
  lv_imul hx hb hdg (by rw [pk_mul]; exact k)
theorem nn_div (hx : p.tables.exec = Jvm.exec) (hb : c.code = cc) {a b : Nat} (hdg : decode cc pc = .ok (.idiv, 1)) (ha : a < 2 ^ 31) (h0 : 0 < b) (hB : b < 2 ^ 31) (k : W p l e R s m args below meth c H locs cells slots Q (F0 m (pc + 1) ls (.int (nI (a / b)) :: rest))) : W p l e R s m args below meth c H locs cells slots Q (F0 m pc ls (.int (nI b) :: .int (nI a) :: rest)) :=
  lv_idiv hx hb hdg (nI_ne0 h0 hB) (by rw [pk_div ha h0 hB]; exact k)
theorem nn_rem (hx : p.tables.exec = Jvm.exec) (hb : c.code = cc) {a b : Nat} (hdg : decode cc pc = .ok (.irem, 1)) (ha : a < 2 ^ 31) (h0 : 0 < b) (hB : b < 2 ^ 31) (k : W p l e R s m args below meth c H locs cells slots Q (F0 m (pc + 1) ls (.int (nI (a % b)) :: rest))) : W p l e R s m args below meth c H locs cells slots Q (F0 m pc ls (.int (nI b) :: .int (nI a) :: rest)) :=
  lv_irem hx hb hdg (nI_ne0 h0 hB) (by rw [pk_rem ha h0 hB]; exact k)
theorem nn_ceq (hx : p.tables.exec = Jvm.exec) (hb : c.code = cc) {a b : Nat} {off : Int} {tgt : Nat} (hdg : decode cc pc = .ok (.if_icmp .eq off, 3)) (ht : (pc : Int) + off = (tgt : Int)) (ha : a < 2 ^ 31) (hB : b < 2 ^ 31)
    (kt : a = b → W p l e R s m args below meth c H locs cells slots Q (F0 m tgt ls rest)) (kf : ¬ (a = b) → W p l e R s m args below meth c H locs cells slots Q (F0 m (pc + 3) ls rest)) : W p l e R s m args below meth c H locs cells slots Q (F0 m pc ls (.int (nI b) :: .int (nI a) :: rest)) :=
  lv_icmp_eq hx hb hdg ht (fun h => kt ((nI_eq ha hB).mp h)) (fun h => kf (fun q => h ((nI_eq ha hB).mpr q)))
theorem nn_cne (hx : p.tables.exec = Jvm.exec) (hb : c.code = cc) {a b : Nat} {off : Int} {tgt : Nat} (hdg : decode cc pc = .ok (.if_icmp .ne off, 3)) (ht : (pc : Int) + off = (tgt : Int)) (ha : a < 2 ^ 31) (hB : b < 2 ^ 31)
    (kt : ¬ a = b → W p l e R s m args below meth c H locs cells slots Q (F0 m tgt ls rest)) (kf : a = b → W p l e R s m args below meth c H locs cells slots Q (F0 m (pc + 3) ls rest)) : W p l e R s m args below meth c H locs cells slots Q (F0 m pc ls (.int (nI b) :: .int (nI a) :: rest)) :=
  lv_icmp_ne hx hb hdg ht (fun h => kt (fun q => h (congrArg nI q))) (fun h => kf ((nI_eq ha hB).mp h))
theorem nn_clt (hx : p.tables.exec = Jvm.exec) (hb : c.code = cc) {a b : Nat} {off : Int} {tgt : Nat} (hdg : decode cc pc = .ok (.if_icmp .lt off, 3)) (ht : (pc : Int) + off = (tgt : Int)) (ha : a < 2 ^ 31) (hB : b < 2 ^ 31)
    (kt : a < b → W p l e R s m args below meth c H locs cells slots Q (F0 m tgt ls rest)) (kf : ¬ (a < b) → W p l e R s m args below meth c H locs cells slots Q (F0 m (pc + 3) ls rest)) : W p l e R s m args below meth c H locs cells slots Q (F0 m pc ls (.int (nI b) :: .int (nI a) :: rest)) :=
  lv_icmp_lt hx hb hdg ht (fun h => kt ((nI_ltI ha hB).mp h)) (fun h => kf (fun q => h ((nI_ltI ha hB).mpr q)))
theorem nn_cge (hx : p.tables.exec = Jvm.exec) (hb : c.code = cc) {a b : Nat} {off : Int} {tgt : Nat} (hdg : decode cc pc = .ok (.if_icmp .ge off, 3)) (ht : (pc : Int) + off = (tgt : Int)) (ha : a < 2 ^ 31) (hB : b < 2 ^ 31)
    (kt : b ≤ a → W p l e R s m args below meth c H locs cells slots Q (F0 m tgt ls rest)) (kf : ¬ (b ≤ a) → W p l e R s m args below meth c H locs cells slots Q (F0 m (pc + 3) ls rest)) : W p l e R s m args below meth c H locs cells slots Q (F0 m pc ls (.int (nI b) :: .int (nI a) :: rest)) :=
  lv_icmp_ge hx hb hdg ht (fun h => kt ((nI_leI hB ha).mp h)) (fun h => kf (fun q => h ((nI_leI hB ha).mpr q)))
theorem nn_cgt (hx : p.tables.exec = Jvm.exec) (hb : c.code = cc) {a b : Nat} {off : Int} {tgt : Nat} (hdg : decode cc pc = .ok (.if_icmp .gt off, 3)) (ht : (pc : Int) + off = (tgt : Int)) (ha : a < 2 ^ 31) (hB : b < 2 ^ 31)
    (kt : b < a → W p l e R s m args below meth c H locs cells slots Q (F0 m tgt ls rest)) (kf : ¬ (b < a) → W p l e R s m args below meth c H locs cells slots Q (F0 m (pc + 3) ls rest)) : W p l e R s m args below meth c H locs cells slots Q (F0 m pc ls (.int (nI b) :: .int (nI a) :: rest)) :=
  lv_icmp_gt hx hb hdg ht (fun h => kt ((nI_ltI hB ha).mp h)) (fun h => kf (fun q => h ((nI_ltI hB ha).mpr q)))
theorem nn_cle (hx : p.tables.exec = Jvm.exec) (hb : c.code = cc) {a b : Nat} {off : Int} {tgt : Nat} (hdg : decode cc pc = .ok (.if_icmp .le off, 3)) (ht : (pc : Int) + off = (tgt : Int)) (ha : a < 2 ^ 31) (hB : b < 2 ^ 31)
    (kt : a ≤ b → W p l e R s m args below meth c H locs cells slots Q (F0 m tgt ls rest)) (kf : ¬ (a ≤ b) → W p l e R s m args below meth c H locs cells slots Q (F0 m (pc + 3) ls rest)) : W p l e R s m args below meth c H locs cells slots Q (F0 m pc ls (.int (nI b) :: .int (nI a) :: rest)) :=
  lv_icmp_le hx hb hdg ht (fun h => kt ((nI_leI ha hB).mp h)) (fun h => kf (fun q => h ((nI_leI ha hB).mpr q)))
theorem nn_zeq (hx : p.tables.exec = Jvm.exec) (hb : c.code = cc) {a : Nat} {off : Int} {tgt : Nat} (hdg : decode cc pc = .ok (.ifCond .eq off, 3)) (ht : (pc : Int) + off = (tgt : Int)) (ha : a < 2 ^ 31)
    (kt : a = 0 → W p l e R s m args below meth c H locs cells slots Q (F0 m tgt ls rest)) (kf : ¬ (a = 0) → W p l e R s m args below meth c H locs cells slots Q (F0 m (pc + 3) ls rest)) : W p l e R s m args below meth c H locs cells slots Q (F0 m pc ls (.int (nI a) :: rest)) :=
  lv_if_eq hx hb hdg ht (fun h => kt ((nI_eq (b := 0) ha (by decide)).mp h)) (fun h => kf (fun q => h ((nI_eq (b := 0) ha (by decide)).mpr q)))
theorem nn_zne (hx : p.tables.exec = Jvm.exec) (hb : c.code = cc) {a : Nat} {off : Int} {tgt : Nat} (hdg : decode cc pc = .ok (.ifCond .ne off, 3)) (ht : (pc : Int) + off = (tgt : Int)) (ha : a < 2 ^ 31)
    (kt : ¬ a = 0 → W p l e R s m args below meth c H locs cells slots Q (F0 m tgt ls rest)) (kf : a = 0 → W p l e R s m args below meth c H locs cells slots Q (F0 m (pc + 3) ls rest)) : W p l e R s m args below meth c H locs cells slots Q (F0 m pc ls (.int (nI a) :: rest)) :=
  lv_if_ne hx hb hdg ht (fun h => kt (fun q => h (by rw [q]; exact nI_0))) (fun h => kf ((nI_eq (b := 0) ha (by decide)).mp h))
theorem nn_zlt (hx : p.tables.exec = Jvm.exec) (hb : c.code = cc) {a : Nat} {off : Int} {tgt : Nat} (hdg : decode cc pc = .ok (.ifCond .lt off, 3)) (ht : (pc : Int) + off = (tgt : Int)) (ha : a < 2 ^ 31)
    (kt : a < 0 → W p l e R s m args below meth c H locs cells slots Q (F0 m tgt ls rest)) (kf : ¬ (a < 0) → W p l e R s m args below meth c H locs cells slots Q (F0 m (pc + 3) ls rest)) : W p l e R s m args below meth c H locs cells slots Q (F0 m pc ls (.int (nI a) :: rest)) :=
  lv_if_lt hx hb hdg ht (fun h => kt ((nI_ltI (b := 0) ha (by decide)).mp h)) (fun h => kf (fun q => h ((nI_ltI (b := 0) ha (by decide)).mpr q)))
theorem nn_zge (hx : p.tables.exec = Jvm.exec) (hb : c.code = cc) {a : Nat} {off : Int} {tgt : Nat} (hdg : decode cc pc = .ok (.ifCond .ge off, 3)) (ht : (pc : Int) + off = (tgt : Int)) (ha : a < 2 ^ 31)
    (kt : 0 ≤ a → W p l e R s m args below meth c H locs cells slots Q (F0 m tgt ls rest)) (kf : ¬ (0 ≤ a) → W p l e R s m args below meth c H locs cells slots Q (F0 m (pc + 3) ls rest)) : W p l e R s m args below meth c H locs cells slots Q (F0 m pc ls (.int (nI a) :: rest)) :=
  lv_if_ge hx hb hdg ht (fun h => kt ((nI_leI (a := 0) (by decide) ha).mp h)) (fun h => kf (fun q => h ((nI_leI (a := 0) (by decide) ha).mpr q)))
theorem nn_zgt (hx : p.tables.exec = Jvm.exec) (hb : c.code = cc) {a : Nat} {off : Int} {tgt : Nat} (hdg : decode cc pc = .ok (.ifCond .gt off, 3)) (ht : (pc : Int) + off = (tgt : Int)) (ha : a < 2 ^ 31)
    (kt : 0 < a → W p l e R s m args below meth c H locs cells slots Q (F0 m tgt ls rest)) (kf : ¬ (0 < a) → W p l e R s m args below meth c H locs cells slots Q (F0 m (pc + 3) ls rest)) : W p l e R s m args below meth c H locs cells slots Q (F0 m pc ls (.int (nI a) :: rest)) :=
  lv_if_gt hx hb hdg ht (fun h => kt ((nI_ltI (a := 0) (by decide) ha).mp h)) (fun h => kf (fun q => h ((nI_ltI (a := 0) (by decide) ha).mpr q)))
theorem nn_zle (hx : p.tables.exec = Jvm.exec) (hb : c.code = cc) {a : Nat} {off : Int} {tgt : Nat} (hdg : decode cc pc = .ok (.ifCond .le off, 3)) (ht : (pc : Int) + off = (tgt : Int)) (ha : a < 2 ^ 31)
    (kt : a ≤ 0 → W p l e R s m args below meth c H locs cells slots Q (F0 m tgt ls rest)) (kf : ¬ (a ≤ 0) → W p l e R s m args below meth c H locs cells slots Q (F0 m (pc + 3) ls rest)) : W p l e R s m args below meth c H locs cells slots Q (F0 m pc ls (.int (nI a) :: rest)) :=
  lv_if_le hx hb hdg ht (fun h => kt ((nI_leI (b := 0) ha (by decide)).mp h)) (fun h => kf (fun q => h ((nI_leI (b := 0) ha (by decide)).mpr q)))
theorem nx_sh : ∀ n, n < 32 → ((nI n &&& 31).toBitVec.smod 32).toNat = n := by decide +kernel
theorem nx_and2 (a b : Nat) : nI a &&& nI b = nI (a &&& b) := by
  apply Int32.toBitVec.inj
  show BitVec.ofNat 32 a &&& BitVec.ofNat 32 b = BitVec.ofNat 32 (a &&& b)
  exact BitVec.ofNat_and.symm
theorem nx_or2 (a b : Nat) : nI a ||| nI b = nI (a ||| b) := by
  apply Int32.toBitVec.inj
  show BitVec.ofNat 32 a ||| BitVec.ofNat 32 b = BitVec.ofNat 32 (a ||| b)
  exact BitVec.ofNat_or.symm
theorem nx_xor2 (a b : Nat) : nI a ^^^ nI b = nI (a ^^^ b) := by
  apply Int32.toBitVec.inj
  show BitVec.ofNat 32 a ^^^ BitVec.ofNat 32 b = BitVec.ofNat 32 (a ^^^ b)
  exact BitVec.ofNat_xor.symm
theorem nn_and (hx : p.tables.exec = Jvm.exec) (hb : c.code = cc) {a b : Nat} (hdg : decode cc pc = .ok (.iand, 1)) (k : W p l e R s m args below meth c H locs cells slots Q (F0 m (pc + 1) ls (.int (nI (a &&& b)) :: rest))) : W p l e R s m args below meth c H locs cells slots Q (F0 m pc ls (.int (nI b) :: .int (nI a) :: rest)) :=
  lv_iand hx hb hdg (by rw [nx_and2]; exact k)
theorem nn_or (hx : p.tables.exec = Jvm.exec) (hb : c.code = cc) {a b : Nat} (hdg : decode cc pc = .ok (.ior, 1)) (k : W p l e R s m args below meth c H locs cells slots Q (F0 m (pc + 1) ls (.int (nI (a ||| b)) :: rest))) : W p l e R s m args below meth c H locs cells slots Q (F0 m pc ls (.int (nI b) :: .int (nI a) :: rest)) :=
  lv_ior hx hb hdg (by rw [nx_or2]; exact k)
theorem nn_xor (hx : p.tables.exec = Jvm.exec) (hb : c.code = cc) {a b : Nat} (hdg : decode cc pc = .ok (.ixor, 1)) (k : W p l e R s m args below meth c H locs cells slots Q (F0 m (pc + 1) ls (.int (nI (a ^^^ b)) :: rest))) : W p l e R s m args below meth c H locs cells slots Q (F0 m pc ls (.int (nI b) :: .int (nI a) :: rest)) :=
  lv_ixor hx hb hdg (by rw [nx_xor2]; exact k)
theorem nn_shl (hx : p.tables.exec = Jvm.exec) (hb : c.code = cc) {a b : Nat} (hdg : decode cc pc = .ok (.ishl, 1)) (hB : b < 32) (k : W p l e R s m args below meth c H locs cells slots Q (F0 m (pc + 1) ls (.int (nI (a * 2 ^ b)) :: rest))) : W p l e R s m args below meth c H locs cells slots Q (F0 m pc ls (.int (nI b) :: .int (nI a) :: rest)) := by
  refine lv_ishl hx hb hdg ?_
  have e : nI a <<< (nI b &&& 31) = nI (a * 2 ^ b) := by
    apply Int32.toBitVec.inj
    apply BitVec.eq_of_toNat_eq
    rw [pk_shl (nI a) _ b (nx_sh b hB)]
    show (BitVec.ofNat 32 a).toNat * 2 ^ b % 2 ^ 32 = (BitVec.ofNat 32 (a * 2 ^ b)).toNat
    rw [BitVec.toNat_ofNat, BitVec.toNat_ofNat, Nat.mod_mul_mod]
  rw [e]; exact k
theorem nn_shr (hx : p.tables.exec = Jvm.exec) (hb : c.code = cc) {a b : Nat} (hdg : decode cc pc = .ok (.ishr, 1)) (ha : a < 2 ^ 31) (hB : b < 32) (k : W p l e R s m args below meth c H locs cells slots Q (F0 m (pc + 1) ls (.int (nI (a / 2 ^ b)) :: rest))) : W p l e R s m args below meth c H locs cells slots Q (F0 m pc ls (.int (nI b) :: .int (nI a) :: rest)) :=
  lv_ishr hx hb hdg (by rw [pk_shrN ha _ b (nx_sh b hB)]; exact k)
theorem nn_max {a b : Nat} (ha : a < 2 ^ 31) (hB : b < 2 ^ 31) : Value.int (if nI a < nI b then nI b else nI a) = Value.int (nI (max a b)) := by
  congr 1
  by_cases h : a < b
  · rw [if_pos ((nI_ltI ha hB).mpr h), Nat.max_eq_right (Nat.le_of_lt h)]
  · rw [if_neg (fun q => h ((nI_ltI ha hB).mp q)), Nat.max_eq_left (Nat.le_of_not_lt h)]
theorem nn_min {a b : Nat} (ha : a < 2 ^ 31) (hB : b < 2 ^ 31) : Value.int (if nI b < nI a then nI b else nI a) = Value.int (nI (min a b)) := by
  congr 1
  by_cases h : b < a
  · rw [if_pos ((nI_ltI hB ha).mpr h), Nat.min_eq_right (Nat.le_of_lt h)]
  · rw [if_neg (fun q => h ((nI_ltI hB ha).mp q)), Nat.min_eq_left (Nat.le_of_not_lt h)]
theorem zz_lt {x y : Int32} : x < y ↔ x.toInt < y.toInt := Int32.lt_iff_toInt_lt
theorem zz_le {x y : Int32} : x ≤ y ↔ x.toInt ≤ y.toInt := Int32.le_iff_toInt_le
theorem zz_eq {x y : Int32} : x = y ↔ x.toInt = y.toInt := ⟨fun h => by rw [h], fun h => Int32.toInt_inj.mp h⟩
theorem zz_0 : (0 : Int32).toInt = 0 := by decide +kernel
theorem zz_ceq (hx : p.tables.exec = Jvm.exec) (hb : c.code = cc) {x y : Int32} {a b : Int} {off : Int} {tgt : Nat} (hdg : decode cc pc = .ok (.if_icmp .eq off, 3)) (ht : (pc : Int) + off = (tgt : Int)) (ha : x.toInt = a) (hB : y.toInt = b)
    (kt : a = b → W p l e R s m args below meth c H locs cells slots Q (F0 m tgt ls rest)) (kf : ¬ (a = b) → W p l e R s m args below meth c H locs cells slots Q (F0 m (pc + 3) ls rest)) : W p l e R s m args below meth c H locs cells slots Q (F0 m pc ls (.int y :: .int x :: rest)) := by
  subst ha; subst hB
  exact lv_icmp_eq hx hb hdg ht (fun h => kt (zz_eq.mp h)) (fun h => kf (fun q => h (zz_eq.mpr q)))
theorem zz_zeq (hx : p.tables.exec = Jvm.exec) (hb : c.code = cc) {x : Int32} {a : Int} {off : Int} {tgt : Nat} (hdg : decode cc pc = .ok (.ifCond .eq off, 3)) (ht : (pc : Int) + off = (tgt : Int)) (ha : x.toInt = a)
    (kt : a = 0 → W p l e R s m args below meth c H locs cells slots Q (F0 m tgt ls rest)) (kf : ¬ (a = 0) → W p l e R s m args below meth c H locs cells slots Q (F0 m (pc + 3) ls rest)) : W p l e R s m args below meth c H locs cells slots Q (F0 m pc ls (.int x :: rest)) := by
  subst ha
  exact lv_if_eq hx hb hdg ht (fun h => kt (by have := zz_eq.mp h; rw [zz_0] at this; exact this)) (fun h => kf (fun q => h (zz_eq.mpr (by rw [zz_0]; exact q))))
theorem zz_cne (hx : p.tables.exec = Jvm.exec) (hb : c.code = cc) {x y : Int32} {a b : Int} {off : Int} {tgt : Nat} (hdg : decode cc pc = .ok (.if_icmp .ne off, 3)) (ht : (pc : Int) + off = (tgt : Int)) (ha : x.toInt = a) (hB : y.toInt = b)
    (kt : ¬ a = b → W p l e R s m args below meth c H locs cells slots Q (F0 m tgt ls rest)) (kf : a = b → W p l e R s m args below meth c H locs cells slots Q (F0 m (pc + 3) ls rest)) : W p l e R s m args below meth c H locs cells slots Q (F0 m pc ls (.int y :: .int x :: rest)) := by
  subst ha; subst hB
  exact lv_icmp_ne hx hb hdg ht (fun h => kt (fun q => h (zz_eq.mpr q))) (fun h => kf (zz_eq.mp h))
theorem zz_zne (hx : p.tables.exec = Jvm.exec) (hb : c.code = cc) {x : Int32} {a : Int} {off : Int} {tgt : Nat} (hdg : decode cc pc = .ok (.ifCond .ne off, 3)) (ht : (pc : Int) + off = (tgt : Int)) (ha : x.toInt = a)
    (kt : ¬ a = 0 → W p l e R s m args below meth c H locs cells slots Q (F0 m tgt ls rest)) (kf : a = 0 → W p l e R s m args below meth c H locs cells slots Q (F0 m (pc + 3) ls rest)) : W p l e R s m args below meth c H locs cells slots Q (F0 m pc ls (.int x :: rest)) := by
  subst ha
  exact lv_if_ne hx hb hdg ht (fun h => kt (fun q => h (zz_eq.mpr (q.trans zz_0.symm)))) (fun h => kf ((zz_eq.mp h).trans zz_0))
theorem zz_clt (hx : p.tables.exec = Jvm.exec) (hb : c.code = cc) {x y : Int32} {a b : Int} {off : Int} {tgt : Nat} (hdg : decode cc pc = .ok (.if_icmp .lt off, 3)) (ht : (pc : Int) + off = (tgt : Int)) (ha : x.toInt = a) (hB : y.toInt = b)
    (kt : a < b → W p l e R s m args below meth c H locs cells slots Q (F0 m tgt ls rest)) (kf : ¬ (a < b) → W p l e R s m args below meth c H locs cells slots Q (F0 m (pc + 3) ls rest)) : W p l e R s m args below meth c H locs cells slots Q (F0 m pc ls (.int y :: .int x :: rest)) := by
  subst ha; subst hB
  exact lv_icmp_lt hx hb hdg ht (fun h => kt (zz_lt.mp h)) (fun h => kf (fun q => h (zz_lt.mpr q)))
theorem zz_zlt (hx : p.tables.exec = Jvm.exec) (hb : c.code = cc) {x : Int32} {a : Int} {off : Int} {tgt : Nat} (hdg : decode cc pc = .ok (.ifCond .lt off, 3)) (ht : (pc : Int) + off = (tgt : Int)) (ha : x.toInt = a)
    (kt : a < 0 → W p l e R s m args below meth c H locs cells slots Q (F0 m tgt ls rest)) (kf : ¬ (a < 0) → W p l e R s m args below meth c H locs cells slots Q (F0 m (pc + 3) ls rest)) : W p l e R s m args below meth c H locs cells slots Q (F0 m pc ls (.int x :: rest)) := by
  subst ha
  exact lv_if_lt hx hb hdg ht (fun h => kt (by have := zz_lt.mp h; rw [zz_0] at this; exact this)) (fun h => kf (fun q => h (zz_lt.mpr (by rw [zz_0]; exact q))))
theorem zz_cge (hx : p.tables.exec = Jvm.exec) (hb : c.code = cc) {x y : Int32} {a b : Int} {off : Int} {tgt : Nat} (hdg : decode cc pc = .ok (.if_icmp .ge off, 3)) (ht : (pc : Int) + off = (tgt : Int)) (ha : x.toInt = a) (hB : y.toInt = b)
    (kt : b ≤ a → W p l e R s m args below meth c H locs cells slots Q (F0 m tgt ls rest)) (kf : ¬ (b ≤ a) → W p l e R s m args below meth c H locs cells slots Q (F0 m (pc + 3) ls rest)) : W p l e R s m args below meth c H locs cells slots Q (F0 m pc ls (.int y :: .int x :: rest)) := by
  subst ha; subst hB
  exact lv_icmp_ge hx hb hdg ht (fun h => kt (zz_le.mp h)) (fun h => kf (fun q => h (zz_le.mpr q)))
theorem zz_zge (hx : p.tables.exec = Jvm.exec) (hb : c.code = cc) {x : Int32} {a : Int} {off : Int} {tgt : Nat} (hdg : decode cc pc = .ok (.ifCond .ge off, 3)) (ht : (pc : Int) + off = (tgt : Int)) (ha : x.toInt = a)
    (kt : 0 ≤ a → W p l e R s m args below meth c H locs cells slots Q (F0 m tgt ls rest)) (kf : ¬ (0 ≤ a) → W p l e R s m args below meth c H locs cells slots Q (F0 m (pc + 3) ls rest)) : W p l e R s m args below meth c H locs cells slots Q (F0 m pc ls (.int x :: rest)) := by
  subst ha
  exact lv_if_ge hx hb hdg ht (fun h => kt (by have := zz_le.mp h; rw [zz_0] at this; exact this)) (fun h => kf (fun q => h (zz_le.mpr (by rw [zz_0]; exact q))))
theorem zz_cgt (hx : p.tables.exec = Jvm.exec) (hb : c.code = cc) {x y : Int32} {a b : Int} {off : Int} {tgt : Nat} (hdg : decode cc pc = .ok (.if_icmp .gt off, 3)) (ht : (pc : Int) + off = (tgt : Int)) (ha : x.toInt = a) (hB : y.toInt = b)
    (kt : b < a → W p l e R s m args below meth c H locs cells slots Q (F0 m tgt ls rest)) (kf : ¬ (b < a) → W p l e R s m args below meth c H locs cells slots Q (F0 m (pc + 3) ls rest)) : W p l e R s m args below meth c H locs cells slots Q (F0 m pc ls (.int y :: .int x :: rest)) := by
  subst ha; subst hB
  exact lv_icmp_gt hx hb hdg ht (fun h => kt (zz_lt.mp h)) (fun h => kf (fun q => h (zz_lt.mpr q)))
theorem zz_zgt (hx : p.tables.exec = Jvm.exec) (hb : c.code = cc) {x : Int32} {a : Int} {off : Int} {tgt : Nat} (hdg : decode cc pc = .ok (.ifCond .gt off, 3)) (ht : (pc : Int) + off = (tgt : Int)) (ha : x.toInt = a)
    (kt : 0 < a → W p l e R s m args below meth c H locs cells slots Q (F0 m tgt ls rest)) (kf : ¬ (0 < a) → W p l e R s m args below meth c H locs cells slots Q (F0 m (pc + 3) ls rest)) : W p l e R s m args below meth c H locs cells slots Q (F0 m pc ls (.int x :: rest)) := by
  subst ha
  exact lv_if_gt hx hb hdg ht (fun h => kt (by have := zz_lt.mp h; rw [zz_0] at this; exact this)) (fun h => kf (fun q => h (zz_lt.mpr (by rw [zz_0]; exact q))))
theorem zz_cle (hx : p.tables.exec = Jvm.exec) (hb : c.code = cc) {x y : Int32} {a b : Int} {off : Int} {tgt : Nat} (hdg : decode cc pc = .ok (.if_icmp .le off, 3)) (ht : (pc : Int) + off = (tgt : Int)) (ha : x.toInt = a) (hB : y.toInt = b)
    (kt : a ≤ b → W p l e R s m args below meth c H locs cells slots Q (F0 m tgt ls rest)) (kf : ¬ (a ≤ b) → W p l e R s m args below meth c H locs cells slots Q (F0 m (pc + 3) ls rest)) : W p l e R s m args below meth c H locs cells slots Q (F0 m pc ls (.int y :: .int x :: rest)) := by
  subst ha; subst hB
  exact lv_icmp_le hx hb hdg ht (fun h => kt (zz_le.mp h)) (fun h => kf (fun q => h (zz_le.mpr q)))
theorem zz_zle (hx : p.tables.exec = Jvm.exec) (hb : c.code = cc) {x : Int32} {a : Int} {off : Int} {tgt : Nat} (hdg : decode cc pc = .ok (.ifCond .le off, 3)) (ht : (pc : Int) + off = (tgt : Int)) (ha : x.toInt = a)
    (kt : a ≤ 0 → W p l e R s m args below meth c H locs cells slots Q (F0 m tgt ls rest)) (kf : ¬ (a ≤ 0) → W p l e R s m args below meth c H locs cells slots Q (F0 m (pc + 3) ls rest)) : W p l e R s m args below meth c H locs cells slots Q (F0 m pc ls (.int x :: rest)) := by
  subst ha
  exact lv_if_le hx hb hdg ht (fun h => kt (by have := zz_le.mp h; rw [zz_0] at this; exact this)) (fun h => kf (fun q => h (zz_le.mpr (by rw [zz_0]; exact q))))
theorem lc_lt {x y : Int64} : lg_cmp x y < 0 ↔ x.toInt < y.toInt := by
  unfold lg_cmp
  have h1 : y < x ↔ y.toInt < x.toInt := Int64.lt_iff_toInt_lt
  have h2 : x = y ↔ x.toInt = y.toInt := ⟨fun h => by rw [h], fun h => Int64.toInt_inj.mp h⟩
  by_cases a : y < x
  · rw [if_pos a]; exact ⟨fun h => absurd h (by decide), fun h => by have := h1.mp a; omega⟩
  · rw [if_neg a]
    by_cases b : x = y
    · rw [if_pos b]; exact ⟨fun h => absurd h (by decide), fun h => by have := h2.mp b; omega⟩
    · rw [if_neg b]; exact ⟨fun _ => by have := mt h1.mpr a; have := mt h2.mpr b; omega, fun _ => by decide⟩
theorem lc_gt {x y : Int64} : 0 < lg_cmp x y ↔ y.toInt < x.toInt := by
  unfold lg_cmp
  have h1 : y < x ↔ y.toInt < x.toInt := Int64.lt_iff_toInt_lt
  by_cases a : y < x
  · rw [if_pos a]; exact ⟨fun _ => h1.mp a, fun _ => by decide⟩
  · rw [if_neg a]
    by_cases b : x = y
    · rw [if_pos b]; exact ⟨fun h => absurd h (by decide), fun h => absurd (h1.mpr h) a⟩
    · rw [if_neg b]; exact ⟨fun h => absurd h (by decide), fun h => absurd (h1.mpr h) a⟩
theorem lc_eq {x y : Int64} : lg_cmp x y = 0 ↔ x = y := by
  unfold lg_cmp
  by_cases a : y < x
  · rw [if_pos a]; exact ⟨fun h => absurd h (by decide), fun h => by subst h; have := Int64.lt_iff_toInt_lt.mp a; omega⟩
  · rw [if_neg a]
    by_cases b : x = y
    · rw [if_pos b]; exact ⟨fun _ => b, fun _ => rfl⟩
    · rw [if_neg b]; exact ⟨fun h => absurd h (by decide), fun h => absurd h b⟩
theorem lc_zlt (hx : p.tables.exec = Jvm.exec) (hb : c.code = cc) {x y : Int64} {off : Int} {tgt : Nat} (hdg : decode cc pc = .ok (.ifCond .lt off, 3)) (ht : (pc : Int) + off = (tgt : Int))
    (kt : x.toInt < y.toInt → W p l e R s m args below meth c H locs cells slots Q (F0 m tgt ls rest)) (kf : ¬ (x.toInt < y.toInt) → W p l e R s m args below meth c H locs cells slots Q (F0 m (pc + 3) ls rest)) : W p l e R s m args below meth c H locs cells slots Q (F0 m pc ls (.int (lg_cmp x y) :: rest)) :=
  lv_if_lt hx hb hdg ht (fun h => kt (lc_lt.mp h)) (fun h => kf (fun q => h (lc_lt.mpr q)))
theorem lc_zgt (hx : p.tables.exec = Jvm.exec) (hb : c.code = cc) {x y : Int64} {off : Int} {tgt : Nat} (hdg : decode cc pc = .ok (.ifCond .gt off, 3)) (ht : (pc : Int) + off = (tgt : Int))
    (kt : y.toInt < x.toInt → W p l e R s m args below meth c H locs cells slots Q (F0 m tgt ls rest)) (kf : ¬ (y.toInt < x.toInt) → W p l e R s m args below meth c H locs cells slots Q (F0 m (pc + 3) ls rest)) : W p l e R s m args below meth c H locs cells slots Q (F0 m pc ls (.int (lg_cmp x y) :: rest)) :=
  lv_if_gt hx hb hdg ht (fun h => kt (lc_gt.mp h)) (fun h => kf (fun q => h (lc_gt.mpr q)))
theorem lc_zeq (hx : p.tables.exec = Jvm.exec) (hb : c.code = cc) {x y : Int64} {off : Int} {tgt : Nat} (hdg : decode cc pc = .ok (.ifCond .eq off, 3)) (ht : (pc : Int) + off = (tgt : Int))
    (kt : x = y → W p l e R s m args below meth c H locs cells slots Q (F0 m tgt ls rest)) (kf : ¬ (x = y) → W p l e R s m args below meth c H locs cells slots Q (F0 m (pc + 3) ls rest)) : W p l e R s m args below meth c H locs cells slots Q (F0 m pc ls (.int (lg_cmp x y) :: rest)) :=
  lv_if_eq hx hb hdg ht (fun h => kt (lc_eq.mp h)) (fun h => kf (fun q => h (lc_eq.mpr q)))
theorem lc_zne (hx : p.tables.exec = Jvm.exec) (hb : c.code = cc) {x y : Int64} {off : Int} {tgt : Nat} (hdg : decode cc pc = .ok (.ifCond .ne off, 3)) (ht : (pc : Int) + off = (tgt : Int))
    (kt : ¬ x = y → W p l e R s m args below meth c H locs cells slots Q (F0 m tgt ls rest)) (kf : x = y → W p l e R s m args below meth c H locs cells slots Q (F0 m (pc + 3) ls rest)) : W p l e R s m args below meth c H locs cells slots Q (F0 m pc ls (.int (lg_cmp x y) :: rest)) :=
  lv_if_ne hx hb hdg ht (fun h => kt (fun q => h (lc_eq.mpr q))) (fun h => kf (lc_eq.mp h))
theorem nn_tsI (hx : p.tables.exec = Jvm.exec) (hb : c.code = cc) {dflt lo hi : Int} {offs : Array Int} {len k : Nat} {off : Int} {tgt : Nat} (hdg : decode cc pc = .ok (.tableswitch dflt lo hi offs, len)) (hk : k < 2 ^ 31) (j : Nat) (hj : (k : Int) = lo + j) (hh : (k : Int) ≤ hi) (ho : offs[j]? = some off) (ht : (pc : Int) + off = (tgt : Int)) (kk : W p l e R s m args below meth c H locs cells slots Q (F0 m tgt ls rest)) : W p l e R s m args below meth c H locs cells slots Q (F0 m pc ls (.int (nI k) :: rest)) := by
  have e := nI_toInt hk
  refine lv_tableIn hx hb hdg (by rw [e]; omega) (by rw [e]; omega) (off := off) ?_ ht kk
  rw [e, hj, show (lo + (j : Int) - lo).toNat = j by omega]; exact ho
theorem nn_tsO (hx : p.tables.exec = Jvm.exec) (hb : c.code = cc) {dflt lo hi : Int} {offs : Array Int} {len k : Nat} {tgt : Nat} (hdg : decode cc pc = .ok (.tableswitch dflt lo hi offs, len)) (hk : k < 2 ^ 31) (h : (k : Int) < lo ∨ hi < (k : Int)) (ht : (pc : Int) + dflt = (tgt : Int)) (kk : W p l e R s m args below meth c H locs cells slots Q (F0 m tgt ls rest)) : W p l e R s m args below meth c H locs cells slots Q (F0 m pc ls (.int (nI k) :: rest)) :=
  lv_tableOut hx hb hdg (by rw [nI_toInt hk]; exact h) ht kk
theorem zz_tsI (hx : p.tables.exec = Jvm.exec) (hb : c.code = cc) {dflt lo hi : Int} {offs : Array Int} {len : Nat} {x : Int32} {a : Int} {off : Int} {tgt : Nat} (hdg : decode cc pc = .ok (.tableswitch dflt lo hi offs, len)) (ha : x.toInt = a) (j : Nat) (hj : a = lo + j) (hh : a ≤ hi) (ho : offs[j]? = some off) (ht : (pc : Int) + off = (tgt : Int)) (kk : W p l e R s m args below meth c H locs cells slots Q (F0 m tgt ls rest)) : W p l e R s m args below meth c H locs cells slots Q (F0 m pc ls (.int x :: rest)) := by
  refine lv_tableIn hx hb hdg (by rw [ha]; omega) (by rw [ha]; omega) (off := off) ?_ ht kk
  rw [ha, hj, show (lo + (j : Int) - lo).toNat = j by omega]; exact ho
theorem zz_tsO (hx : p.tables.exec = Jvm.exec) (hb : c.code = cc) {dflt lo hi : Int} {offs : Array Int} {len : Nat} {x : Int32} {a : Int} {tgt : Nat} (hdg : decode cc pc = .ok (.tableswitch dflt lo hi offs, len)) (ha : x.toInt = a) (h : a < lo ∨ hi < a) (ht : (pc : Int) + dflt = (tgt : Int)) (kk : W p l e R s m args below meth c H locs cells slots Q (F0 m tgt ls rest)) : W p l e R s m args below meth c H locs cells slots Q (F0 m pc ls (.int x :: rest)) :=
  lv_tableOut hx hb hdg (by rw [ha]; exact h) ht kk
theorem zz_lk (hx : p.tables.exec = Jvm.exec) (hb : c.code = cc) {dflt : Int} {ps : Array (Int × Int)} {len : Nat} {x : Int32} {a : Int} {off : Int} {tgt : Nat} (hdg : decode cc pc = .ok (.lookupswitch dflt ps, len)) (hp : (ps.toList.zip (ps.toList.drop 1)).all (fun (a, next) => a.1 < next.1) = true) (ha : x.toInt = a) (ho : Op.lookupswitch.offset ps.toList dflt a = off) (ht : (pc : Int) + off = (tgt : Int)) (kk : W p l e R s m args below meth c H locs cells slots Q (F0 m tgt ls rest)) : W p l e R s m args below meth c H locs cells slots Q (F0 m pc ls (.int x :: rest)) :=
  lv_lookup hx hb hdg hp (by rw [ha]; exact ho) ht kk
theorem mx_sub {a b : Nat} (ha : a < 2 ^ 30) (hB : b < 2 ^ 30) : (if nI 0 < nI a - nI b then nI a - nI b else nI 0) = nI (a - b) := by
  have e := pk_sub_toInt ha hB
  have e0 : (nI 0).toInt = 0 := by decide +kernel
  by_cases h : b < a
  · rw [if_pos (zz_lt.mpr (by rw [e, e0]; omega)), pk_sub (Nat.le_of_lt h)]
  · rw [if_neg (fun q => by have := zz_lt.mp q; rw [e, e0] at this; omega), show a - b = 0 by omega]
theorem mx_clip {a b k : Nat} (ha : a < 2 ^ 30) (hB : b < 2 ^ 30) (hk : k < 2 ^ 30) (hk0 : 0 < k) : (if nI 0 < (if nI a - nI b < nI k then nI a - nI b else nI k) then (if nI a - nI b < nI k then nI a - nI b else nI k) else nI 0) = nI (min k (a - b)) := by
  have e := pk_sub_toInt ha hB
  have ek : (nI k).toInt = k := nI_toInt (by omega)
  by_cases h : a - b < k
  · have h1 : nI a - nI b < nI k := zz_lt.mpr (by rw [e, ek]; omega)
    rw [if_pos h1, mx_sub ha hB, Nat.min_eq_right (Nat.le_of_lt h)]
  · have h1 : ¬ nI a - nI b < nI k := fun q => by have := zz_lt.mp q; rw [e, ek] at this; omega
    rw [if_neg h1, Nat.min_eq_left (Nat.le_of_not_lt h)]
    have e0 : (nI 0).toInt = 0 := by decide +kernel
    rw [if_pos (zz_lt.mpr (by rw [ek, e0]; omega))]
end NN
end
section
/-! ===== the state: rows of natural numbers; the cells that hold them ===== -/
def up (f : Nat → Nat) (k v : Nat) : Nat → Nat := fun j => if j = k then v else f j
theorem up_eq (f : Nat → Nat) (k v : Nat) : up f k v k = v := if_pos rfl
theorem up_ne {f : Nat → Nat} {k v j : Nat} (h : ¬ j = k) : up f k v j = f j := if_neg h
theorem up_by (f ix : Nat → Nat) (hix : ∀ i j, ix i = ix j → i = j) (k v : Nat) : upd (fun i => nI (f (ix i))) k (nI v) = fun i => nI (up f (ix k) v (ix i)) := by
  funext i
  unfold upd up
  by_cases h : i = k
  · subst h; rw [if_pos rfl, if_pos rfl]
  · rw [if_neg h, if_neg (fun q => h (hix i k q))]
theorem up_row (f : Nat → Nat) (k v : Nat) : upd (fun i => nI (f i)) k (nI v) = fun i => nI (up f k v i) := up_by f (fun i => i) (fun _ _ h => h) k v
/-- a row of ints, a row of longs -/
def aI (cI : ClassId) (x n : Nat) (f : Nat → Nat) : va_W := [(x, .inl (cI, n, .inl (fun k => nI (f k))))]
def aJ (cJ : ClassId) (x n : Nat) (f : Nat → Int64) : va_W := [(x, .inl (cJ, n, .inr (.inl f)))]
theorem aI_set (cI : ClassId) (x n : Nat) (f : Nat → Nat) (k v : Nat) : (aI cI x n f).set 0 (x, .inl (cI, n, .inl (upd (fun k => nI (f k)) k (nI v)))) = aI cI x n (up f k v) := by
  rw [up_row]; rfl
theorem aJ_set (cJ : ClassId) (x n : Nat) (f : Nat → Int64) (k : Nat) (v : Int64) : (aJ cJ x n f).set 0 (x, .inl (cJ, n, .inr (.inl (vp_updL f k v)))) = aJ cJ x n (vp_updL f k v) := rfl
/-- the reference's places: 0 to 6 numbers, 7 + 4 a .. mothers, 39 + 3 c .. children; in a row G: number j at 8 j, of mother a kind 8 a + 1, out + 2, secret + 3, silent + 4, of child c grip 8 c + 5, on + 6, flung + 7 -/
def mk (k : Nat) : Nat := if k < 7 then 8 * k else if k < 39 then 8 * ((k - 7) / 4) + 1 + (k - 7) % 4 else 8 * ((k - 39) / 3) + 5 + (k - 39) % 3
theorem mk_inj (i j : Nat) (h : mk i = mk j) : i = j := by
  unfold mk at h
  repeat' split at h
  all_goals omega
theorem mk_m {a w : Nat} (ha : a < 8) (hw : w < 4) : mk (7 + 4 * a + w) = 8 * a + 1 + w := by
  unfold mk
  rw [if_neg (by omega), if_pos (by omega)]
  omega
theorem mk_c {c w : Nat} (hw : w < 3) : mk (39 + 3 * c + w) = 8 * c + 5 + w := by
  unfold mk
  rw [if_neg (by omega), if_neg (by omega)]
  omega
def mR (cI : ClassId) (x : Nat) (G : Nat → Nat) : va_W := [(x, .inl (cI, 57, .inl (fun k => nI (G (mk k)))))]
theorem mR_set (cI : ClassId) (x : Nat) (G : Nat → Nat) (k v : Nat) : (mR cI x G).set 0 (x, .inl (cI, 57, .inl (upd (fun k => nI (G (mk k))) k (nI v)))) = mR cI x (up G (mk k) v) := by
  rw [up_by G mk mk_inj]; rfl
/-- a Green at the addresses g, its numbers as the row G -/
def gW (cI : ClassId) (g : Nat → Nat) (G : Nat → Nat) : va_W := [(g 0, .inr (0, [.int (nI (G 0)), .int (nI (G 8)), .int (nI (G 16)), .int (nI (G 24)), .int (nI (G 32)), .int (nI (G 40)), .ref (g 1), .ref (g 2), .ref (g 3), .ref (g 4), .int (nI (G 48)), .ref (g 5), .ref (g 6), .ref (g 7)])), (g 1, .inl (cI, 8, .inl (fun i => nI (G (8 * i + 1))))), (g 2, .inl (cI, 8, .inl (fun i => nI (G (8 * i + 2))))), (g 3, .inl (cI, 8, .inl (fun i => nI (G (8 * i + 3))))), (g 4, .inl (cI, 8, .inl (fun i => nI (G (8 * i + 4))))), (g 5, .inl (cI, 6, .inl (fun i => nI (G (8 * i + 5))))), (g 6, .inl (cI, 6, .inl (fun i => nI (G (8 * i + 6))))), (g 7, .inl (cI, 6, .inl (fun i => nI (G (8 * i + 7)))))]
theorem gW_s0 (cI : ClassId) (g : Nat → Nat) (G : Nat → Nat) (v : Nat) : (gW cI g G).set 0 (g 0, .inr (0, [.int (nI (G 0)), .int (nI (G 8)), .int (nI (G 16)), .int (nI (G 24)), .int (nI (G 32)), .int (nI (G 40)), .ref (g 1), .ref (g 2), .ref (g 3), .ref (g 4), .int (nI (G 48)), .ref (g 5), .ref (g 6), .ref (g 7)].set 0 (.int (nI v)))) = gW cI g (up G 0 v) := by
  have e0 : up G 0 v 8 = G 8 := up_ne (by decide)
  have e1 : up G 0 v 16 = G 16 := up_ne (by decide)
  have e2 : up G 0 v 24 = G 24 := up_ne (by decide)
  have e3 : up G 0 v 32 = G 32 := up_ne (by decide)
  have e4 : up G 0 v 40 = G 40 := up_ne (by decide)
  have e5 : up G 0 v 48 = G 48 := up_ne (by decide)
  have e6 : ∀ i : Nat, up G 0 v (8 * i + 1) = G (8 * i + 1) := fun i => up_ne (by omega)
  have e7 : ∀ i : Nat, up G 0 v (8 * i + 2) = G (8 * i + 2) := fun i => up_ne (by omega)
  have e8 : ∀ i : Nat, up G 0 v (8 * i + 3) = G (8 * i + 3) := fun i => up_ne (by omega)
  have e9 : ∀ i : Nat, up G 0 v (8 * i + 4) = G (8 * i + 4) := fun i => up_ne (by omega)
  have e10 : ∀ i : Nat, up G 0 v (8 * i + 5) = G (8 * i + 5) := fun i => up_ne (by omega)
  have e11 : ∀ i : Nat, up G 0 v (8 * i + 6) = G (8 * i + 6) := fun i => up_ne (by omega)
  have e12 : ∀ i : Nat, up G 0 v (8 * i + 7) = G (8 * i + 7) := fun i => up_ne (by omega)
  simp only [gW, up_eq, e0, e1, e2, e3, e4, e5, e6, e7, e8, e9, e10, e11, e12, List.set]
theorem gW_s8 (cI : ClassId) (g : Nat → Nat) (G : Nat → Nat) (v : Nat) : (gW cI g G).set 0 (g 0, .inr (0, [.int (nI (G 0)), .int (nI (G 8)), .int (nI (G 16)), .int (nI (G 24)), .int (nI (G 32)), .int (nI (G 40)), .ref (g 1), .ref (g 2), .ref (g 3), .ref (g 4), .int (nI (G 48)), .ref (g 5), .ref (g 6), .ref (g 7)].set 1 (.int (nI v)))) = gW cI g (up G 8 v) := by
  have e0 : up G 8 v 0 = G 0 := up_ne (by decide)
  have e1 : up G 8 v 16 = G 16 := up_ne (by decide)
  have e2 : up G 8 v 24 = G 24 := up_ne (by decide)
  have e3 : up G 8 v 32 = G 32 := up_ne (by decide)
  have e4 : up G 8 v 40 = G 40 := up_ne (by decide)
  have e5 : up G 8 v 48 = G 48 := up_ne (by decide)
  have e6 : ∀ i : Nat, up G 8 v (8 * i + 1) = G (8 * i + 1) := fun i => up_ne (by omega)
  have e7 : ∀ i : Nat, up G 8 v (8 * i + 2) = G (8 * i + 2) := fun i => up_ne (by omega)
  have e8 : ∀ i : Nat, up G 8 v (8 * i + 3) = G (8 * i + 3) := fun i => up_ne (by omega)
  have e9 : ∀ i : Nat, up G 8 v (8 * i + 4) = G (8 * i + 4) := fun i => up_ne (by omega)
  have e10 : ∀ i : Nat, up G 8 v (8 * i + 5) = G (8 * i + 5) := fun i => up_ne (by omega)
  have e11 : ∀ i : Nat, up G 8 v (8 * i + 6) = G (8 * i + 6) := fun i => up_ne (by omega)
  have e12 : ∀ i : Nat, up G 8 v (8 * i + 7) = G (8 * i + 7) := fun i => up_ne (by omega)
  simp only [gW, up_eq, e0, e1, e2, e3, e4, e5, e6, e7, e8, e9, e10, e11, e12, List.set]
theorem gW_s16 (cI : ClassId) (g : Nat → Nat) (G : Nat → Nat) (v : Nat) : (gW cI g G).set 0 (g 0, .inr (0, [.int (nI (G 0)), .int (nI (G 8)), .int (nI (G 16)), .int (nI (G 24)), .int (nI (G 32)), .int (nI (G 40)), .ref (g 1), .ref (g 2), .ref (g 3), .ref (g 4), .int (nI (G 48)), .ref (g 5), .ref (g 6), .ref (g 7)].set 2 (.int (nI v)))) = gW cI g (up G 16 v) := by
  have e0 : up G 16 v 0 = G 0 := up_ne (by decide)
  have e1 : up G 16 v 8 = G 8 := up_ne (by decide)
  have e2 : up G 16 v 24 = G 24 := up_ne (by decide)
  have e3 : up G 16 v 32 = G 32 := up_ne (by decide)
  have e4 : up G 16 v 40 = G 40 := up_ne (by decide)
  have e5 : up G 16 v 48 = G 48 := up_ne (by decide)
  have e6 : ∀ i : Nat, up G 16 v (8 * i + 1) = G (8 * i + 1) := fun i => up_ne (by omega)
  have e7 : ∀ i : Nat, up G 16 v (8 * i + 2) = G (8 * i + 2) := fun i => up_ne (by omega)
  have e8 : ∀ i : Nat, up G 16 v (8 * i + 3) = G (8 * i + 3) := fun i => up_ne (by omega)
  have e9 : ∀ i : Nat, up G 16 v (8 * i + 4) = G (8 * i + 4) := fun i => up_ne (by omega)
  have e10 : ∀ i : Nat, up G 16 v (8 * i + 5) = G (8 * i + 5) := fun i => up_ne (by omega)
  have e11 : ∀ i : Nat, up G 16 v (8 * i + 6) = G (8 * i + 6) := fun i => up_ne (by omega)
  have e12 : ∀ i : Nat, up G 16 v (8 * i + 7) = G (8 * i + 7) := fun i => up_ne (by omega)
  simp only [gW, up_eq, e0, e1, e2, e3, e4, e5, e6, e7, e8, e9, e10, e11, e12, List.set]
theorem gW_s24 (cI : ClassId) (g : Nat → Nat) (G : Nat → Nat) (v : Nat) : (gW cI g G).set 0 (g 0, .inr (0, [.int (nI (G 0)), .int (nI (G 8)), .int (nI (G 16)), .int (nI (G 24)), .int (nI (G 32)), .int (nI (G 40)), .ref (g 1), .ref (g 2), .ref (g 3), .ref (g 4), .int (nI (G 48)), .ref (g 5), .ref (g 6), .ref (g 7)].set 3 (.int (nI v)))) = gW cI g (up G 24 v) := by
  have e0 : up G 24 v 0 = G 0 := up_ne (by decide)
  have e1 : up G 24 v 8 = G 8 := up_ne (by decide)
  have e2 : up G 24 v 16 = G 16 := up_ne (by decide)
  have e3 : up G 24 v 32 = G 32 := up_ne (by decide)
  have e4 : up G 24 v 40 = G 40 := up_ne (by decide)
  have e5 : up G 24 v 48 = G 48 := up_ne (by decide)
  have e6 : ∀ i : Nat, up G 24 v (8 * i + 1) = G (8 * i + 1) := fun i => up_ne (by omega)
  have e7 : ∀ i : Nat, up G 24 v (8 * i + 2) = G (8 * i + 2) := fun i => up_ne (by omega)
  have e8 : ∀ i : Nat, up G 24 v (8 * i + 3) = G (8 * i + 3) := fun i => up_ne (by omega)
  have e9 : ∀ i : Nat, up G 24 v (8 * i + 4) = G (8 * i + 4) := fun i => up_ne (by omega)
  have e10 : ∀ i : Nat, up G 24 v (8 * i + 5) = G (8 * i + 5) := fun i => up_ne (by omega)
  have e11 : ∀ i : Nat, up G 24 v (8 * i + 6) = G (8 * i + 6) := fun i => up_ne (by omega)
  have e12 : ∀ i : Nat, up G 24 v (8 * i + 7) = G (8 * i + 7) := fun i => up_ne (by omega)
  simp only [gW, up_eq, e0, e1, e2, e3, e4, e5, e6, e7, e8, e9, e10, e11, e12, List.set]
theorem gW_s32 (cI : ClassId) (g : Nat → Nat) (G : Nat → Nat) (v : Nat) : (gW cI g G).set 0 (g 0, .inr (0, [.int (nI (G 0)), .int (nI (G 8)), .int (nI (G 16)), .int (nI (G 24)), .int (nI (G 32)), .int (nI (G 40)), .ref (g 1), .ref (g 2), .ref (g 3), .ref (g 4), .int (nI (G 48)), .ref (g 5), .ref (g 6), .ref (g 7)].set 4 (.int (nI v)))) = gW cI g (up G 32 v) := by
  have e0 : up G 32 v 0 = G 0 := up_ne (by decide)
  have e1 : up G 32 v 8 = G 8 := up_ne (by decide)
  have e2 : up G 32 v 16 = G 16 := up_ne (by decide)
  have e3 : up G 32 v 24 = G 24 := up_ne (by decide)
  have e4 : up G 32 v 40 = G 40 := up_ne (by decide)
  have e5 : up G 32 v 48 = G 48 := up_ne (by decide)
  have e6 : ∀ i : Nat, up G 32 v (8 * i + 1) = G (8 * i + 1) := fun i => up_ne (by omega)
  have e7 : ∀ i : Nat, up G 32 v (8 * i + 2) = G (8 * i + 2) := fun i => up_ne (by omega)
  have e8 : ∀ i : Nat, up G 32 v (8 * i + 3) = G (8 * i + 3) := fun i => up_ne (by omega)
  have e9 : ∀ i : Nat, up G 32 v (8 * i + 4) = G (8 * i + 4) := fun i => up_ne (by omega)
  have e10 : ∀ i : Nat, up G 32 v (8 * i + 5) = G (8 * i + 5) := fun i => up_ne (by omega)
  have e11 : ∀ i : Nat, up G 32 v (8 * i + 6) = G (8 * i + 6) := fun i => up_ne (by omega)
  have e12 : ∀ i : Nat, up G 32 v (8 * i + 7) = G (8 * i + 7) := fun i => up_ne (by omega)
  simp only [gW, up_eq, e0, e1, e2, e3, e4, e5, e6, e7, e8, e9, e10, e11, e12, List.set]
theorem gW_s40 (cI : ClassId) (g : Nat → Nat) (G : Nat → Nat) (v : Nat) : (gW cI g G).set 0 (g 0, .inr (0, [.int (nI (G 0)), .int (nI (G 8)), .int (nI (G 16)), .int (nI (G 24)), .int (nI (G 32)), .int (nI (G 40)), .ref (g 1), .ref (g 2), .ref (g 3), .ref (g 4), .int (nI (G 48)), .ref (g 5), .ref (g 6), .ref (g 7)].set 5 (.int (nI v)))) = gW cI g (up G 40 v) := by
  have e0 : up G 40 v 0 = G 0 := up_ne (by decide)
  have e1 : up G 40 v 8 = G 8 := up_ne (by decide)
  have e2 : up G 40 v 16 = G 16 := up_ne (by decide)
  have e3 : up G 40 v 24 = G 24 := up_ne (by decide)
  have e4 : up G 40 v 32 = G 32 := up_ne (by decide)
  have e5 : up G 40 v 48 = G 48 := up_ne (by decide)
  have e6 : ∀ i : Nat, up G 40 v (8 * i + 1) = G (8 * i + 1) := fun i => up_ne (by omega)
  have e7 : ∀ i : Nat, up G 40 v (8 * i + 2) = G (8 * i + 2) := fun i => up_ne (by omega)
  have e8 : ∀ i : Nat, up G 40 v (8 * i + 3) = G (8 * i + 3) := fun i => up_ne (by omega)
  have e9 : ∀ i : Nat, up G 40 v (8 * i + 4) = G (8 * i + 4) := fun i => up_ne (by omega)
  have e10 : ∀ i : Nat, up G 40 v (8 * i + 5) = G (8 * i + 5) := fun i => up_ne (by omega)
  have e11 : ∀ i : Nat, up G 40 v (8 * i + 6) = G (8 * i + 6) := fun i => up_ne (by omega)
  have e12 : ∀ i : Nat, up G 40 v (8 * i + 7) = G (8 * i + 7) := fun i => up_ne (by omega)
  simp only [gW, up_eq, e0, e1, e2, e3, e4, e5, e6, e7, e8, e9, e10, e11, e12, List.set]
theorem gW_s48 (cI : ClassId) (g : Nat → Nat) (G : Nat → Nat) (v : Nat) : (gW cI g G).set 0 (g 0, .inr (0, [.int (nI (G 0)), .int (nI (G 8)), .int (nI (G 16)), .int (nI (G 24)), .int (nI (G 32)), .int (nI (G 40)), .ref (g 1), .ref (g 2), .ref (g 3), .ref (g 4), .int (nI (G 48)), .ref (g 5), .ref (g 6), .ref (g 7)].set 10 (.int (nI v)))) = gW cI g (up G 48 v) := by
  have e0 : up G 48 v 0 = G 0 := up_ne (by decide)
  have e1 : up G 48 v 8 = G 8 := up_ne (by decide)
  have e2 : up G 48 v 16 = G 16 := up_ne (by decide)
  have e3 : up G 48 v 24 = G 24 := up_ne (by decide)
  have e4 : up G 48 v 32 = G 32 := up_ne (by decide)
  have e5 : up G 48 v 40 = G 40 := up_ne (by decide)
  have e6 : ∀ i : Nat, up G 48 v (8 * i + 1) = G (8 * i + 1) := fun i => up_ne (by omega)
  have e7 : ∀ i : Nat, up G 48 v (8 * i + 2) = G (8 * i + 2) := fun i => up_ne (by omega)
  have e8 : ∀ i : Nat, up G 48 v (8 * i + 3) = G (8 * i + 3) := fun i => up_ne (by omega)
  have e9 : ∀ i : Nat, up G 48 v (8 * i + 4) = G (8 * i + 4) := fun i => up_ne (by omega)
  have e10 : ∀ i : Nat, up G 48 v (8 * i + 5) = G (8 * i + 5) := fun i => up_ne (by omega)
  have e11 : ∀ i : Nat, up G 48 v (8 * i + 6) = G (8 * i + 6) := fun i => up_ne (by omega)
  have e12 : ∀ i : Nat, up G 48 v (8 * i + 7) = G (8 * i + 7) := fun i => up_ne (by omega)
  simp only [gW, up_eq, e0, e1, e2, e3, e4, e5, e6, e7, e8, e9, e10, e11, e12, List.set]
theorem gW_r1 (cI : ClassId) (g : Nat → Nat) (G : Nat → Nat) (x v : Nat) : (gW cI g G).set 1 (g 1, .inl (cI, 8, .inl (upd (fun i => nI (G (8 * i + 1))) x (nI v)))) = gW cI g (up G (8 * x + 1) v) := by
  have e0 : up G (8 * x + 1) v 0 = G 0 := up_ne (by omega)
  have e1 : up G (8 * x + 1) v 8 = G 8 := up_ne (by omega)
  have e2 : up G (8 * x + 1) v 16 = G 16 := up_ne (by omega)
  have e3 : up G (8 * x + 1) v 24 = G 24 := up_ne (by omega)
  have e4 : up G (8 * x + 1) v 32 = G 32 := up_ne (by omega)
  have e5 : up G (8 * x + 1) v 40 = G 40 := up_ne (by omega)
  have e6 : up G (8 * x + 1) v 48 = G 48 := up_ne (by omega)
  have e7 : ∀ i : Nat, up G (8 * x + 1) v (8 * i + 2) = G (8 * i + 2) := fun i => up_ne (by omega)
  have e8 : ∀ i : Nat, up G (8 * x + 1) v (8 * i + 3) = G (8 * i + 3) := fun i => up_ne (by omega)
  have e9 : ∀ i : Nat, up G (8 * x + 1) v (8 * i + 4) = G (8 * i + 4) := fun i => up_ne (by omega)
  have e10 : ∀ i : Nat, up G (8 * x + 1) v (8 * i + 5) = G (8 * i + 5) := fun i => up_ne (by omega)
  have e11 : ∀ i : Nat, up G (8 * x + 1) v (8 * i + 6) = G (8 * i + 6) := fun i => up_ne (by omega)
  have e12 : ∀ i : Nat, up G (8 * x + 1) v (8 * i + 7) = G (8 * i + 7) := fun i => up_ne (by omega)
  rw [up_by G (fun i => 8 * i + 1) (fun i j h => by omega) x v]
  simp only [gW, e0, e1, e2, e3, e4, e5, e6, e7, e8, e9, e10, e11, e12, List.set]
theorem gW_r2 (cI : ClassId) (g : Nat → Nat) (G : Nat → Nat) (x v : Nat) : (gW cI g G).set 2 (g 2, .inl (cI, 8, .inl (upd (fun i => nI (G (8 * i + 2))) x (nI v)))) = gW cI g (up G (8 * x + 2) v) := by
  have e0 : up G (8 * x + 2) v 0 = G 0 := up_ne (by omega)
  have e1 : up G (8 * x + 2) v 8 = G 8 := up_ne (by omega)
  have e2 : up G (8 * x + 2) v 16 = G 16 := up_ne (by omega)
  have e3 : up G (8 * x + 2) v 24 = G 24 := up_ne (by omega)
  have e4 : up G (8 * x + 2) v 32 = G 32 := up_ne (by omega)
  have e5 : up G (8 * x + 2) v 40 = G 40 := up_ne (by omega)
  have e6 : up G (8 * x + 2) v 48 = G 48 := up_ne (by omega)
  have e7 : ∀ i : Nat, up G (8 * x + 2) v (8 * i + 1) = G (8 * i + 1) := fun i => up_ne (by omega)
  have e8 : ∀ i : Nat, up G (8 * x + 2) v (8 * i + 3) = G (8 * i + 3) := fun i => up_ne (by omega)
  have e9 : ∀ i : Nat, up G (8 * x + 2) v (8 * i + 4) = G (8 * i + 4) := fun i => up_ne (by omega)
  have e10 : ∀ i : Nat, up G (8 * x + 2) v (8 * i + 5) = G (8 * i + 5) := fun i => up_ne (by omega)
  have e11 : ∀ i : Nat, up G (8 * x + 2) v (8 * i + 6) = G (8 * i + 6) := fun i => up_ne (by omega)
  have e12 : ∀ i : Nat, up G (8 * x + 2) v (8 * i + 7) = G (8 * i + 7) := fun i => up_ne (by omega)
  rw [up_by G (fun i => 8 * i + 2) (fun i j h => by omega) x v]
  simp only [gW, e0, e1, e2, e3, e4, e5, e6, e7, e8, e9, e10, e11, e12, List.set]
theorem gW_r3 (cI : ClassId) (g : Nat → Nat) (G : Nat → Nat) (x v : Nat) : (gW cI g G).set 3 (g 3, .inl (cI, 8, .inl (upd (fun i => nI (G (8 * i + 3))) x (nI v)))) = gW cI g (up G (8 * x + 3) v) := by
  have e0 : up G (8 * x + 3) v 0 = G 0 := up_ne (by omega)
  have e1 : up G (8 * x + 3) v 8 = G 8 := up_ne (by omega)
  have e2 : up G (8 * x + 3) v 16 = G 16 := up_ne (by omega)
  have e3 : up G (8 * x + 3) v 24 = G 24 := up_ne (by omega)
  have e4 : up G (8 * x + 3) v 32 = G 32 := up_ne (by omega)
  have e5 : up G (8 * x + 3) v 40 = G 40 := up_ne (by omega)
  have e6 : up G (8 * x + 3) v 48 = G 48 := up_ne (by omega)
  have e7 : ∀ i : Nat, up G (8 * x + 3) v (8 * i + 1) = G (8 * i + 1) := fun i => up_ne (by omega)
  have e8 : ∀ i : Nat, up G (8 * x + 3) v (8 * i + 2) = G (8 * i + 2) := fun i => up_ne (by omega)
  have e9 : ∀ i : Nat, up G (8 * x + 3) v (8 * i + 4) = G (8 * i + 4) := fun i => up_ne (by omega)
  have e10 : ∀ i : Nat, up G (8 * x + 3) v (8 * i + 5) = G (8 * i + 5) := fun i => up_ne (by omega)
  have e11 : ∀ i : Nat, up G (8 * x + 3) v (8 * i + 6) = G (8 * i + 6) := fun i => up_ne (by omega)
  have e12 : ∀ i : Nat, up G (8 * x + 3) v (8 * i + 7) = G (8 * i + 7) := fun i => up_ne (by omega)
  rw [up_by G (fun i => 8 * i + 3) (fun i j h => by omega) x v]
  simp only [gW, e0, e1, e2, e3, e4, e5, e6, e7, e8, e9, e10, e11, e12, List.set]
theorem gW_r4 (cI : ClassId) (g : Nat → Nat) (G : Nat → Nat) (x v : Nat) : (gW cI g G).set 4 (g 4, .inl (cI, 8, .inl (upd (fun i => nI (G (8 * i + 4))) x (nI v)))) = gW cI g (up G (8 * x + 4) v) := by
  have e0 : up G (8 * x + 4) v 0 = G 0 := up_ne (by omega)
  have e1 : up G (8 * x + 4) v 8 = G 8 := up_ne (by omega)
  have e2 : up G (8 * x + 4) v 16 = G 16 := up_ne (by omega)
  have e3 : up G (8 * x + 4) v 24 = G 24 := up_ne (by omega)
  have e4 : up G (8 * x + 4) v 32 = G 32 := up_ne (by omega)
  have e5 : up G (8 * x + 4) v 40 = G 40 := up_ne (by omega)
  have e6 : up G (8 * x + 4) v 48 = G 48 := up_ne (by omega)
  have e7 : ∀ i : Nat, up G (8 * x + 4) v (8 * i + 1) = G (8 * i + 1) := fun i => up_ne (by omega)
  have e8 : ∀ i : Nat, up G (8 * x + 4) v (8 * i + 2) = G (8 * i + 2) := fun i => up_ne (by omega)
  have e9 : ∀ i : Nat, up G (8 * x + 4) v (8 * i + 3) = G (8 * i + 3) := fun i => up_ne (by omega)
  have e10 : ∀ i : Nat, up G (8 * x + 4) v (8 * i + 5) = G (8 * i + 5) := fun i => up_ne (by omega)
  have e11 : ∀ i : Nat, up G (8 * x + 4) v (8 * i + 6) = G (8 * i + 6) := fun i => up_ne (by omega)
  have e12 : ∀ i : Nat, up G (8 * x + 4) v (8 * i + 7) = G (8 * i + 7) := fun i => up_ne (by omega)
  rw [up_by G (fun i => 8 * i + 4) (fun i j h => by omega) x v]
  simp only [gW, e0, e1, e2, e3, e4, e5, e6, e7, e8, e9, e10, e11, e12, List.set]
theorem gW_r5 (cI : ClassId) (g : Nat → Nat) (G : Nat → Nat) (x v : Nat) : (gW cI g G).set 5 (g 5, .inl (cI, 6, .inl (upd (fun i => nI (G (8 * i + 5))) x (nI v)))) = gW cI g (up G (8 * x + 5) v) := by
  have e0 : up G (8 * x + 5) v 0 = G 0 := up_ne (by omega)
  have e1 : up G (8 * x + 5) v 8 = G 8 := up_ne (by omega)
  have e2 : up G (8 * x + 5) v 16 = G 16 := up_ne (by omega)
  have e3 : up G (8 * x + 5) v 24 = G 24 := up_ne (by omega)
  have e4 : up G (8 * x + 5) v 32 = G 32 := up_ne (by omega)
  have e5 : up G (8 * x + 5) v 40 = G 40 := up_ne (by omega)
  have e6 : up G (8 * x + 5) v 48 = G 48 := up_ne (by omega)
  have e7 : ∀ i : Nat, up G (8 * x + 5) v (8 * i + 1) = G (8 * i + 1) := fun i => up_ne (by omega)
  have e8 : ∀ i : Nat, up G (8 * x + 5) v (8 * i + 2) = G (8 * i + 2) := fun i => up_ne (by omega)
  have e9 : ∀ i : Nat, up G (8 * x + 5) v (8 * i + 3) = G (8 * i + 3) := fun i => up_ne (by omega)
  have e10 : ∀ i : Nat, up G (8 * x + 5) v (8 * i + 4) = G (8 * i + 4) := fun i => up_ne (by omega)
  have e11 : ∀ i : Nat, up G (8 * x + 5) v (8 * i + 6) = G (8 * i + 6) := fun i => up_ne (by omega)
  have e12 : ∀ i : Nat, up G (8 * x + 5) v (8 * i + 7) = G (8 * i + 7) := fun i => up_ne (by omega)
  rw [up_by G (fun i => 8 * i + 5) (fun i j h => by omega) x v]
  simp only [gW, e0, e1, e2, e3, e4, e5, e6, e7, e8, e9, e10, e11, e12, List.set]
theorem gW_r6 (cI : ClassId) (g : Nat → Nat) (G : Nat → Nat) (x v : Nat) : (gW cI g G).set 6 (g 6, .inl (cI, 6, .inl (upd (fun i => nI (G (8 * i + 6))) x (nI v)))) = gW cI g (up G (8 * x + 6) v) := by
  have e0 : up G (8 * x + 6) v 0 = G 0 := up_ne (by omega)
  have e1 : up G (8 * x + 6) v 8 = G 8 := up_ne (by omega)
  have e2 : up G (8 * x + 6) v 16 = G 16 := up_ne (by omega)
  have e3 : up G (8 * x + 6) v 24 = G 24 := up_ne (by omega)
  have e4 : up G (8 * x + 6) v 32 = G 32 := up_ne (by omega)
  have e5 : up G (8 * x + 6) v 40 = G 40 := up_ne (by omega)
  have e6 : up G (8 * x + 6) v 48 = G 48 := up_ne (by omega)
  have e7 : ∀ i : Nat, up G (8 * x + 6) v (8 * i + 1) = G (8 * i + 1) := fun i => up_ne (by omega)
  have e8 : ∀ i : Nat, up G (8 * x + 6) v (8 * i + 2) = G (8 * i + 2) := fun i => up_ne (by omega)
  have e9 : ∀ i : Nat, up G (8 * x + 6) v (8 * i + 3) = G (8 * i + 3) := fun i => up_ne (by omega)
  have e10 : ∀ i : Nat, up G (8 * x + 6) v (8 * i + 4) = G (8 * i + 4) := fun i => up_ne (by omega)
  have e11 : ∀ i : Nat, up G (8 * x + 6) v (8 * i + 5) = G (8 * i + 5) := fun i => up_ne (by omega)
  have e12 : ∀ i : Nat, up G (8 * x + 6) v (8 * i + 7) = G (8 * i + 7) := fun i => up_ne (by omega)
  rw [up_by G (fun i => 8 * i + 6) (fun i j h => by omega) x v]
  simp only [gW, e0, e1, e2, e3, e4, e5, e6, e7, e8, e9, e10, e11, e12, List.set]
theorem gW_r7 (cI : ClassId) (g : Nat → Nat) (G : Nat → Nat) (x v : Nat) : (gW cI g G).set 7 (g 7, .inl (cI, 6, .inl (upd (fun i => nI (G (8 * i + 7))) x (nI v)))) = gW cI g (up G (8 * x + 7) v) := by
  have e0 : up G (8 * x + 7) v 0 = G 0 := up_ne (by omega)
  have e1 : up G (8 * x + 7) v 8 = G 8 := up_ne (by omega)
  have e2 : up G (8 * x + 7) v 16 = G 16 := up_ne (by omega)
  have e3 : up G (8 * x + 7) v 24 = G 24 := up_ne (by omega)
  have e4 : up G (8 * x + 7) v 32 = G 32 := up_ne (by omega)
  have e5 : up G (8 * x + 7) v 40 = G 40 := up_ne (by omega)
  have e6 : up G (8 * x + 7) v 48 = G 48 := up_ne (by omega)
  have e7 : ∀ i : Nat, up G (8 * x + 7) v (8 * i + 1) = G (8 * i + 1) := fun i => up_ne (by omega)
  have e8 : ∀ i : Nat, up G (8 * x + 7) v (8 * i + 2) = G (8 * i + 2) := fun i => up_ne (by omega)
  have e9 : ∀ i : Nat, up G (8 * x + 7) v (8 * i + 3) = G (8 * i + 3) := fun i => up_ne (by omega)
  have e10 : ∀ i : Nat, up G (8 * x + 7) v (8 * i + 4) = G (8 * i + 4) := fun i => up_ne (by omega)
  have e11 : ∀ i : Nat, up G (8 * x + 7) v (8 * i + 5) = G (8 * i + 5) := fun i => up_ne (by omega)
  have e12 : ∀ i : Nat, up G (8 * x + 7) v (8 * i + 6) = G (8 * i + 6) := fun i => up_ne (by omega)
  rw [up_by G (fun i => 8 * i + 7) (fun i j h => by omega) x v]
  simp only [gW, e0, e1, e2, e3, e4, e5, e6, e7, e8, e9, e10, e11, e12, List.set]
/-- the reference's own cell: R: 0 isKept, 1 taped, 2 token, 3 begin, 4 at, 5 value, 6 bad -/
def mH (mo : Nat → Nat) (R : Nat → Nat) : va_W := [(mo 0, .inr (4, [.ref (mo 1), .ref (mo 2), .ref (mo 3), .int (nI (R 0)), .ref (mo 4), .ref (mo 5), .int (nI (R 1)), .int (nI (R 2)), .int (nI (R 3)), .int (nI (R 4)), .int (nI (R 5)), .int (nI (R 6)), .ref (mo 6), .ref (mo 7), .ref (mo 8)]))]
theorem mH_s0 (mo : Nat → Nat) (R : Nat → Nat) (v : Nat) : (mH mo R).set 0 (mo 0, .inr (4, [.ref (mo 1), .ref (mo 2), .ref (mo 3), .int (nI (R 0)), .ref (mo 4), .ref (mo 5), .int (nI (R 1)), .int (nI (R 2)), .int (nI (R 3)), .int (nI (R 4)), .int (nI (R 5)), .int (nI (R 6)), .ref (mo 6), .ref (mo 7), .ref (mo 8)].set 3 (.int (nI v)))) = mH mo (up R 0 v) := by
  have e0 : up R 0 v 1 = R 1 := up_ne (by decide)
  have e1 : up R 0 v 2 = R 2 := up_ne (by decide)
  have e2 : up R 0 v 3 = R 3 := up_ne (by decide)
  have e3 : up R 0 v 4 = R 4 := up_ne (by decide)
  have e4 : up R 0 v 5 = R 5 := up_ne (by decide)
  have e5 : up R 0 v 6 = R 6 := up_ne (by decide)
  simp only [mH, up_eq, e0, e1, e2, e3, e4, e5, List.set]
theorem mH_s1 (mo : Nat → Nat) (R : Nat → Nat) (v : Nat) : (mH mo R).set 0 (mo 0, .inr (4, [.ref (mo 1), .ref (mo 2), .ref (mo 3), .int (nI (R 0)), .ref (mo 4), .ref (mo 5), .int (nI (R 1)), .int (nI (R 2)), .int (nI (R 3)), .int (nI (R 4)), .int (nI (R 5)), .int (nI (R 6)), .ref (mo 6), .ref (mo 7), .ref (mo 8)].set 6 (.int (nI v)))) = mH mo (up R 1 v) := by
  have e0 : up R 1 v 0 = R 0 := up_ne (by decide)
  have e1 : up R 1 v 2 = R 2 := up_ne (by decide)
  have e2 : up R 1 v 3 = R 3 := up_ne (by decide)
  have e3 : up R 1 v 4 = R 4 := up_ne (by decide)
  have e4 : up R 1 v 5 = R 5 := up_ne (by decide)
  have e5 : up R 1 v 6 = R 6 := up_ne (by decide)
  simp only [mH, up_eq, e0, e1, e2, e3, e4, e5, List.set]
theorem mH_s2 (mo : Nat → Nat) (R : Nat → Nat) (v : Nat) : (mH mo R).set 0 (mo 0, .inr (4, [.ref (mo 1), .ref (mo 2), .ref (mo 3), .int (nI (R 0)), .ref (mo 4), .ref (mo 5), .int (nI (R 1)), .int (nI (R 2)), .int (nI (R 3)), .int (nI (R 4)), .int (nI (R 5)), .int (nI (R 6)), .ref (mo 6), .ref (mo 7), .ref (mo 8)].set 7 (.int (nI v)))) = mH mo (up R 2 v) := by
  have e0 : up R 2 v 0 = R 0 := up_ne (by decide)
  have e1 : up R 2 v 1 = R 1 := up_ne (by decide)
  have e2 : up R 2 v 3 = R 3 := up_ne (by decide)
  have e3 : up R 2 v 4 = R 4 := up_ne (by decide)
  have e4 : up R 2 v 5 = R 5 := up_ne (by decide)
  have e5 : up R 2 v 6 = R 6 := up_ne (by decide)
  simp only [mH, up_eq, e0, e1, e2, e3, e4, e5, List.set]
theorem mH_s3 (mo : Nat → Nat) (R : Nat → Nat) (v : Nat) : (mH mo R).set 0 (mo 0, .inr (4, [.ref (mo 1), .ref (mo 2), .ref (mo 3), .int (nI (R 0)), .ref (mo 4), .ref (mo 5), .int (nI (R 1)), .int (nI (R 2)), .int (nI (R 3)), .int (nI (R 4)), .int (nI (R 5)), .int (nI (R 6)), .ref (mo 6), .ref (mo 7), .ref (mo 8)].set 8 (.int (nI v)))) = mH mo (up R 3 v) := by
  have e0 : up R 3 v 0 = R 0 := up_ne (by decide)
  have e1 : up R 3 v 1 = R 1 := up_ne (by decide)
  have e2 : up R 3 v 2 = R 2 := up_ne (by decide)
  have e3 : up R 3 v 4 = R 4 := up_ne (by decide)
  have e4 : up R 3 v 5 = R 5 := up_ne (by decide)
  have e5 : up R 3 v 6 = R 6 := up_ne (by decide)
  simp only [mH, up_eq, e0, e1, e2, e3, e4, e5, List.set]
theorem mH_s4 (mo : Nat → Nat) (R : Nat → Nat) (v : Nat) : (mH mo R).set 0 (mo 0, .inr (4, [.ref (mo 1), .ref (mo 2), .ref (mo 3), .int (nI (R 0)), .ref (mo 4), .ref (mo 5), .int (nI (R 1)), .int (nI (R 2)), .int (nI (R 3)), .int (nI (R 4)), .int (nI (R 5)), .int (nI (R 6)), .ref (mo 6), .ref (mo 7), .ref (mo 8)].set 9 (.int (nI v)))) = mH mo (up R 4 v) := by
  have e0 : up R 4 v 0 = R 0 := up_ne (by decide)
  have e1 : up R 4 v 1 = R 1 := up_ne (by decide)
  have e2 : up R 4 v 2 = R 2 := up_ne (by decide)
  have e3 : up R 4 v 3 = R 3 := up_ne (by decide)
  have e4 : up R 4 v 5 = R 5 := up_ne (by decide)
  have e5 : up R 4 v 6 = R 6 := up_ne (by decide)
  simp only [mH, up_eq, e0, e1, e2, e3, e4, e5, List.set]
theorem mH_s5 (mo : Nat → Nat) (R : Nat → Nat) (v : Nat) : (mH mo R).set 0 (mo 0, .inr (4, [.ref (mo 1), .ref (mo 2), .ref (mo 3), .int (nI (R 0)), .ref (mo 4), .ref (mo 5), .int (nI (R 1)), .int (nI (R 2)), .int (nI (R 3)), .int (nI (R 4)), .int (nI (R 5)), .int (nI (R 6)), .ref (mo 6), .ref (mo 7), .ref (mo 8)].set 10 (.int (nI v)))) = mH mo (up R 5 v) := by
  have e0 : up R 5 v 0 = R 0 := up_ne (by decide)
  have e1 : up R 5 v 1 = R 1 := up_ne (by decide)
  have e2 : up R 5 v 2 = R 2 := up_ne (by decide)
  have e3 : up R 5 v 3 = R 3 := up_ne (by decide)
  have e4 : up R 5 v 4 = R 4 := up_ne (by decide)
  have e5 : up R 5 v 6 = R 6 := up_ne (by decide)
  simp only [mH, up_eq, e0, e1, e2, e3, e4, e5, List.set]
theorem mH_s6 (mo : Nat → Nat) (R : Nat → Nat) (v : Nat) : (mH mo R).set 0 (mo 0, .inr (4, [.ref (mo 1), .ref (mo 2), .ref (mo 3), .int (nI (R 0)), .ref (mo 4), .ref (mo 5), .int (nI (R 1)), .int (nI (R 2)), .int (nI (R 3)), .int (nI (R 4)), .int (nI (R 5)), .int (nI (R 6)), .ref (mo 6), .ref (mo 7), .ref (mo 8)].set 11 (.int (nI v)))) = mH mo (up R 6 v) := by
  have e0 : up R 6 v 0 = R 0 := up_ne (by decide)
  have e1 : up R 6 v 1 = R 1 := up_ne (by decide)
  have e2 : up R 6 v 2 = R 2 := up_ne (by decide)
  have e3 : up R 6 v 3 = R 3 := up_ne (by decide)
  have e4 : up R 6 v 4 = R 4 := up_ne (by decide)
  have e5 : up R 6 v 5 = R 5 := up_ne (by decide)
  simp only [mH, up_eq, e0, e1, e2, e3, e4, e5, List.set]
/-- the class's own cell -/
def xH (x : Nat) (la ta ka tp sh : Nat → Nat) (fi ik : Nat) : va_W := [(x, .inr (3, [.ref (la 0), .ref (ta 0), .ref (ka 0), .int (nI ik), .ref (tp 0), .ref (sh 0), .ref fi]))]
/-- the tape: R: 0 length, 1 sort, 2 start, 3 behind, 4 number -/
def tW (cI : ClassId) (tp : Nat → Nat) (Tp R : Nat → Nat) : va_W := [(tp 0, .inr (2, [.ref (tp 1), .int (nI (R 0)), .int (nI (R 1)), .int (nI (R 2)), .int (nI (R 3)), .int (nI (R 4))])), (tp 1, .inl (cI, 120, .inl (fun k => nI (Tp k))))]
theorem tW_s0 (cI : ClassId) (tp : Nat → Nat) (Tp R : Nat → Nat) (v : Nat) : (tW cI tp Tp R).set 0 (tp 0, .inr (2, [.ref (tp 1), .int (nI (R 0)), .int (nI (R 1)), .int (nI (R 2)), .int (nI (R 3)), .int (nI (R 4))].set 1 (.int (nI v)))) = tW cI tp Tp (up R 0 v) := by
  have e0 : up R 0 v 1 = R 1 := up_ne (by decide)
  have e1 : up R 0 v 2 = R 2 := up_ne (by decide)
  have e2 : up R 0 v 3 = R 3 := up_ne (by decide)
  have e3 : up R 0 v 4 = R 4 := up_ne (by decide)
  simp only [tW, up_eq, e0, e1, e2, e3, List.set]
theorem tW_s1 (cI : ClassId) (tp : Nat → Nat) (Tp R : Nat → Nat) (v : Nat) : (tW cI tp Tp R).set 0 (tp 0, .inr (2, [.ref (tp 1), .int (nI (R 0)), .int (nI (R 1)), .int (nI (R 2)), .int (nI (R 3)), .int (nI (R 4))].set 2 (.int (nI v)))) = tW cI tp Tp (up R 1 v) := by
  have e0 : up R 1 v 0 = R 0 := up_ne (by decide)
  have e1 : up R 1 v 2 = R 2 := up_ne (by decide)
  have e2 : up R 1 v 3 = R 3 := up_ne (by decide)
  have e3 : up R 1 v 4 = R 4 := up_ne (by decide)
  simp only [tW, up_eq, e0, e1, e2, e3, List.set]
theorem tW_s2 (cI : ClassId) (tp : Nat → Nat) (Tp R : Nat → Nat) (v : Nat) : (tW cI tp Tp R).set 0 (tp 0, .inr (2, [.ref (tp 1), .int (nI (R 0)), .int (nI (R 1)), .int (nI (R 2)), .int (nI (R 3)), .int (nI (R 4))].set 3 (.int (nI v)))) = tW cI tp Tp (up R 2 v) := by
  have e0 : up R 2 v 0 = R 0 := up_ne (by decide)
  have e1 : up R 2 v 1 = R 1 := up_ne (by decide)
  have e2 : up R 2 v 3 = R 3 := up_ne (by decide)
  have e3 : up R 2 v 4 = R 4 := up_ne (by decide)
  simp only [tW, up_eq, e0, e1, e2, e3, List.set]
theorem tW_s3 (cI : ClassId) (tp : Nat → Nat) (Tp R : Nat → Nat) (v : Nat) : (tW cI tp Tp R).set 0 (tp 0, .inr (2, [.ref (tp 1), .int (nI (R 0)), .int (nI (R 1)), .int (nI (R 2)), .int (nI (R 3)), .int (nI (R 4))].set 4 (.int (nI v)))) = tW cI tp Tp (up R 3 v) := by
  have e0 : up R 3 v 0 = R 0 := up_ne (by decide)
  have e1 : up R 3 v 1 = R 1 := up_ne (by decide)
  have e2 : up R 3 v 2 = R 2 := up_ne (by decide)
  have e3 : up R 3 v 4 = R 4 := up_ne (by decide)
  simp only [tW, up_eq, e0, e1, e2, e3, List.set]
theorem tW_s4 (cI : ClassId) (tp : Nat → Nat) (Tp R : Nat → Nat) (v : Nat) : (tW cI tp Tp R).set 0 (tp 0, .inr (2, [.ref (tp 1), .int (nI (R 0)), .int (nI (R 1)), .int (nI (R 2)), .int (nI (R 3)), .int (nI (R 4))].set 5 (.int (nI v)))) = tW cI tp Tp (up R 4 v) := by
  have e0 : up R 4 v 0 = R 0 := up_ne (by decide)
  have e1 : up R 4 v 1 = R 1 := up_ne (by decide)
  have e2 : up R 4 v 2 = R 2 := up_ne (by decide)
  have e3 : up R 4 v 3 = R 3 := up_ne (by decide)
  simp only [tW, up_eq, e0, e1, e2, e3, List.set]
theorem tW_r1 (cI : ClassId) (tp : Nat → Nat) (Tp R : Nat → Nat) (k v : Nat) : (tW cI tp Tp R).set 1 (tp 1, .inl (cI, 120, .inl (upd (fun k => nI (Tp k)) k (nI v)))) = tW cI tp (up Tp k v) R := by
  rw [up_row]; rfl
/-- the sheets: widths B, lengths Z, numbers C -/
def sW (cI cJ : ClassId) (sh : Nat → Nat) (B Z : Nat → Nat) (C : Nat → Int64) : va_W := [(sh 0, .inr (1, [.ref (sh 1), .ref (sh 2), .ref (sh 3)])), (sh 1, .inl (cI, 4, .inl (fun k => nI (B k)))), (sh 2, .inl (cI, 4, .inl (fun k => nI (Z k)))), (sh 3, .inl (cJ, 160, .inr (.inl C)))]
theorem sW_r1 (cI cJ : ClassId) (sh : Nat → Nat) (B Z : Nat → Nat) (C : Nat → Int64) (k v : Nat) : (sW cI cJ sh B Z C).set 1 (sh 1, .inl (cI, 4, .inl (upd (fun k => nI (B k)) k (nI v)))) = sW cI cJ sh (up B k v) (Z) C := by
  rw [up_row]; rfl
theorem sW_r2 (cI cJ : ClassId) (sh : Nat → Nat) (B Z : Nat → Nat) (C : Nat → Int64) (k v : Nat) : (sW cI cJ sh B Z C).set 2 (sh 2, .inl (cI, 4, .inl (upd (fun k => nI (Z k)) k (nI v)))) = sW cI cJ sh (B) (up Z k v) C := by
  rw [up_row]; rfl
theorem sW_r3 (cI cJ : ClassId) (sh : Nat → Nat) (B Z : Nat → Nat) (C : Nat → Int64) (k : Nat) (v : Int64) : (sW cI cJ sh B Z C).set 3 (sh 3, .inl (cJ, 160, .inr (.inl (vp_updL C k v)))) = sW cI cJ sh B Z (vp_updL C k v) := rfl
/-- a row's numbers beyond its end are nobody's -/
theorem vp_cell_ext {cA : ClassId} {n : Nat} {f g : Nat → Int32} (h : ∀ k, k < n → f k = g k) : vp_cell cA (n, .inl f) = vp_cell cA (n, .inl g) := by
  rw [vp_cell_i, vp_cell_i]
  unfold arrV
  congr 2
  funext j
  exact congrArg Value.int (h j.val j.isLt)
theorem vp_cell_extL {cA : ClassId} {n : Nat} {f g : Nat → Int64} (h : ∀ k, k < n → f k = g k) : vp_cell cA (n, .inr (.inl f)) = vp_cell cA (n, .inr (.inl g)) := by
  rw [vp_cell_l, vp_cell_l]
  unfold arrV
  congr 2
  funext j
  exact congrArg Value.long (h j.val j.isLt)
theorem sg_cell {D : va_G} {cl : List vw_C} {A : Nat → Prop} {H0 H : Heap} {locs : List Loc} {ss : List va_W} (hW : Wo D cl A H0 H locs ss) (i j : Nat) {seg : va_W} {a : Nat} {e e' : va_E} (hi : ss[i]? = some seg) (he : seg[j]? = some (a, e)) (hx : ∀ H, va_at D cl (a, e) H → va_at D cl (a, e') H) {seg' : va_W} (hs : seg.set j (a, e') = seg') {ss' : List va_W} (hss : ss.set i seg' = ss') : Wo D cl A H0 H locs ss' := by
  obtain ⟨q0, h1, h2⟩ := sg_at ss i j seg _ hi he
  subst hss; subst hs
  refine ⟨?_, ?_, hW.2.2⟩
  · rw [← h2]
    exact hW.1.set hW.2.1 h1 (hx _ (hW.1 q0 _ h1)) (fun q _ => rfl)
  · rw [← h2]
    exact hW.2.1.set h1
theorem sg_fn {D : va_G} {cl : List vw_C} {A : Nat → Prop} {H0 H : Heap} {locs : List Loc} {ss : List va_W} (hW : Wo D cl A H0 H locs ss) (i j : Nat) {seg : va_W} {a n : Nat} {cA : ClassId} {f g : Nat → Int32} (hi : ss[i]? = some seg) (he : seg[j]? = some (a, .inl (cA, n, .inl f))) (hx : ∀ k, k < n → f k = g k) {seg' : va_W} (hs : seg.set j (a, .inl (cA, n, .inl g)) = seg') {ss' : List va_W} (hss : ss.set i seg' = ss') : Wo D cl A H0 H locs ss' :=
  sg_cell hW i j hi he (fun H h => by show H[a]? = some (vp_cell _ _); rw [← vp_cell_ext hx]; exact h) hs hss
theorem sg_fnL {D : va_G} {cl : List vw_C} {A : Nat → Prop} {H0 H : Heap} {locs : List Loc} {ss : List va_W} (hW : Wo D cl A H0 H locs ss) (i j : Nat) {seg : va_W} {a n : Nat} {cA : ClassId} {f g : Nat → Int64} (hi : ss[i]? = some seg) (he : seg[j]? = some (a, .inl (cA, n, .inr (.inl f)))) (hx : ∀ k, k < n → f k = g k) {seg' : va_W} (hs : seg.set j (a, .inl (cA, n, .inr (.inl g))) = seg') {ss' : List va_W} (hss : ss.set i seg' = ss') : Wo D cl A H0 H locs ss' :=
  sg_cell hW i j hi he (fun H h => by show H[a]? = some (vp_cell _ _); rw [← vp_cell_extL hx]; exact h) hs hss
end
section
/-! ===== what it is: the document's section 1 over rows of natural numbers ===== -/
def sumN (f : Nat → Nat) : Nat → Nat
  | 0 => 0
  | n + 1 => sumN f n + f n
def setN (f : Nat → Nat) : Nat → Nat
  | 0 => 0
  | n + 1 => setN f n + f n * 2 ^ n
def inN (x : Int32) (n : Nat) : Nat := if 0 ≤ x.toInt ∧ x.toInt < n then 1 else 0
def outC (G : Nat → Nat) : Nat := sumN (fun i => G (8 * i + 2)) (G 40)
def outS (G : Nat → Nat) : Nat := setN (fun i => G (8 * i + 2)) (G 40)
def onC (G : Nat → Nat) : Nat := sumN (fun i => G (8 * i + 6)) (G 48)
def onS (G : Nat → Nat) : Nat := setN (fun i => G (8 * i + 6)) (G 48)
def flC (G : Nat → Nat) : Nat := sumN (fun i => G (8 * i + 7)) (G 48)
def nightN (G : Nat → Nat) : Nat := if 40 ≤ G 0 % 50 then 1 else 0
def wetN (G : Nat → Nat) : Nat := G 8 / 2 ^ (G 0 % 50 / 10) % 2
def weightN (G : Nat → Nat) : Nat := G 16 + 2 * onC G
def keepK (k s t o n : Nat) : Nat :=
  if k = 1 then s / 2 + t else if k = 2 then (if o = 0 then 0 else s / 5 + t) else if k = 3 then 2 * s else if k = 4 then (if n = 0 then s / 2 + t else s / 2 + t + 10) else if k = 5 then (if o = 0 then 0 else s / 5 + t) + 3 * o else s / 5 + t
def speakK (k t o n sp : Nat) : Nat :=
  if k = 1 then (if 15 ≤ t then 1 else 0) else if k = 2 then (if 3 ≤ t ∧ 0 < o then 1 else 0) else if k = 3 then 0 else if k = 4 then (if 15 ≤ t ∧ n = 0 then 1 else 0) else if k = 5 then (if (3 ≤ t ∧ 0 < o) ∨ 100 < sp then 1 else 0) else (if 9 ≤ t then 1 else 0)
def tellK (k : Nat) : Nat := if k = 1 then 2 else if k = 2 then 6 else if k = 3 then 0 else if k = 4 then 2 else if k = 5 then 7 else 3
def keepsN (G : Nat → Nat) (a : Nat) : Nat := keepK (G (8 * a + 1)) (G (8 * a + 3)) (G (8 * a + 4)) (outC G - G (8 * a + 2)) (nightN G)
def speaksN (G : Nat → Nat) (a : Nat) : Nat := speakK (G (8 * a + 1)) (G (8 * a + 4)) (outC G - G (8 * a + 2)) (nightN G) (G 24)
def pushTo (G : Nat → Nat) : Nat → Nat
  | 0 => 0
  | n + 1 => pushTo G n + if G (8 * n + 2) = 1 then keepsN G n else 0
def pushN (G : Nat → Nat) : Nat := if wetN G = 1 then 0 else pushTo G (G 40)
def speedN (G : Nat → Nat) : Nat := min 200 (G 24 + pushN G / weightN G - max 1 (G 24 / 10))
def spinG (G : Nat → Nat) : Nat → Nat := up (up G 24 (speedN G)) 32 (min 999999 (G 32 + speedN G))
def holdF (G : Nat → Nat) (c : Nat) : Nat → Nat :=
  if G (8 * c + 6) = 1 then (if G (8 * c + 5) < G 24 then up (up G (8 * c + 6) 0) (8 * c + 7) (min 9999 (G (8 * c + 7) + 1)) else if 30 < G 24 then up G (8 * c + 5) (G (8 * c + 5) - 1) else G) else G
def gripsTo (G : Nat → Nat) : Nat → Nat → Nat
  | 0 => G
  | n + 1 => holdF (gripsTo G n) n
def talkF (G : Nat → Nat) (a : Nat) : Nat → Nat :=
  if G (8 * a + 2) = 1 then (if speaksN G a = 1 then up (up G (8 * a + 3) (G (8 * a + 3) - tellK (G (8 * a + 1)))) (8 * a + 4) 0 else up G (8 * a + 4) (min 999 (G (8 * a + 4) + 1))) else G
def talkTo (G : Nat → Nat) : Nat → Nat → Nat
  | 0 => G
  | n + 1 => talkF (talkTo G n) n
def gripsG (G : Nat → Nat) : Nat → Nat := gripsTo G (G 48)
def talkG (G : Nat → Nat) : Nat → Nat := talkTo G (G 40)
def tickG (G : Nat → Nat) : Nat → Nat := up G 0 (G 0 + 1)
def stepG (G : Nat → Nat) : Nat → Nat := tickG (talkG (gripsG (spinG G)))
def stepN (G : Nat → Nat) : Nat → Nat → Nat
  | 0 => G
  | n + 1 => stepG (stepN G n)
/-- what always holds of a row, the minute up to b -/
def OkG (b : Nat) (G : Nat → Nat) : Prop :=
  (G 0 ≤ b ∧ G 8 ≤ 31 ∧ 1 ≤ G 16 ∧ G 16 ≤ 50 ∧ G 24 ≤ 200 ∧ G 32 ≤ 999999 ∧ G 40 ≤ 8 ∧ G 48 ≤ 6) ∧ (∀ i, i < 8 → G (8 * i + 1) ≤ 5 ∧ G (8 * i + 2) ≤ 1 ∧ G (8 * i + 3) ≤ 99 ∧ G (8 * i + 4) ≤ 999) ∧ ∀ i, i < 6 → G (8 * i + 5) ≤ 200 ∧ G (8 * i + 6) ≤ 1 ∧ G (8 * i + 7) ≤ 9999
theorem OkG.s {b : Nat} {G : Nat → Nat} (h : OkG b G) : G 0 ≤ b ∧ G 8 ≤ 31 ∧ 1 ≤ G 16 ∧ G 16 ≤ 50 ∧ G 24 ≤ 200 ∧ G 32 ≤ 999999 ∧ G 40 ≤ 8 ∧ G 48 ≤ 6 := h.1
theorem OkG.m {b : Nat} {G : Nat → Nat} (h : OkG b G) (i : Nat) (hi : i < 8) : G (8 * i + 1) ≤ 5 ∧ G (8 * i + 2) ≤ 1 ∧ G (8 * i + 3) ≤ 99 ∧ G (8 * i + 4) ≤ 999 := h.2.1 i hi
theorem OkG.c {b : Nat} {G : Nat → Nat} (h : OkG b G) (i : Nat) (hi : i < 6) : G (8 * i + 5) ≤ 200 ∧ G (8 * i + 6) ≤ 1 ∧ G (8 * i + 7) ≤ 9999 := h.2.2 i hi
theorem sumN_le {f : Nat → Nat} {b : Nat} : ∀ {n : Nat}, (∀ i, i < n → f i ≤ b) → sumN f n ≤ n * b
  | 0, _ => Nat.zero_le _
  | n + 1, h => by
    have h1 := sumN_le (n := n) (fun i hi => h i (by omega))
    have h2 := h n (by omega)
    show sumN f n + f n ≤ (n + 1) * b
    rw [Nat.succ_mul]; omega
theorem sumN_ge {f : Nat → Nat} : ∀ {n : Nat} (i : Nat), i < n → f i ≤ sumN f n
  | 0, i, h => absurd h (Nat.not_lt_zero i)
  | n + 1, i, h => by
    show f i ≤ sumN f n + f n
    rcases Nat.lt_succ_iff_lt_or_eq.mp h with q | q
    · have := sumN_ge (f := f) i q; omega
    · subst q; omega
theorem sumN_cong {f g : Nat → Nat} : ∀ {n : Nat}, (∀ i, i < n → f i = g i) → sumN f n = sumN g n
  | 0, _ => rfl
  | n + 1, h => by
    show sumN f n + f n = sumN g n + g n
    rw [sumN_cong (n := n) (fun i hi => h i (by omega)), h n (by omega)]
theorem setN_lt {f : Nat → Nat} : ∀ {n : Nat}, (∀ i, i < n → f i ≤ 1) → setN f n < 2 ^ n
  | 0, _ => by show 0 < 1; decide
  | n + 1, h => by
    have h1 := setN_lt (n := n) (fun i hi => h i (by omega))
    have h2 := h n (by omega)
    show setN f n + f n * 2 ^ n < 2 ^ (n + 1)
    rw [Nat.pow_succ]
    have : f n * 2 ^ n ≤ 1 * 2 ^ n := Nat.mul_le_mul_right _ h2
    omega
theorem setN_cong {f g : Nat → Nat} : ∀ {n : Nat}, (∀ i, i < n → f i = g i) → setN f n = setN g n
  | 0, _ => rfl
  | n + 1, h => by
    show setN f n + f n * 2 ^ n = setN g n + g n * 2 ^ n
    rw [setN_cong (n := n) (fun i hi => h i (by omega)), h n (by omega)]
theorem setN_or {f : Nat → Nat} {n : Nat} (h : ∀ i, i < n → f i ≤ 1) : setN f n ||| f n * 2 ^ n = setN f (n + 1) := by
  show setN f n ||| f n * 2 ^ n = setN f n + f n * 2 ^ n
  have h1 := setN_lt (n := n) h
  rw [Nat.or_comm, Nat.mul_comm, ← Nat.two_pow_add_eq_or_of_lt h1, Nat.add_comm]
theorem pow8 {n : Nat} (h : n ≤ 8) : 2 ^ n ≤ 256 := Nat.pow_le_pow_right (by decide) h
theorem OkG.put {b : Nat} {G : Nat → Nat} {key v : Nat} (h : OkG b G) (v0 : key = 0 → v ≤ b) (v8 : key = 8 → v ≤ 31) (v16 : key = 16 → 1 ≤ v ∧ v ≤ 50) (v24 : key = 24 → v ≤ 200) (v32 : key = 32 → v ≤ 999999) (v40 : key = 40 → v ≤ 8) (v48 : key = 48 → v ≤ 6) (v1 : key % 8 = 1 → v ≤ 5) (v2 : key % 8 = 2 → v ≤ 1) (v3 : key % 8 = 3 → v ≤ 99) (v4 : key % 8 = 4 → v ≤ 999) (v5 : key % 8 = 5 → v ≤ 200) (v6 : key % 8 = 6 → v ≤ 1) (v7 : key % 8 = 7 → v ≤ 9999) : OkG b (up G key v) := by
  obtain ⟨⟨s1, s2, s3, s4, s5, s6, s7, s8⟩, hm, hc⟩ := h
  have go : ∀ (j lim : Nat), G j ≤ lim → (key = j → v ≤ lim) → up G key v j ≤ lim := fun j lim h1 h2 => by
    by_cases q : j = key
    · subst q; rw [up_eq]; exact h2 rfl
    · rw [up_ne q]; exact h1
  refine ⟨⟨go 0 _ s1 v0, go 8 _ s2 v8, ?_, go 16 _ s4 (fun q => (v16 q).2), go 24 _ s5 v24, go 32 _ s6 v32, go 40 _ s7 v40, go 48 _ s8 v48⟩, fun i hi => ⟨go _ _ (hm i hi).1 (fun q => v1 (by rw [q]; omega)), go _ _ (hm i hi).2.1 (fun q => v2 (by rw [q]; omega)), go _ _ (hm i hi).2.2.1 (fun q => v3 (by rw [q]; omega)), go _ _ (hm i hi).2.2.2 (fun q => v4 (by rw [q]; omega))⟩, fun i hi => ⟨go _ _ (hc i hi).1 (fun q => v5 (by rw [q]; omega)), go _ _ (hc i hi).2.1 (fun q => v6 (by rw [q]; omega)), go _ _ (hc i hi).2.2 (fun q => v7 (by rw [q]; omega))⟩⟩
  by_cases q : 16 = key
  · subst q; rw [up_eq]; exact (v16 rfl).1
  · rw [up_ne q]; exact s3
theorem OkG.s0 {b : Nat} {G : Nat → Nat} {v : Nat} (h : OkG b G) (hv : v ≤ b) : OkG b (up G 0 v) := h.put (fun _ => hv) (fun q => absurd q (by decide)) (fun q => absurd q (by decide)) (fun q => absurd q (by decide)) (fun q => absurd q (by decide)) (fun q => absurd q (by decide)) (fun q => absurd q (by decide)) (fun q => absurd q (by decide)) (fun q => absurd q (by decide)) (fun q => absurd q (by decide)) (fun q => absurd q (by decide)) (fun q => absurd q (by decide)) (fun q => absurd q (by decide)) (fun q => absurd q (by decide))
theorem OkG.s8 {b : Nat} {G : Nat → Nat} {v : Nat} (h : OkG b G) (hv : v ≤ 31) : OkG b (up G 8 v) := h.put (fun q => absurd q (by decide)) (fun _ => hv) (fun q => absurd q (by decide)) (fun q => absurd q (by decide)) (fun q => absurd q (by decide)) (fun q => absurd q (by decide)) (fun q => absurd q (by decide)) (fun q => absurd q (by decide)) (fun q => absurd q (by decide)) (fun q => absurd q (by decide)) (fun q => absurd q (by decide)) (fun q => absurd q (by decide)) (fun q => absurd q (by decide)) (fun q => absurd q (by decide))
theorem OkG.s16 {b : Nat} {G : Nat → Nat} {v : Nat} (h : OkG b G) (hv : 1 ≤ v ∧ v ≤ 50) : OkG b (up G 16 v) := h.put (fun q => absurd q (by decide)) (fun q => absurd q (by decide)) (fun _ => hv) (fun q => absurd q (by decide)) (fun q => absurd q (by decide)) (fun q => absurd q (by decide)) (fun q => absurd q (by decide)) (fun q => absurd q (by decide)) (fun q => absurd q (by decide)) (fun q => absurd q (by decide)) (fun q => absurd q (by decide)) (fun q => absurd q (by decide)) (fun q => absurd q (by decide)) (fun q => absurd q (by decide))
theorem OkG.s24 {b : Nat} {G : Nat → Nat} {v : Nat} (h : OkG b G) (hv : v ≤ 200) : OkG b (up G 24 v) := h.put (fun q => absurd q (by decide)) (fun q => absurd q (by decide)) (fun q => absurd q (by decide)) (fun _ => hv) (fun q => absurd q (by decide)) (fun q => absurd q (by decide)) (fun q => absurd q (by decide)) (fun q => absurd q (by decide)) (fun q => absurd q (by decide)) (fun q => absurd q (by decide)) (fun q => absurd q (by decide)) (fun q => absurd q (by decide)) (fun q => absurd q (by decide)) (fun q => absurd q (by decide))
theorem OkG.s32 {b : Nat} {G : Nat → Nat} {v : Nat} (h : OkG b G) (hv : v ≤ 999999) : OkG b (up G 32 v) := h.put (fun q => absurd q (by decide)) (fun q => absurd q (by decide)) (fun q => absurd q (by decide)) (fun q => absurd q (by decide)) (fun _ => hv) (fun q => absurd q (by decide)) (fun q => absurd q (by decide)) (fun q => absurd q (by decide)) (fun q => absurd q (by decide)) (fun q => absurd q (by decide)) (fun q => absurd q (by decide)) (fun q => absurd q (by decide)) (fun q => absurd q (by decide)) (fun q => absurd q (by decide))
theorem OkG.s40 {b : Nat} {G : Nat → Nat} {v : Nat} (h : OkG b G) (hv : v ≤ 8) : OkG b (up G 40 v) := h.put (fun q => absurd q (by decide)) (fun q => absurd q (by decide)) (fun q => absurd q (by decide)) (fun q => absurd q (by decide)) (fun q => absurd q (by decide)) (fun _ => hv) (fun q => absurd q (by decide)) (fun q => absurd q (by decide)) (fun q => absurd q (by decide)) (fun q => absurd q (by decide)) (fun q => absurd q (by decide)) (fun q => absurd q (by decide)) (fun q => absurd q (by decide)) (fun q => absurd q (by decide))
theorem OkG.s48 {b : Nat} {G : Nat → Nat} {v : Nat} (h : OkG b G) (hv : v ≤ 6) : OkG b (up G 48 v) := h.put (fun q => absurd q (by decide)) (fun q => absurd q (by decide)) (fun q => absurd q (by decide)) (fun q => absurd q (by decide)) (fun q => absurd q (by decide)) (fun q => absurd q (by decide)) (fun _ => hv) (fun q => absurd q (by decide)) (fun q => absurd q (by decide)) (fun q => absurd q (by decide)) (fun q => absurd q (by decide)) (fun q => absurd q (by decide)) (fun q => absurd q (by decide)) (fun q => absurd q (by decide))
theorem OkG.r1 {b : Nat} {G : Nat → Nat} {a v : Nat} (h : OkG b G) (hv : v ≤ 5) : OkG b (up G (8 * a + 1) v) := h.put (fun q => absurd q (by omega)) (fun q => absurd q (by omega)) (fun q => absurd q (by omega)) (fun q => absurd q (by omega)) (fun q => absurd q (by omega)) (fun q => absurd q (by omega)) (fun q => absurd q (by omega)) (fun _ => hv) (fun q => absurd q (by omega)) (fun q => absurd q (by omega)) (fun q => absurd q (by omega)) (fun q => absurd q (by omega)) (fun q => absurd q (by omega)) (fun q => absurd q (by omega))
theorem OkG.r2 {b : Nat} {G : Nat → Nat} {a v : Nat} (h : OkG b G) (hv : v ≤ 1) : OkG b (up G (8 * a + 2) v) := h.put (fun q => absurd q (by omega)) (fun q => absurd q (by omega)) (fun q => absurd q (by omega)) (fun q => absurd q (by omega)) (fun q => absurd q (by omega)) (fun q => absurd q (by omega)) (fun q => absurd q (by omega)) (fun q => absurd q (by omega)) (fun _ => hv) (fun q => absurd q (by omega)) (fun q => absurd q (by omega)) (fun q => absurd q (by omega)) (fun q => absurd q (by omega)) (fun q => absurd q (by omega))
theorem OkG.r3 {b : Nat} {G : Nat → Nat} {a v : Nat} (h : OkG b G) (hv : v ≤ 99) : OkG b (up G (8 * a + 3) v) := h.put (fun q => absurd q (by omega)) (fun q => absurd q (by omega)) (fun q => absurd q (by omega)) (fun q => absurd q (by omega)) (fun q => absurd q (by omega)) (fun q => absurd q (by omega)) (fun q => absurd q (by omega)) (fun q => absurd q (by omega)) (fun q => absurd q (by omega)) (fun _ => hv) (fun q => absurd q (by omega)) (fun q => absurd q (by omega)) (fun q => absurd q (by omega)) (fun q => absurd q (by omega))
theorem OkG.r4 {b : Nat} {G : Nat → Nat} {a v : Nat} (h : OkG b G) (hv : v ≤ 999) : OkG b (up G (8 * a + 4) v) := h.put (fun q => absurd q (by omega)) (fun q => absurd q (by omega)) (fun q => absurd q (by omega)) (fun q => absurd q (by omega)) (fun q => absurd q (by omega)) (fun q => absurd q (by omega)) (fun q => absurd q (by omega)) (fun q => absurd q (by omega)) (fun q => absurd q (by omega)) (fun q => absurd q (by omega)) (fun _ => hv) (fun q => absurd q (by omega)) (fun q => absurd q (by omega)) (fun q => absurd q (by omega))
theorem OkG.r5 {b : Nat} {G : Nat → Nat} {a v : Nat} (h : OkG b G) (hv : v ≤ 200) : OkG b (up G (8 * a + 5) v) := h.put (fun q => absurd q (by omega)) (fun q => absurd q (by omega)) (fun q => absurd q (by omega)) (fun q => absurd q (by omega)) (fun q => absurd q (by omega)) (fun q => absurd q (by omega)) (fun q => absurd q (by omega)) (fun q => absurd q (by omega)) (fun q => absurd q (by omega)) (fun q => absurd q (by omega)) (fun q => absurd q (by omega)) (fun _ => hv) (fun q => absurd q (by omega)) (fun q => absurd q (by omega))
theorem OkG.r6 {b : Nat} {G : Nat → Nat} {a v : Nat} (h : OkG b G) (hv : v ≤ 1) : OkG b (up G (8 * a + 6) v) := h.put (fun q => absurd q (by omega)) (fun q => absurd q (by omega)) (fun q => absurd q (by omega)) (fun q => absurd q (by omega)) (fun q => absurd q (by omega)) (fun q => absurd q (by omega)) (fun q => absurd q (by omega)) (fun q => absurd q (by omega)) (fun q => absurd q (by omega)) (fun q => absurd q (by omega)) (fun q => absurd q (by omega)) (fun q => absurd q (by omega)) (fun _ => hv) (fun q => absurd q (by omega))
theorem OkG.r7 {b : Nat} {G : Nat → Nat} {a v : Nat} (h : OkG b G) (hv : v ≤ 9999) : OkG b (up G (8 * a + 7) v) := h.put (fun q => absurd q (by omega)) (fun q => absurd q (by omega)) (fun q => absurd q (by omega)) (fun q => absurd q (by omega)) (fun q => absurd q (by omega)) (fun q => absurd q (by omega)) (fun q => absurd q (by omega)) (fun q => absurd q (by omega)) (fun q => absurd q (by omega)) (fun q => absurd q (by omega)) (fun q => absurd q (by omega)) (fun q => absurd q (by omega)) (fun q => absurd q (by omega)) (fun _ => hv)
theorem OkG.mono {b b' : Nat} {G : Nat → Nat} (h : OkG b G) (hb : b ≤ b') : OkG b' G := ⟨⟨Nat.le_trans h.1.1 hb, h.1.2⟩, h.2⟩
theorem keepK_le {k s t o n : Nat} (hs : s ≤ 99) (ht : t ≤ 999) (ho : o ≤ 8) : keepK k s t o n ≤ 1100 := by
  unfold keepK; repeat' split
  all_goals omega
theorem speakK_le (k t o n sp : Nat) : speakK k t o n sp ≤ 1 := by
  unfold speakK; repeat' split
  all_goals omega
theorem tellK_le (k : Nat) : tellK k ≤ 7 := by
  unfold tellK; repeat' split
  all_goals omega
theorem outC_le {b : Nat} {G : Nat → Nat} (h : OkG b G) : outC G ≤ 8 := by
  have h1 : sumN (fun i => G (8 * i + 2)) (G 40) ≤ G 40 * 1 := sumN_le (fun i hi => (h.m i (by have := h.s; omega)).2.1)
  have := h.s
  unfold outC; omega
theorem outC_ge {G : Nat → Nat} {i : Nat} (hi : i < G 40) : G (8 * i + 2) ≤ outC G := sumN_ge (f := fun i => G (8 * i + 2)) i hi
theorem onC_le {b : Nat} {G : Nat → Nat} (h : OkG b G) : onC G ≤ 6 := by
  have h1 : sumN (fun i => G (8 * i + 6)) (G 48) ≤ G 48 * 1 := sumN_le (fun i hi => (h.c i (by have := h.s; omega)).2.1)
  have := h.s
  unfold onC; omega
theorem flC_le {b : Nat} {G : Nat → Nat} (h : OkG b G) : flC G ≤ 59994 := by
  have h1 : sumN (fun i => G (8 * i + 7)) (G 48) ≤ G 48 * 9999 := sumN_le (fun i hi => (h.c i (by have := h.s; omega)).2.2)
  have := h.s
  unfold flC; omega
theorem nightN_le (G : Nat → Nat) : nightN G ≤ 1 := by unfold nightN; split <;> omega
theorem wetN_le (G : Nat → Nat) : wetN G ≤ 1 := by unfold wetN; omega
theorem weightN_in {b : Nat} {G : Nat → Nat} (h : OkG b G) : 1 ≤ weightN G ∧ weightN G ≤ 62 := by
  have := h.s; have := onC_le h
  unfold weightN; omega
theorem keepsN_le {b : Nat} {G : Nat → Nat} (h : OkG b G) {a : Nat} (ha : a < 8) : keepsN G a ≤ 1100 := by
  have h1 := h.m a ha; have h2 := outC_le h
  exact keepK_le h1.2.2.1 h1.2.2.2 (by omega)
theorem pushTo_le {b : Nat} {G : Nat → Nat} (h : OkG b G) : ∀ n, n ≤ 8 → pushTo G n ≤ n * 1100
  | 0, _ => Nat.zero_le _
  | n + 1, hn => by
    have h1 := pushTo_le h n (by omega)
    have h2 := keepsN_le h (a := n) (by omega)
    have h3 : (if G (8 * n + 2) = 1 then keepsN G n else 0) ≤ 1100 := by
      split
      · exact h2
      · exact Nat.zero_le _
    rw [Nat.succ_mul]
    exact Nat.add_le_add h1 h3
theorem pushN_le {b : Nat} {G : Nat → Nat} (h : OkG b G) : pushN G ≤ 8800 := by
  have h1 := pushTo_le h (G 40) (by have := h.s; omega)
  have := h.s
  unfold pushN; split <;> omega
theorem speedN_le (G : Nat → Nat) : speedN G ≤ 200 := Nat.min_le_left _ _
theorem spin_ok {b : Nat} {G : Nat → Nat} (h : OkG b G) : OkG b (spinG G) :=
  (h.s24 (speedN_le G)).s32 (Nat.min_le_left _ _)
theorem hold_ok {b : Nat} {G : Nat → Nat} (h : OkG b G) {c : Nat} (hc : c < 6) : OkG b (holdF G c) := by
  have h1 := h.c c hc
  unfold holdF
  repeat' split
  · exact (h.r6 (by omega)).r7 (Nat.min_le_left _ _)
  · exact h.r5 (by omega)
  · exact h
  · exact h
theorem hold_keep (G : Nat → Nat) (c k : Nat) (h1 : ¬ k = 8 * c + 5) (h2 : ¬ k = 8 * c + 6) (h3 : ¬ k = 8 * c + 7) : holdF G c k = G k := by
  unfold holdF
  repeat' split
  · rw [up_ne h3, up_ne h2]
  · rw [up_ne h1]
  · rfl
  · rfl
theorem grips_keep (G : Nat → Nat) (k : Nat) (h : k % 8 < 5) : ∀ n, gripsTo G n k = G k
  | 0 => rfl
  | n + 1 => by
    show holdF (gripsTo G n) n k = G k
    rw [hold_keep _ _ _ (by omega) (by omega) (by omega), grips_keep G k h n]
theorem gripsTo_ok {b : Nat} {G : Nat → Nat} (h : OkG b G) : ∀ n, n ≤ 6 → OkG b (gripsTo G n)
  | 0, _ => h
  | n + 1, hn => hold_ok (gripsTo_ok h n (by omega)) (by omega)
theorem grips_ok {b : Nat} {G : Nat → Nat} (h : OkG b G) : OkG b (gripsG G) := gripsTo_ok h _ (by have := h.s; omega)
theorem talkF_ok {b : Nat} {G : Nat → Nat} (h : OkG b G) {a : Nat} (ha : a < 8) : OkG b (talkF G a) := by
  have h1 := h.m a ha
  unfold talkF
  repeat' split
  · exact (h.r3 (by omega)).r4 (by omega)
  · exact h.r4 (Nat.min_le_left _ _)
  · exact h
theorem talkF_keep (G : Nat → Nat) (a k : Nat) (h1 : ¬ k = 8 * a + 3) (h2 : ¬ k = 8 * a + 4) : talkF G a k = G k := by
  unfold talkF
  repeat' split
  · rw [up_ne h2, up_ne h1]
  · rw [up_ne h2]
  · rfl
theorem talk_keep (G : Nat → Nat) (k : Nat) (h : ¬ k % 8 = 3) (h' : ¬ k % 8 = 4) : ∀ n, talkTo G n k = G k
  | 0 => rfl
  | n + 1 => by
    show talkF (talkTo G n) n k = G k
    rw [talkF_keep _ _ _ (by omega) (by omega), talk_keep G k h h' n]
theorem talkTo_ok {b : Nat} {G : Nat → Nat} (h : OkG b G) : ∀ n, n ≤ 8 → OkG b (talkTo G n)
  | 0, _ => h
  | n + 1, hn => talkF_ok (talkTo_ok h n (by omega)) (by omega)
theorem talk_ok {b : Nat} {G : Nat → Nat} (h : OkG b G) : OkG b (talkG G) := talkTo_ok h _ (by have := h.s; omega)
theorem talk_out (G : Nat → Nat) (n : Nat) : outC (talkTo G n) = outC G := by
  unfold outC
  rw [talk_keep G 40 (by decide) (by decide) n]
  exact sumN_cong (fun i _ => talk_keep G _ (by omega) (by omega) n)
theorem talk_night (G : Nat → Nat) (n : Nat) : nightN (talkTo G n) = nightN G := by
  unfold nightN
  rw [talk_keep G 0 (by decide) (by decide) n]
theorem tick_ok {b : Nat} {G : Nat → Nat} (h : OkG b G) : OkG (b + 1) (tickG G) := (h.mono (Nat.le_succ b)).s0 (Nat.succ_le_succ h.s.1)
theorem step_ok {b : Nat} {G : Nat → Nat} (h : OkG b G) : OkG (b + 1) (stepG G) := tick_ok (talk_ok (grips_ok (spin_ok h)))
theorem stepN_ok {b : Nat} {G : Nat → Nat} (h : OkG b G) : ∀ n, OkG (b + n) (stepN G n)
  | 0 => h
  | n + 1 => step_ok (stepN_ok h n)
end
section
theorem qX0_minuteOfDay : yX0_minuteOfDay.cls = RX0 ∧ yX0_minuteOfDay.cls ≠ "java/lang/invoke/MethodHandle" ∧ yX0_minuteOfDay.cls ≠ "java/lang/invoke/VarHandle" ∧ (parseMethodDescriptor yX0_minuteOfDay.desc).map (fun d => d.parameters.length) = some 0 := by decide +kernel
theorem qX0_onCount : yX0_onCount.cls = RX0 ∧ yX0_onCount.cls ≠ "java/lang/invoke/MethodHandle" ∧ yX0_onCount.cls ≠ "java/lang/invoke/VarHandle" ∧ (parseMethodDescriptor yX0_onCount.desc).map (fun d => d.parameters.length) = some 0 := by decide +kernel
theorem qX1_kindAbove : yX1_kindAbove.cls ≠ "java/lang/invoke/MethodHandle" ∧ yX1_kindAbove.cls ≠ "java/lang/invoke/VarHandle" ∧ (parseMethodDescriptor yX1_kindAbove.desc).map (fun d => d.parameters.length) = some 1 := by decide +kernel
theorem qX1_keeps : yX1_keeps.cls ≠ "java/lang/invoke/MethodHandle" ∧ yX1_keeps.cls ≠ "java/lang/invoke/VarHandle" ∧ (parseMethodDescriptor yX1_keeps.desc).map (fun d => d.parameters.length) = some 5 := by decide +kernel
theorem qX1_speaks : yX1_speaks.cls ≠ "java/lang/invoke/MethodHandle" ∧ yX1_speaks.cls ≠ "java/lang/invoke/VarHandle" ∧ (parseMethodDescriptor yX1_speaks.desc).map (fun d => d.parameters.length) = some 5 := by decide +kernel
theorem qX0_isWet : yX0_isWet.cls = RX0 ∧ yX0_isWet.cls ≠ "java/lang/invoke/MethodHandle" ∧ yX0_isWet.cls ≠ "java/lang/invoke/VarHandle" ∧ (parseMethodDescriptor yX0_isWet.desc).map (fun d => d.parameters.length) = some 0 := by decide +kernel
theorem qX0_outCount : yX0_outCount.cls = RX0 ∧ yX0_outCount.cls ≠ "java/lang/invoke/MethodHandle" ∧ yX0_outCount.cls ≠ "java/lang/invoke/VarHandle" ∧ (parseMethodDescriptor yX0_outCount.desc).map (fun d => d.parameters.length) = some 0 := by decide +kernel
theorem qX0_isNight : yX0_isNight.cls = RX0 ∧ yX0_isNight.cls ≠ "java/lang/invoke/MethodHandle" ∧ yX0_isNight.cls ≠ "java/lang/invoke/VarHandle" ∧ (parseMethodDescriptor yX0_isNight.desc).map (fun d => d.parameters.length) = some 0 := by decide +kernel
theorem qX0_keepsNow : yX0_keepsNow.cls = RX0 ∧ yX0_keepsNow.cls ≠ "java/lang/invoke/MethodHandle" ∧ yX0_keepsNow.cls ≠ "java/lang/invoke/VarHandle" ∧ (parseMethodDescriptor yX0_keepsNow.desc).map (fun d => d.parameters.length) = some 3 := by decide +kernel
theorem qX0_speaksNow : yX0_speaksNow.cls = RX0 ∧ yX0_speaksNow.cls ≠ "java/lang/invoke/MethodHandle" ∧ yX0_speaksNow.cls ≠ "java/lang/invoke/VarHandle" ∧ (parseMethodDescriptor yX0_speaksNow.desc).map (fun d => d.parameters.length) = some 3 := by decide +kernel
theorem qX1_tells : yX1_tells.cls ≠ "java/lang/invoke/MethodHandle" ∧ yX1_tells.cls ≠ "java/lang/invoke/VarHandle" ∧ (parseMethodDescriptor yX1_tells.desc).map (fun d => d.parameters.length) = some 1 := by decide +kernel
theorem qX0_pushNow : yX0_pushNow.cls = RX0 ∧ yX0_pushNow.cls ≠ "java/lang/invoke/MethodHandle" ∧ yX0_pushNow.cls ≠ "java/lang/invoke/VarHandle" ∧ (parseMethodDescriptor yX0_pushNow.desc).map (fun d => d.parameters.length) = some 0 := by decide +kernel
theorem qX0_weightNow : yX0_weightNow.cls = RX0 ∧ yX0_weightNow.cls ≠ "java/lang/invoke/MethodHandle" ∧ yX0_weightNow.cls ≠ "java/lang/invoke/VarHandle" ∧ (parseMethodDescriptor yX0_weightNow.desc).map (fun d => d.parameters.length) = some 0 := by decide +kernel
theorem qX0_tryGrips : yX0_tryGrips.cls = RX0 ∧ yX0_tryGrips.cls ≠ "java/lang/invoke/MethodHandle" ∧ yX0_tryGrips.cls ≠ "java/lang/invoke/VarHandle" ∧ (parseMethodDescriptor yX0_tryGrips.desc).map (fun d => d.parameters.length) = some 0 := by decide +kernel
theorem qX0_letSpeak : yX0_letSpeak.cls = RX0 ∧ yX0_letSpeak.cls ≠ "java/lang/invoke/MethodHandle" ∧ yX0_letSpeak.cls ≠ "java/lang/invoke/VarHandle" ∧ (parseMethodDescriptor yX0_letSpeak.desc).map (fun d => d.parameters.length) = some 0 := by decide +kernel
theorem qX0_passMinute : yX0_passMinute.cls = RX0 ∧ yX0_passMinute.cls ≠ "java/lang/invoke/MethodHandle" ∧ yX0_passMinute.cls ≠ "java/lang/invoke/VarHandle" ∧ (parseMethodDescriptor yX0_passMinute.desc).map (fun d => d.parameters.length) = some 0 := by decide +kernel
theorem spk_narrow (k t o n sp : Nat) : narrow .boolean (.int (nI (speakK k t o n sp))) = .int (nI (speakK k t o n sp)) := by
  have h := speakK_le k t o n sp
  rcases (show speakK k t o n sp = 0 ∨ speakK k t o n sp = 1 by omega) with q | q <;> rw [q] <;> decide +kernel
abbrev rmX0_hasMother : Room := { frames := 0, cells := 0, slots := 0, locals := 0 }
set_option maxRecDepth 100000 in
set_option maxHeartbeats 4000000 in
/-- hasMother: whether there is one of that number -/
theorem M_X0_hasMother (l : Launch) (D : va_G) (cI cJ : ClassId) (g G : Nat → Nat) (b : Nat) (hb30 : b < 2 ^ 30) (hG : OkG b G) (v : Int32) : CE E0 l D vwCl [(cI, .int), (cJ, .long)] yX0_hasMother wsX0_hasMother rmX0_hasMother [.ref (g 0), .int v] [gW cI g G] (S := Unit) (some (.int (nI (inN v (G 40))))) (fun _ => True) (fun _ : Unit => [gW cI g G]) 0 0 := by
  refine CE.ofW (cc := cX0_hasMother) (maxL := 2) (ret := (some .boolean)) (lv := [(0, .ref (g 0)), (1, .int v)]) (by decide) rfl (Nat.le_of_ble_eq_true rfl) rfl ?_
  intro p e s m args below meth c ls A Q hQ hx hb hml hr hlocks hnm hown hts hK hA hE hW hl
  have hown : s.vm.findClass RX0 = some m.cls := hown
  obtain ⟨hg0, hg8, hg16, hg16b, hg24, hg32, hg40, hg48⟩ := hG.s
  refine lv_iload_n hx hb dX0_hasMother_0 rfl (lv_at hl 1 rfl) ?_
  refine zz_zlt (tgt := 16) hx hb dX0_hasMother_1 (by decide) (rfl : v.toInt = v.toInt) (fun c1 => ?_) (fun c1 => ?_)
  · refine lv_iconst (v := nI 0) hx hb dX0_hasMother_16 (by decide +kernel) ?_
    exact rt_z hQ hx hb hr hlocks hW dX0_hasMother_17 (by decide +kernel) () (by unfold inN; split <;> first | rfl | (exfalso; omega)) trivial rfl
  · refine lv_iload_n hx hb dX0_hasMother_4 rfl (lv_at hl 1 rfl) ?_
    refine lv_aload_n hx hb dX0_hasMother_5 rfl (lv_at hl 0 rfl) ?_
    refine sg_get (ci := 0) (C := RX0) (T := TX0) (N := 14) (v := .int (nI (G 40))) hx hb hts (fun _ h => List.mem_cons_of_mem _ (List.mem_append_right _ h)) hown hK hW 0 0 rfl rfl rfl 5 (by decide) (hts _ (List.mem_of_getElem? (i := 1) rfl)) rfl dX0_hasMother_6 ?_
    refine zz_cge (tgt := 16) hx hb dX0_hasMother_9 (by decide) (rfl : v.toInt = v.toInt) (nI_toInt (n := G 40) (by omega)) (fun c9 => ?_) (fun c9 => ?_)
    · refine lv_iconst (v := nI 0) hx hb dX0_hasMother_16 (by decide +kernel) ?_
      exact rt_z hQ hx hb hr hlocks hW dX0_hasMother_17 (by decide +kernel) () (by unfold inN; split <;> first | rfl | (exfalso; omega)) trivial rfl
    · refine lv_iconst (v := nI 1) hx hb dX0_hasMother_12 (by decide +kernel) ?_
      refine lv_goto (tgt := 17) hx hb dX0_hasMother_13 (by decide) ?_
      exact rt_z hQ hx hb hr hlocks hW dX0_hasMother_17 (by decide +kernel) () (by unfold inN; split <;> first | rfl | (exfalso; omega)) trivial rfl
abbrev rmX0_hasChild : Room := { frames := 0, cells := 0, slots := 0, locals := 0 }
set_option maxRecDepth 100000 in
set_option maxHeartbeats 4000000 in
/-- hasChild: whether there is one of that number -/
theorem M_X0_hasChild (l : Launch) (D : va_G) (cI cJ : ClassId) (g G : Nat → Nat) (b : Nat) (hb30 : b < 2 ^ 30) (hG : OkG b G) (v : Int32) : CE E0 l D vwCl [(cI, .int), (cJ, .long)] yX0_hasChild wsX0_hasChild rmX0_hasChild [.ref (g 0), .int v] [gW cI g G] (S := Unit) (some (.int (nI (inN v (G 48))))) (fun _ => True) (fun _ : Unit => [gW cI g G]) 0 0 := by
  refine CE.ofW (cc := cX0_hasChild) (maxL := 2) (ret := (some .boolean)) (lv := [(0, .ref (g 0)), (1, .int v)]) (by decide) rfl (Nat.le_of_ble_eq_true rfl) rfl ?_
  intro p e s m args below meth c ls A Q hQ hx hb hml hr hlocks hnm hown hts hK hA hE hW hl
  have hown : s.vm.findClass RX0 = some m.cls := hown
  obtain ⟨hg0, hg8, hg16, hg16b, hg24, hg32, hg40, hg48⟩ := hG.s
  refine lv_iload_n hx hb dX0_hasChild_0 rfl (lv_at hl 1 rfl) ?_
  refine zz_zlt (tgt := 16) hx hb dX0_hasChild_1 (by decide) (rfl : v.toInt = v.toInt) (fun c1 => ?_) (fun c1 => ?_)
  · refine lv_iconst (v := nI 0) hx hb dX0_hasChild_16 (by decide +kernel) ?_
    exact rt_z hQ hx hb hr hlocks hW dX0_hasChild_17 (by decide +kernel) () (by unfold inN; split <;> first | rfl | (exfalso; omega)) trivial rfl
  · refine lv_iload_n hx hb dX0_hasChild_4 rfl (lv_at hl 1 rfl) ?_
    refine lv_aload_n hx hb dX0_hasChild_5 rfl (lv_at hl 0 rfl) ?_
    refine sg_get (ci := 0) (C := RX0) (T := TX0) (N := 14) (v := .int (nI (G 48))) hx hb hts (fun _ h => List.mem_cons_of_mem _ (List.mem_append_right _ h)) hown hK hW 0 0 rfl rfl rfl 10 (by decide) (hts _ (List.mem_of_getElem? (i := 1) rfl)) rfl dX0_hasChild_6 ?_
    refine zz_cge (tgt := 16) hx hb dX0_hasChild_9 (by decide) (rfl : v.toInt = v.toInt) (nI_toInt (n := G 48) (by omega)) (fun c9 => ?_) (fun c9 => ?_)
    · refine lv_iconst (v := nI 0) hx hb dX0_hasChild_16 (by decide +kernel) ?_
      exact rt_z hQ hx hb hr hlocks hW dX0_hasChild_17 (by decide +kernel) () (by unfold inN; split <;> first | rfl | (exfalso; omega)) trivial rfl
    · refine lv_iconst (v := nI 1) hx hb dX0_hasChild_12 (by decide +kernel) ?_
      refine lv_goto (tgt := 17) hx hb dX0_hasChild_13 (by decide) ?_
      exact rt_z hQ hx hb hr hlocks hW dX0_hasChild_17 (by decide +kernel) () (by unfold inN; split <;> first | rfl | (exfalso; omega)) trivial rfl
abbrev rmX0_minuteOfDay : Room := { frames := 0, cells := 0, slots := 0, locals := 0 }
set_option maxRecDepth 100000 in
set_option maxHeartbeats 4000000 in
theorem M_X0_minuteOfDay (l : Launch) (D : va_G) (cI cJ : ClassId) (g G : Nat → Nat) (b : Nat) (hb30 : b < 2 ^ 30) (hG : OkG b G) : CE E0 l D vwCl [(cI, .int), (cJ, .long)] yX0_minuteOfDay wsX0_minuteOfDay rmX0_minuteOfDay [.ref (g 0)] [gW cI g G] (S := Unit) (some (.int (nI (G 0 % 50)))) (fun _ => True) (fun _ : Unit => [gW cI g G]) 0 0 := by
  refine CE.ofW (cc := cX0_minuteOfDay) (maxL := 1) (ret := (some .int)) (lv := [(0, .ref (g 0))]) (by decide) rfl (Nat.le_of_ble_eq_true rfl) rfl ?_
  intro p e s m args below meth c ls A Q hQ hx hb hml hr hlocks hnm hown hts hK hA hE hW hl
  have hown : s.vm.findClass RX0 = some m.cls := hown
  obtain ⟨hg0, hg8, hg16, hg16b, hg24, hg32, hg40, hg48⟩ := hG.s
  refine lv_aload_n hx hb dX0_minuteOfDay_0 rfl (lv_at hl 0 rfl) ?_
  refine sg_get (ci := 0) (C := RX0) (T := TX0) (N := 14) (v := .int (nI (G 0))) hx hb hts (fun _ h => List.mem_cons_of_mem _ (List.mem_append_right _ h)) hown hK hW 0 0 rfl rfl rfl 0 (by decide) (hts _ (List.mem_of_getElem? (i := 1) rfl)) rfl dX0_minuteOfDay_1 ?_
  refine lv_bipush (v := nI 50) hx hb dX0_minuteOfDay_4 (by decide +kernel) ?_
  refine nn_rem hx hb dX0_minuteOfDay_6 (by omega) (by decide) (by decide) ?_
  exact rt_i hQ hx hb hr hlocks hW dX0_minuteOfDay_7 () rfl trivial rfl
abbrev rmX0_isNight : Room := { frames := 1, cells := 0, slots := 0, locals := 20 }
set_option maxRecDepth 100000 in
set_option maxHeartbeats 4000000 in
theorem M_X0_isNight (l : Launch) (D : va_G) (cI cJ : ClassId) (g G : Nat → Nat) (b : Nat) (hb30 : b < 2 ^ 30) (hG : OkG b G) : CE E0 l D vwCl [(cI, .int), (cJ, .long)] yX0_isNight wsX0_isNight rmX0_isNight [.ref (g 0)] [gW cI g G] (S := Unit) (some (.int (nI (nightN G)))) (fun _ => True) (fun _ : Unit => [gW cI g G]) 0 0 := by
  refine CE.ofW (cc := cX0_isNight) (maxL := 1) (ret := (some .boolean)) (lv := [(0, .ref (g 0))]) (by decide) rfl (Nat.le_of_ble_eq_true rfl) rfl ?_
  intro p e s m args below meth c ls A Q hQ hx hb hml hr hlocks hnm hown hts hK hA hE hW hl
  have hown : s.vm.findClass RX0 = some m.cls := hown
  obtain ⟨hg0, hg8, hg16, hg16b, hg24, hg32, hg40, hg48⟩ := hG.s
  refine lv_aload_n hx hb dX0_isNight_0 rfl (lv_at hl 0 rfl) ?_
  refine cl_Vi (As := []) (rest := []) (C := RX0) ⟨hx, hb, hml, hown, hts⟩ (M_X0_minuteOfDay l D cI cJ g G b hb30 hG) (cwV 0 hts gX0_isNight_X0_minuteOfDay rfl rfl rfl qX0_minuteOfDay ⟨Nat.le_of_ble_eq_true rfl, Nat.le_of_ble_eq_true rfl⟩) E0_good hK hA hW trivial [true] (fun _ => [gW cI g G]) rfl (fun _ => rfl) (fun _ => rfl) 0 0 rfl rfl rfl rfl hl.1 rfl (lv_room (Nat.le_of_ble_eq_true rfl)) dX0_isNight_1 ⟨Nat.zero_le _, Nat.zero_le _⟩ (fun _ H locs _ hW => ?_)
  refine lv_bipush (v := nI 40) hx hb dX0_isNight_4 (by decide +kernel) ?_
  refine nn_clt (tgt := 13) hx hb dX0_isNight_6 (by decide) (by omega) (by decide) (fun c6 => ?_) (fun c6 => ?_)
  · refine lv_iconst (v := nI 0) hx hb dX0_isNight_13 (by decide +kernel) ?_
    exact rt_z hQ hx hb hr hlocks hW dX0_isNight_14 (by decide +kernel) () (by unfold nightN; split <;> first | rfl | (exfalso; omega)) trivial rfl
  · refine lv_iconst (v := nI 1) hx hb dX0_isNight_9 (by decide +kernel) ?_
    refine lv_goto (tgt := 14) hx hb dX0_isNight_10 (by decide) ?_
    exact rt_z hQ hx hb hr hlocks hW dX0_isNight_14 (by decide +kernel) () (by unfold nightN; split <;> first | rfl | (exfalso; omega)) trivial rfl
abbrev rmX0_isWet : Room := { frames := 1, cells := 0, slots := 0, locals := 20 }
set_option maxRecDepth 100000 in
set_option maxHeartbeats 4000000 in
theorem M_X0_isWet (l : Launch) (D : va_G) (cI cJ : ClassId) (g G : Nat → Nat) (b : Nat) (hb30 : b < 2 ^ 30) (hG : OkG b G) : CE E0 l D vwCl [(cI, .int), (cJ, .long)] yX0_isWet wsX0_isWet rmX0_isWet [.ref (g 0)] [gW cI g G] (S := Unit) (some (.int (nI (wetN G)))) (fun _ => True) (fun _ : Unit => [gW cI g G]) 0 0 := by
  refine CE.ofW (cc := cX0_isWet) (maxL := 1) (ret := (some .boolean)) (lv := [(0, .ref (g 0))]) (by decide) rfl (Nat.le_of_ble_eq_true rfl) rfl ?_
  intro p e s m args below meth c ls A Q hQ hx hb hml hr hlocks hnm hown hts hK hA hE hW hl
  have hown : s.vm.findClass RX0 = some m.cls := hown
  obtain ⟨hg0, hg8, hg16, hg16b, hg24, hg32, hg40, hg48⟩ := hG.s
  refine lv_aload_n hx hb dX0_isWet_0 rfl (lv_at hl 0 rfl) ?_
  refine sg_get (ci := 0) (C := RX0) (T := TX0) (N := 14) (v := .int (nI (G 8))) hx hb hts (fun _ h => List.mem_cons_of_mem _ (List.mem_append_right _ h)) hown hK hW 0 0 rfl rfl rfl 1 (by decide) (hts _ (List.mem_of_getElem? (i := 1) rfl)) rfl dX0_isWet_1 ?_
  refine lv_aload_n hx hb dX0_isWet_4 rfl (lv_at hl 0 rfl) ?_
  refine cl_Vi (As := []) (rest := [.int (nI (G 8))]) (C := RX0) ⟨hx, hb, hml, hown, hts⟩ (M_X0_minuteOfDay l D cI cJ g G b hb30 hG) (cwV 0 hts gX0_isWet_X0_minuteOfDay rfl rfl rfl qX0_minuteOfDay ⟨Nat.le_of_ble_eq_true rfl, Nat.le_of_ble_eq_true rfl⟩) E0_good hK hA hW trivial [true] (fun _ => [gW cI g G]) rfl (fun _ => rfl) (fun _ => rfl) 0 0 rfl rfl rfl rfl hl.1 rfl (lv_room (Nat.le_of_ble_eq_true rfl)) dX0_isWet_5 ⟨Nat.zero_le _, Nat.zero_le _⟩ (fun _ H locs _ hW => ?_)
  refine lv_bipush (v := nI 10) hx hb dX0_isWet_8 (by decide +kernel) ?_
  refine nn_div hx hb dX0_isWet_10 (by omega) (by decide) (by decide) ?_
  refine nn_shr hx hb dX0_isWet_11 (by omega) (by omega) ?_
  refine lv_iconst (v := nI 1) hx hb dX0_isWet_12 (by decide +kernel) ?_
  refine nn_and hx hb dX0_isWet_13 ?_
  refine W.top (v' := .int (nI (G 8 / 2 ^ (G 0 % 50 / 10) % 2))) (by rw [Nat.and_one_is_mod]) ?_
  refine lv_iconst (v := nI 1) hx hb dX0_isWet_14 (by decide +kernel) ?_
  refine nn_cne (tgt := 22) hx hb dX0_isWet_15 (by decide) (by omega) (by decide) (fun c15 => ?_) (fun c15 => ?_)
  · refine lv_iconst (v := nI 0) hx hb dX0_isWet_22 (by decide +kernel) ?_
    exact rt_z hQ hx hb hr hlocks hW dX0_isWet_23 (by decide +kernel) () (by unfold wetN; congr 3 <;> omega) trivial rfl
  · refine lv_iconst (v := nI 1) hx hb dX0_isWet_18 (by decide +kernel) ?_
    refine lv_goto (tgt := 23) hx hb dX0_isWet_19 (by decide) ?_
    exact rt_z hQ hx hb hr hlocks hW dX0_isWet_23 (by decide +kernel) () (by unfold wetN; congr 3 <;> omega) trivial rfl
abbrev rmX0_outCount : Room := { frames := 0, cells := 0, slots := 0, locals := 0 }
set_option maxRecDepth 100000 in
set_option maxHeartbeats 4000000 in
theorem M_X0_outCount (l : Launch) (D : va_G) (cI cJ : ClassId) (g G : Nat → Nat) (b : Nat) (hb30 : b < 2 ^ 30) (hG : OkG b G) : CE E0 l D vwCl [(cI, .int), (cJ, .long)] yX0_outCount wsX0_outCount rmX0_outCount [.ref (g 0)] [gW cI g G] (S := Unit) (some (.int (nI (outC G)))) (fun _ => True) (fun _ : Unit => [gW cI g G]) 0 0 := by
  refine CE.ofW (cc := cX0_outCount) (maxL := 3) (ret := (some .int)) (lv := [(0, .ref (g 0))]) (by decide) rfl (Nat.le_of_ble_eq_true rfl) rfl ?_
  intro p e s m args below meth c ls A Q hQ hx hb hml hr hlocks hnm hown hts hK hA hE hW hl
  have hown : s.vm.findClass RX0 = some m.cls := hown
  obtain ⟨hg0, hg8, hg16, hg16b, hg24, hg32, hg40, hg48⟩ := hG.s
  refine lv_iconst (v := nI 0) hx hb dX0_outCount_0 (by decide +kernel) ?_
  refine lv_istore_n (lv' := [(1, .int (nI 0)), (0, .ref (g 0))]) hx hb dX0_outCount_1 rfl hl (by decide) rfl (fun ls hl => ?_)
  refine lv_iconst (v := nI 0) hx hb dX0_outCount_2 (by decide +kernel) ?_
  refine lv_istore_n (lv' := [(2, .int (nI 0)), (1, .int (nI 0)), (0, .ref (g 0))]) hx hb dX0_outCount_3 rfl hl (by decide) rfl (fun ls hl => ?_)
  have lp4 : ∀ (n : Nat) (i : Nat), G 40 - i < n → i ≤ G 40 → ∀ (H : Heap) (locs : List Loc), Wo D vwCl A s.heap H locs [gW cI g G] → ∀ ls : Array Slot, lv_has ls 3 [(2, .int (nI i)), (1, .int (nI (sumN (fun i => G (8 * i + 2)) i))), (0, .ref (g 0))] → W p l e rmX0_outCount s m args below meth c H locs 0 0 Q (F0 m 4 ls []) := by
    intro n
    induction n with
    | zero => intro i hm; exact absurd hm (Nat.not_lt_zero _)
    | succ n ih =>
      intro i hm hi H locs hW ls hl
      have hmi : ∀ j, j < i → G (8 * j + 2) ≤ 1 := fun j hj => (hG.m j (by omega)).2.1
      refine lv_iload_n hx hb dX0_outCount_4 rfl (lv_at hl 0 rfl) ?_
      refine lv_aload_n hx hb dX0_outCount_5 rfl (lv_at hl 2 rfl) ?_
      refine sg_get (ci := 0) (C := RX0) (T := TX0) (N := 14) (v := .int (nI (G 40))) hx hb hts (fun _ h => List.mem_cons_of_mem _ (List.mem_append_right _ h)) hown hK hW 0 0 rfl rfl rfl 5 (by decide) (hts _ (List.mem_of_getElem? (i := 1) rfl)) rfl dX0_outCount_6 ?_
      refine nn_cge (tgt := 27) hx hb dX0_outCount_9 (by decide) (by omega) (by omega) (fun c9 => ?_) (fun c9 => ?_)
      · refine lv_iload_n hx hb dX0_outCount_27 rfl (lv_at hl 1 rfl) ?_
        exact rt_i hQ hx hb hr hlocks hW dX0_outCount_28 () (by rw [show i = G 40 by omega]; rfl) trivial rfl
      · refine lv_iload_n hx hb dX0_outCount_12 rfl (lv_at hl 1 rfl) ?_
        refine lv_aload_n hx hb dX0_outCount_13 rfl (lv_at hl 2 rfl) ?_
        refine sg_get (ci := 0) (C := RX0) (T := TX0) (N := 14) (v := .ref (g 2)) hx hb hts (fun _ h => List.mem_cons_of_mem _ (List.mem_append_right _ h)) hown hK hW 0 0 rfl rfl rfl 7 (by decide) (hts _ (List.mem_of_getElem? (i := 2) rfl)) rfl dX0_outCount_14 ?_
        refine lv_iload_n hx hb dX0_outCount_17 rfl (lv_at hl 0 rfl) ?_
        refine sg_ild (v := nI (G (8 * i + 2))) hx hb hK hW 0 2 0 rfl rfl rfl (by omega) (by decide) rfl dX0_outCount_18 ?_
        refine nn_add hx hb dX0_outCount_19 ?_
        refine lv_istore_n (lv' := [(1, .int (nI ((sumN (fun i => G (8 * i + 2)) i) + (G (8 * i + 2))))), (2, .int (nI i)), (0, .ref (g 0))]) hx hb dX0_outCount_20 rfl hl (by decide) rfl (fun ls hl => ?_)
        refine lv_iinc (v := nI (i + 1)) (lv' := [(2, .int (nI (i + 1))), (1, .int (nI ((sumN (fun i => G (8 * i + 2)) i) + (G (8 * i + 2))))), (0, .ref (g 0))]) hx hb dX0_outCount_21 hl (k := 1) rfl (nI_add _ 1) (by decide) rfl (fun ls hl => ?_)
        refine lv_goto (tgt := 4) hx hb dX0_outCount_24 (by decide) ?_
        exact ih (i + 1) (by omega) (by omega) _ _ hW _ (lv_sub hl [0, 1, 2] rfl)
  exact lp4 (G 40 - 0 + 1) 0 (Nat.lt_succ_self _) (by omega) _ _ hW _ (lv_sub hl [0, 1, 2] rfl)
abbrev rmX0_outSet : Room := { frames := 0, cells := 0, slots := 0, locals := 0 }
set_option maxRecDepth 100000 in
set_option maxHeartbeats 4000000 in
theorem M_X0_outSet (l : Launch) (D : va_G) (cI cJ : ClassId) (g G : Nat → Nat) (b : Nat) (hb30 : b < 2 ^ 30) (hG : OkG b G) : CE E0 l D vwCl [(cI, .int), (cJ, .long)] yX0_outSet wsX0_outSet rmX0_outSet [.ref (g 0)] [gW cI g G] (S := Unit) (some (.int (nI (outS G)))) (fun _ => True) (fun _ : Unit => [gW cI g G]) 0 0 := by
  refine CE.ofW (cc := cX0_outSet) (maxL := 3) (ret := (some .int)) (lv := [(0, .ref (g 0))]) (by decide) rfl (Nat.le_of_ble_eq_true rfl) rfl ?_
  intro p e s m args below meth c ls A Q hQ hx hb hml hr hlocks hnm hown hts hK hA hE hW hl
  have hown : s.vm.findClass RX0 = some m.cls := hown
  obtain ⟨hg0, hg8, hg16, hg16b, hg24, hg32, hg40, hg48⟩ := hG.s
  refine lv_iconst (v := nI 0) hx hb dX0_outSet_0 (by decide +kernel) ?_
  refine lv_istore_n (lv' := [(1, .int (nI 0)), (0, .ref (g 0))]) hx hb dX0_outSet_1 rfl hl (by decide) rfl (fun ls hl => ?_)
  refine lv_iconst (v := nI 0) hx hb dX0_outSet_2 (by decide +kernel) ?_
  refine lv_istore_n (lv' := [(2, .int (nI 0)), (1, .int (nI 0)), (0, .ref (g 0))]) hx hb dX0_outSet_3 rfl hl (by decide) rfl (fun ls hl => ?_)
  have lp4 : ∀ (n : Nat) (i : Nat), G 40 - i < n → i ≤ G 40 → ∀ (H : Heap) (locs : List Loc), Wo D vwCl A s.heap H locs [gW cI g G] → ∀ ls : Array Slot, lv_has ls 3 [(2, .int (nI i)), (1, .int (nI (setN (fun i => G (8 * i + 2)) i))), (0, .ref (g 0))] → W p l e rmX0_outSet s m args below meth c H locs 0 0 Q (F0 m 4 ls []) := by
    intro n
    induction n with
    | zero => intro i hm; exact absurd hm (Nat.not_lt_zero _)
    | succ n ih =>
      intro i hm hi H locs hW ls hl
      have hmi : ∀ j, j < i → G (8 * j + 2) ≤ 1 := fun j hj => (hG.m j (by omega)).2.1
      refine lv_iload_n hx hb dX0_outSet_4 rfl (lv_at hl 0 rfl) ?_
      refine lv_aload_n hx hb dX0_outSet_5 rfl (lv_at hl 2 rfl) ?_
      refine sg_get (ci := 0) (C := RX0) (T := TX0) (N := 14) (v := .int (nI (G 40))) hx hb hts (fun _ h => List.mem_cons_of_mem _ (List.mem_append_right _ h)) hown hK hW 0 0 rfl rfl rfl 5 (by decide) (hts _ (List.mem_of_getElem? (i := 1) rfl)) rfl dX0_outSet_6 ?_
      refine nn_cge (tgt := 29) hx hb dX0_outSet_9 (by decide) (by omega) (by omega) (fun c9 => ?_) (fun c9 => ?_)
      · refine lv_iload_n hx hb dX0_outSet_29 rfl (lv_at hl 1 rfl) ?_
        exact rt_i hQ hx hb hr hlocks hW dX0_outSet_30 () (by rw [show i = G 40 by omega]; rfl) trivial rfl
      · refine lv_iload_n hx hb dX0_outSet_12 rfl (lv_at hl 1 rfl) ?_
        refine lv_aload_n hx hb dX0_outSet_13 rfl (lv_at hl 2 rfl) ?_
        refine sg_get (ci := 0) (C := RX0) (T := TX0) (N := 14) (v := .ref (g 2)) hx hb hts (fun _ h => List.mem_cons_of_mem _ (List.mem_append_right _ h)) hown hK hW 0 0 rfl rfl rfl 7 (by decide) (hts _ (List.mem_of_getElem? (i := 2) rfl)) rfl dX0_outSet_14 ?_
        refine lv_iload_n hx hb dX0_outSet_17 rfl (lv_at hl 0 rfl) ?_
        refine sg_ild (v := nI (G (8 * i + 2))) hx hb hK hW 0 2 0 rfl rfl rfl (by omega) (by decide) rfl dX0_outSet_18 ?_
        refine lv_iload_n hx hb dX0_outSet_19 rfl (lv_at hl 0 rfl) ?_
        refine nn_shl hx hb dX0_outSet_20 (by omega) ?_
        refine nn_or hx hb dX0_outSet_21 ?_
        refine W.top (v' := .int (nI (setN (fun i => G (8 * i + 2)) (i + 1)))) (congrArg (fun z => Value.int (nI z)) (setN_or (f := (fun i => G (8 * i + 2))) (n := i) hmi)) ?_
        refine lv_istore_n (lv' := [(1, .int (nI (setN (fun i => G (8 * i + 2)) (i + 1)))), (2, .int (nI i)), (0, .ref (g 0))]) hx hb dX0_outSet_22 rfl hl (by decide) rfl (fun ls hl => ?_)
        refine lv_iinc (v := nI (i + 1)) (lv' := [(2, .int (nI (i + 1))), (1, .int (nI (setN (fun i => G (8 * i + 2)) (i + 1)))), (0, .ref (g 0))]) hx hb dX0_outSet_23 hl (k := 1) rfl (nI_add _ 1) (by decide) rfl (fun ls hl => ?_)
        refine lv_goto (tgt := 4) hx hb dX0_outSet_26 (by decide) ?_
        exact ih (i + 1) (by omega) (by omega) _ _ hW _ (lv_sub hl [0, 1, 2] rfl)
  exact lp4 (G 40 - 0 + 1) 0 (Nat.lt_succ_self _) (by omega) _ _ hW _ (lv_sub hl [0, 1, 2] rfl)
abbrev rmX0_onCount : Room := { frames := 0, cells := 0, slots := 0, locals := 0 }
set_option maxRecDepth 100000 in
set_option maxHeartbeats 4000000 in
theorem M_X0_onCount (l : Launch) (D : va_G) (cI cJ : ClassId) (g G : Nat → Nat) (b : Nat) (hb30 : b < 2 ^ 30) (hG : OkG b G) : CE E0 l D vwCl [(cI, .int), (cJ, .long)] yX0_onCount wsX0_onCount rmX0_onCount [.ref (g 0)] [gW cI g G] (S := Unit) (some (.int (nI (onC G)))) (fun _ => True) (fun _ : Unit => [gW cI g G]) 0 0 := by
  refine CE.ofW (cc := cX0_onCount) (maxL := 3) (ret := (some .int)) (lv := [(0, .ref (g 0))]) (by decide) rfl (Nat.le_of_ble_eq_true rfl) rfl ?_
  intro p e s m args below meth c ls A Q hQ hx hb hml hr hlocks hnm hown hts hK hA hE hW hl
  have hown : s.vm.findClass RX0 = some m.cls := hown
  obtain ⟨hg0, hg8, hg16, hg16b, hg24, hg32, hg40, hg48⟩ := hG.s
  refine lv_iconst (v := nI 0) hx hb dX0_onCount_0 (by decide +kernel) ?_
  refine lv_istore_n (lv' := [(1, .int (nI 0)), (0, .ref (g 0))]) hx hb dX0_onCount_1 rfl hl (by decide) rfl (fun ls hl => ?_)
  refine lv_iconst (v := nI 0) hx hb dX0_onCount_2 (by decide +kernel) ?_
  refine lv_istore_n (lv' := [(2, .int (nI 0)), (1, .int (nI 0)), (0, .ref (g 0))]) hx hb dX0_onCount_3 rfl hl (by decide) rfl (fun ls hl => ?_)
  have lp4 : ∀ (n : Nat) (i : Nat), G 48 - i < n → i ≤ G 48 → ∀ (H : Heap) (locs : List Loc), Wo D vwCl A s.heap H locs [gW cI g G] → ∀ ls : Array Slot, lv_has ls 3 [(2, .int (nI i)), (1, .int (nI (sumN (fun i => G (8 * i + 6)) i))), (0, .ref (g 0))] → W p l e rmX0_onCount s m args below meth c H locs 0 0 Q (F0 m 4 ls []) := by
    intro n
    induction n with
    | zero => intro i hm; exact absurd hm (Nat.not_lt_zero _)
    | succ n ih =>
      intro i hm hi H locs hW ls hl
      have hmi : ∀ j, j < i → G (8 * j + 6) ≤ 1 := fun j hj => (hG.c j (by omega)).2.1
      refine lv_iload_n hx hb dX0_onCount_4 rfl (lv_at hl 0 rfl) ?_
      refine lv_aload_n hx hb dX0_onCount_5 rfl (lv_at hl 2 rfl) ?_
      refine sg_get (ci := 0) (C := RX0) (T := TX0) (N := 14) (v := .int (nI (G 48))) hx hb hts (fun _ h => List.mem_cons_of_mem _ (List.mem_append_right _ h)) hown hK hW 0 0 rfl rfl rfl 10 (by decide) (hts _ (List.mem_of_getElem? (i := 1) rfl)) rfl dX0_onCount_6 ?_
      refine nn_cge (tgt := 27) hx hb dX0_onCount_9 (by decide) (by omega) (by omega) (fun c9 => ?_) (fun c9 => ?_)
      · refine lv_iload_n hx hb dX0_onCount_27 rfl (lv_at hl 1 rfl) ?_
        exact rt_i hQ hx hb hr hlocks hW dX0_onCount_28 () (by rw [show i = G 48 by omega]; rfl) trivial rfl
      · refine lv_iload_n hx hb dX0_onCount_12 rfl (lv_at hl 1 rfl) ?_
        refine lv_aload_n hx hb dX0_onCount_13 rfl (lv_at hl 2 rfl) ?_
        refine sg_get (ci := 0) (C := RX0) (T := TX0) (N := 14) (v := .ref (g 6)) hx hb hts (fun _ h => List.mem_cons_of_mem _ (List.mem_append_right _ h)) hown hK hW 0 0 rfl rfl rfl 12 (by decide) (hts _ (List.mem_of_getElem? (i := 2) rfl)) rfl dX0_onCount_14 ?_
        refine lv_iload_n hx hb dX0_onCount_17 rfl (lv_at hl 0 rfl) ?_
        refine sg_ild (v := nI (G (8 * i + 6))) hx hb hK hW 0 6 0 rfl rfl rfl (by omega) (by decide) rfl dX0_onCount_18 ?_
        refine nn_add hx hb dX0_onCount_19 ?_
        refine lv_istore_n (lv' := [(1, .int (nI ((sumN (fun i => G (8 * i + 6)) i) + (G (8 * i + 6))))), (2, .int (nI i)), (0, .ref (g 0))]) hx hb dX0_onCount_20 rfl hl (by decide) rfl (fun ls hl => ?_)
        refine lv_iinc (v := nI (i + 1)) (lv' := [(2, .int (nI (i + 1))), (1, .int (nI ((sumN (fun i => G (8 * i + 6)) i) + (G (8 * i + 6))))), (0, .ref (g 0))]) hx hb dX0_onCount_21 hl (k := 1) rfl (nI_add _ 1) (by decide) rfl (fun ls hl => ?_)
        refine lv_goto (tgt := 4) hx hb dX0_onCount_24 (by decide) ?_
        exact ih (i + 1) (by omega) (by omega) _ _ hW _ (lv_sub hl [0, 1, 2] rfl)
  exact lp4 (G 48 - 0 + 1) 0 (Nat.lt_succ_self _) (by omega) _ _ hW _ (lv_sub hl [0, 1, 2] rfl)
abbrev rmX0_onSet : Room := { frames := 0, cells := 0, slots := 0, locals := 0 }
set_option maxRecDepth 100000 in
set_option maxHeartbeats 4000000 in
theorem M_X0_onSet (l : Launch) (D : va_G) (cI cJ : ClassId) (g G : Nat → Nat) (b : Nat) (hb30 : b < 2 ^ 30) (hG : OkG b G) : CE E0 l D vwCl [(cI, .int), (cJ, .long)] yX0_onSet wsX0_onSet rmX0_onSet [.ref (g 0)] [gW cI g G] (S := Unit) (some (.int (nI (onS G)))) (fun _ => True) (fun _ : Unit => [gW cI g G]) 0 0 := by
  refine CE.ofW (cc := cX0_onSet) (maxL := 3) (ret := (some .int)) (lv := [(0, .ref (g 0))]) (by decide) rfl (Nat.le_of_ble_eq_true rfl) rfl ?_
  intro p e s m args below meth c ls A Q hQ hx hb hml hr hlocks hnm hown hts hK hA hE hW hl
  have hown : s.vm.findClass RX0 = some m.cls := hown
  obtain ⟨hg0, hg8, hg16, hg16b, hg24, hg32, hg40, hg48⟩ := hG.s
  refine lv_iconst (v := nI 0) hx hb dX0_onSet_0 (by decide +kernel) ?_
  refine lv_istore_n (lv' := [(1, .int (nI 0)), (0, .ref (g 0))]) hx hb dX0_onSet_1 rfl hl (by decide) rfl (fun ls hl => ?_)
  refine lv_iconst (v := nI 0) hx hb dX0_onSet_2 (by decide +kernel) ?_
  refine lv_istore_n (lv' := [(2, .int (nI 0)), (1, .int (nI 0)), (0, .ref (g 0))]) hx hb dX0_onSet_3 rfl hl (by decide) rfl (fun ls hl => ?_)
  have lp4 : ∀ (n : Nat) (i : Nat), G 48 - i < n → i ≤ G 48 → ∀ (H : Heap) (locs : List Loc), Wo D vwCl A s.heap H locs [gW cI g G] → ∀ ls : Array Slot, lv_has ls 3 [(2, .int (nI i)), (1, .int (nI (setN (fun i => G (8 * i + 6)) i))), (0, .ref (g 0))] → W p l e rmX0_onSet s m args below meth c H locs 0 0 Q (F0 m 4 ls []) := by
    intro n
    induction n with
    | zero => intro i hm; exact absurd hm (Nat.not_lt_zero _)
    | succ n ih =>
      intro i hm hi H locs hW ls hl
      have hmi : ∀ j, j < i → G (8 * j + 6) ≤ 1 := fun j hj => (hG.c j (by omega)).2.1
      refine lv_iload_n hx hb dX0_onSet_4 rfl (lv_at hl 0 rfl) ?_
      refine lv_aload_n hx hb dX0_onSet_5 rfl (lv_at hl 2 rfl) ?_
      refine sg_get (ci := 0) (C := RX0) (T := TX0) (N := 14) (v := .int (nI (G 48))) hx hb hts (fun _ h => List.mem_cons_of_mem _ (List.mem_append_right _ h)) hown hK hW 0 0 rfl rfl rfl 10 (by decide) (hts _ (List.mem_of_getElem? (i := 1) rfl)) rfl dX0_onSet_6 ?_
      refine nn_cge (tgt := 29) hx hb dX0_onSet_9 (by decide) (by omega) (by omega) (fun c9 => ?_) (fun c9 => ?_)
      · refine lv_iload_n hx hb dX0_onSet_29 rfl (lv_at hl 1 rfl) ?_
        exact rt_i hQ hx hb hr hlocks hW dX0_onSet_30 () (by rw [show i = G 48 by omega]; rfl) trivial rfl
      · refine lv_iload_n hx hb dX0_onSet_12 rfl (lv_at hl 1 rfl) ?_
        refine lv_aload_n hx hb dX0_onSet_13 rfl (lv_at hl 2 rfl) ?_
        refine sg_get (ci := 0) (C := RX0) (T := TX0) (N := 14) (v := .ref (g 6)) hx hb hts (fun _ h => List.mem_cons_of_mem _ (List.mem_append_right _ h)) hown hK hW 0 0 rfl rfl rfl 12 (by decide) (hts _ (List.mem_of_getElem? (i := 2) rfl)) rfl dX0_onSet_14 ?_
        refine lv_iload_n hx hb dX0_onSet_17 rfl (lv_at hl 0 rfl) ?_
        refine sg_ild (v := nI (G (8 * i + 6))) hx hb hK hW 0 6 0 rfl rfl rfl (by omega) (by decide) rfl dX0_onSet_18 ?_
        refine lv_iload_n hx hb dX0_onSet_19 rfl (lv_at hl 0 rfl) ?_
        refine nn_shl hx hb dX0_onSet_20 (by omega) ?_
        refine nn_or hx hb dX0_onSet_21 ?_
        refine W.top (v' := .int (nI (setN (fun i => G (8 * i + 6)) (i + 1)))) (congrArg (fun z => Value.int (nI z)) (setN_or (f := (fun i => G (8 * i + 6))) (n := i) hmi)) ?_
        refine lv_istore_n (lv' := [(1, .int (nI (setN (fun i => G (8 * i + 6)) (i + 1)))), (2, .int (nI i)), (0, .ref (g 0))]) hx hb dX0_onSet_22 rfl hl (by decide) rfl (fun ls hl => ?_)
        refine lv_iinc (v := nI (i + 1)) (lv' := [(2, .int (nI (i + 1))), (1, .int (nI (setN (fun i => G (8 * i + 6)) (i + 1)))), (0, .ref (g 0))]) hx hb dX0_onSet_23 hl (k := 1) rfl (nI_add _ 1) (by decide) rfl (fun ls hl => ?_)
        refine lv_goto (tgt := 4) hx hb dX0_onSet_26 (by decide) ?_
        exact ih (i + 1) (by omega) (by omega) _ _ hW _ (lv_sub hl [0, 1, 2] rfl)
  exact lp4 (G 48 - 0 + 1) 0 (Nat.lt_succ_self _) (by omega) _ _ hW _ (lv_sub hl [0, 1, 2] rfl)
abbrev rmX0_flingsOfAll : Room := { frames := 0, cells := 0, slots := 0, locals := 0 }
set_option maxRecDepth 100000 in
set_option maxHeartbeats 4000000 in
theorem M_X0_flingsOfAll (l : Launch) (D : va_G) (cI cJ : ClassId) (g G : Nat → Nat) (b : Nat) (hb30 : b < 2 ^ 30) (hG : OkG b G) : CE E0 l D vwCl [(cI, .int), (cJ, .long)] yX0_flingsOfAll wsX0_flingsOfAll rmX0_flingsOfAll [.ref (g 0)] [gW cI g G] (S := Unit) (some (.int (nI (flC G)))) (fun _ => True) (fun _ : Unit => [gW cI g G]) 0 0 := by
  refine CE.ofW (cc := cX0_flingsOfAll) (maxL := 3) (ret := (some .int)) (lv := [(0, .ref (g 0))]) (by decide) rfl (Nat.le_of_ble_eq_true rfl) rfl ?_
  intro p e s m args below meth c ls A Q hQ hx hb hml hr hlocks hnm hown hts hK hA hE hW hl
  have hown : s.vm.findClass RX0 = some m.cls := hown
  obtain ⟨hg0, hg8, hg16, hg16b, hg24, hg32, hg40, hg48⟩ := hG.s
  refine lv_iconst (v := nI 0) hx hb dX0_flingsOfAll_0 (by decide +kernel) ?_
  refine lv_istore_n (lv' := [(1, .int (nI 0)), (0, .ref (g 0))]) hx hb dX0_flingsOfAll_1 rfl hl (by decide) rfl (fun ls hl => ?_)
  refine lv_iconst (v := nI 0) hx hb dX0_flingsOfAll_2 (by decide +kernel) ?_
  refine lv_istore_n (lv' := [(2, .int (nI 0)), (1, .int (nI 0)), (0, .ref (g 0))]) hx hb dX0_flingsOfAll_3 rfl hl (by decide) rfl (fun ls hl => ?_)
  have lp4 : ∀ (n : Nat) (i : Nat), G 48 - i < n → i ≤ G 48 → ∀ (H : Heap) (locs : List Loc), Wo D vwCl A s.heap H locs [gW cI g G] → ∀ ls : Array Slot, lv_has ls 3 [(2, .int (nI i)), (1, .int (nI (sumN (fun i => G (8 * i + 7)) i))), (0, .ref (g 0))] → W p l e rmX0_flingsOfAll s m args below meth c H locs 0 0 Q (F0 m 4 ls []) := by
    intro n
    induction n with
    | zero => intro i hm; exact absurd hm (Nat.not_lt_zero _)
    | succ n ih =>
      intro i hm hi H locs hW ls hl
      have hmi : ∀ j, j < i → G (8 * j + 7) ≤ 9999 := fun j hj => (hG.c j (by omega)).2.2
      refine lv_iload_n hx hb dX0_flingsOfAll_4 rfl (lv_at hl 0 rfl) ?_
      refine lv_aload_n hx hb dX0_flingsOfAll_5 rfl (lv_at hl 2 rfl) ?_
      refine sg_get (ci := 0) (C := RX0) (T := TX0) (N := 14) (v := .int (nI (G 48))) hx hb hts (fun _ h => List.mem_cons_of_mem _ (List.mem_append_right _ h)) hown hK hW 0 0 rfl rfl rfl 10 (by decide) (hts _ (List.mem_of_getElem? (i := 1) rfl)) rfl dX0_flingsOfAll_6 ?_
      refine nn_cge (tgt := 27) hx hb dX0_flingsOfAll_9 (by decide) (by omega) (by omega) (fun c9 => ?_) (fun c9 => ?_)
      · refine lv_iload_n hx hb dX0_flingsOfAll_27 rfl (lv_at hl 1 rfl) ?_
        exact rt_i hQ hx hb hr hlocks hW dX0_flingsOfAll_28 () (by rw [show i = G 48 by omega]; rfl) trivial rfl
      · refine lv_iload_n hx hb dX0_flingsOfAll_12 rfl (lv_at hl 1 rfl) ?_
        refine lv_aload_n hx hb dX0_flingsOfAll_13 rfl (lv_at hl 2 rfl) ?_
        refine sg_get (ci := 0) (C := RX0) (T := TX0) (N := 14) (v := .ref (g 7)) hx hb hts (fun _ h => List.mem_cons_of_mem _ (List.mem_append_right _ h)) hown hK hW 0 0 rfl rfl rfl 13 (by decide) (hts _ (List.mem_of_getElem? (i := 2) rfl)) rfl dX0_flingsOfAll_14 ?_
        refine lv_iload_n hx hb dX0_flingsOfAll_17 rfl (lv_at hl 0 rfl) ?_
        refine sg_ild (v := nI (G (8 * i + 7))) hx hb hK hW 0 7 0 rfl rfl rfl (by omega) (by decide) rfl dX0_flingsOfAll_18 ?_
        refine nn_add hx hb dX0_flingsOfAll_19 ?_
        refine lv_istore_n (lv' := [(1, .int (nI ((sumN (fun i => G (8 * i + 7)) i) + (G (8 * i + 7))))), (2, .int (nI i)), (0, .ref (g 0))]) hx hb dX0_flingsOfAll_20 rfl hl (by decide) rfl (fun ls hl => ?_)
        refine lv_iinc (v := nI (i + 1)) (lv' := [(2, .int (nI (i + 1))), (1, .int (nI ((sumN (fun i => G (8 * i + 7)) i) + (G (8 * i + 7))))), (0, .ref (g 0))]) hx hb dX0_flingsOfAll_21 hl (k := 1) rfl (nI_add _ 1) (by decide) rfl (fun ls hl => ?_)
        refine lv_goto (tgt := 4) hx hb dX0_flingsOfAll_24 (by decide) ?_
        exact ih (i + 1) (by omega) (by omega) _ _ hW _ (lv_sub hl [0, 1, 2] rfl)
  exact lp4 (G 48 - 0 + 1) 0 (Nat.lt_succ_self _) (by omega) _ _ hW _ (lv_sub hl [0, 1, 2] rfl)
abbrev rmX0_weightNow : Room := { frames := 1, cells := 0, slots := 0, locals := 22 }
set_option maxRecDepth 100000 in
set_option maxHeartbeats 4000000 in
theorem M_X0_weightNow (l : Launch) (D : va_G) (cI cJ : ClassId) (g G : Nat → Nat) (b : Nat) (hb30 : b < 2 ^ 30) (hG : OkG b G) : CE E0 l D vwCl [(cI, .int), (cJ, .long)] yX0_weightNow wsX0_weightNow rmX0_weightNow [.ref (g 0)] [gW cI g G] (S := Unit) (some (.int (nI (weightN G)))) (fun _ => True) (fun _ : Unit => [gW cI g G]) 0 0 := by
  refine CE.ofW (cc := cX0_weightNow) (maxL := 1) (ret := (some .int)) (lv := [(0, .ref (g 0))]) (by decide) rfl (Nat.le_of_ble_eq_true rfl) rfl ?_
  intro p e s m args below meth c ls A Q hQ hx hb hml hr hlocks hnm hown hts hK hA hE hW hl
  have hown : s.vm.findClass RX0 = some m.cls := hown
  obtain ⟨hg0, hg8, hg16, hg16b, hg24, hg32, hg40, hg48⟩ := hG.s
  refine lv_aload_n hx hb dX0_weightNow_0 rfl (lv_at hl 0 rfl) ?_
  refine sg_get (ci := 0) (C := RX0) (T := TX0) (N := 14) (v := .int (nI (G 16))) hx hb hts (fun _ h => List.mem_cons_of_mem _ (List.mem_append_right _ h)) hown hK hW 0 0 rfl rfl rfl 2 (by decide) (hts _ (List.mem_of_getElem? (i := 1) rfl)) rfl dX0_weightNow_1 ?_
  refine lv_iconst (v := nI 2) hx hb dX0_weightNow_4 (by decide +kernel) ?_
  refine lv_aload_n hx hb dX0_weightNow_5 rfl (lv_at hl 0 rfl) ?_
  refine cl_Vi (As := []) (rest := [.int (nI 2), .int (nI (G 16))]) (C := RX0) ⟨hx, hb, hml, hown, hts⟩ (M_X0_onCount l D cI cJ g G b hb30 hG) (cwV 0 hts gX0_weightNow_X0_onCount rfl rfl rfl qX0_onCount ⟨Nat.le_of_ble_eq_true rfl, Nat.le_of_ble_eq_true rfl⟩) E0_good hK hA hW trivial [true] (fun _ => [gW cI g G]) rfl (fun _ => rfl) (fun _ => rfl) 0 0 rfl rfl rfl rfl hl.1 rfl (lv_room (Nat.le_of_ble_eq_true rfl)) dX0_weightNow_6 ⟨Nat.zero_le _, Nat.zero_le _⟩ (fun _ H locs _ hW => ?_)
  refine nn_mul hx hb dX0_weightNow_9 ?_
  refine nn_add hx hb dX0_weightNow_10 ?_
  exact rt_i hQ hx hb hr hlocks hW dX0_weightNow_11 () rfl trivial rfl
abbrev rmX1_isKind : Room := { frames := 0, cells := 0, slots := 0, locals := 0 }
set_option maxRecDepth 100000 in
set_option maxHeartbeats 4000000 in
theorem M_X1_isKind (l : Launch) (D : va_G) (cI cJ : ClassId) (v : Int32) : CE E0 l D vwCl [(cI, .int), (cJ, .long)] yX1_isKind wsX1_isKind rmX1_isKind [.int v] [] (S := Unit) (some (.int (nI (inN v 6)))) (fun _ => True) (fun _ : Unit => []) 0 0 := by
  refine CE.ofW (cc := cX1_isKind) (maxL := 1) (ret := (some .boolean)) (lv := [(0, .int v)]) (by decide) rfl (Nat.le_of_ble_eq_true rfl) rfl ?_
  intro p e s m args below meth c ls A Q hQ hx hb hml hr hlocks hnm hown hts hK hA hE hW hl
  have hown : s.vm.findClass RX1 = some m.cls := hown
  refine lv_iload_n hx hb dX1_isKind_0 rfl (lv_at hl 0 rfl) ?_
  refine zz_zlt (tgt := 14) hx hb dX1_isKind_1 (by decide) (rfl : v.toInt = v.toInt) (fun c1 => ?_) (fun c1 => ?_)
  · refine lv_iconst (v := nI 0) hx hb dX1_isKind_14 (by decide +kernel) ?_
    exact rt_z hQ hx hb hr hlocks hW dX1_isKind_15 (by decide +kernel) () (by unfold inN; split <;> first | rfl | (exfalso; omega)) trivial rfl
  · refine lv_iload_n hx hb dX1_isKind_4 rfl (lv_at hl 0 rfl) ?_
    refine lv_bipush (v := nI 6) hx hb dX1_isKind_5 (by decide +kernel) ?_
    refine zz_cge (tgt := 14) hx hb dX1_isKind_7 (by decide) (rfl : v.toInt = v.toInt) (nI_toInt (n := 6) (by decide)) (fun c7 => ?_) (fun c7 => ?_)
    · refine lv_iconst (v := nI 0) hx hb dX1_isKind_14 (by decide +kernel) ?_
      exact rt_z hQ hx hb hr hlocks hW dX1_isKind_15 (by decide +kernel) () (by unfold inN; split <;> first | rfl | (exfalso; omega)) trivial rfl
    · refine lv_iconst (v := nI 1) hx hb dX1_isKind_10 (by decide +kernel) ?_
      refine lv_goto (tgt := 15) hx hb dX1_isKind_11 (by decide) ?_
      exact rt_z hQ hx hb hr hlocks hW dX1_isKind_15 (by decide +kernel) () (by unfold inN; split <;> first | rfl | (exfalso; omega)) trivial rfl
def aboveK (k : Nat) : Nat := if k = 4 then 1 else if k = 5 then 2 else 0
def underN (k j : Nat) : Nat := if k = j ∨ j = 0 ∨ aboveK k = j then 1 else 0
theorem aboveK_le (k : Nat) : aboveK k ≤ 2 := by unfold aboveK; (repeat' split) <;> omega
abbrev rmX1_kindAbove : Room := { frames := 0, cells := 0, slots := 0, locals := 0 }
set_option maxRecDepth 100000 in
set_option maxHeartbeats 4000000 in
theorem M_X1_kindAbove (l : Launch) (D : va_G) (cI cJ : ClassId) (k : Nat) (hk : k < 1000) : CE E0 l D vwCl [(cI, .int), (cJ, .long)] yX1_kindAbove wsX1_kindAbove rmX1_kindAbove [.int (nI k)] [] (S := Unit) (some (.int (nI (aboveK k)))) (fun _ => True) (fun _ : Unit => []) 0 0 := by
  refine CE.ofW (cc := cX1_kindAbove) (maxL := 1) (ret := (some .int)) (lv := [(0, .int (nI k))]) (by decide) rfl (Nat.le_of_ble_eq_true rfl) rfl ?_
  intro p e s m args below meth c ls A Q hQ hx hb hml hr hlocks hnm hown hts hK hA hE hW hl
  have hown : s.vm.findClass RX1 = some m.cls := hown
  refine lv_iload_n hx hb dX1_kindAbove_0 rfl (lv_at hl 0 rfl) ?_
  rcases (show k = 4 ∨ k = 5 ∨ (¬ k = 4 ∧ ¬ k = 5) by omega) with c1 | c1 | c1
  · refine zz_lk (off := 27) (tgt := 28) hx hb dX1_kindAbove_1 (by decide) ((nI_toInt (n := k) (by omega)).trans (show _ = (4 : Int) by omega)) (by decide) (by decide) ?_
    refine lv_iconst (v := nI 1) hx hb dX1_kindAbove_28 (by decide +kernel) ?_
    exact rt_i hQ hx hb hr hlocks hW dX1_kindAbove_29 () (by unfold aboveK; (repeat' split) <;> first | rfl | (exfalso; omega) | (congr 3; omega)) trivial rfl
  · refine zz_lk (off := 29) (tgt := 30) hx hb dX1_kindAbove_1 (by decide) ((nI_toInt (n := k) (by omega)).trans (show _ = (5 : Int) by omega)) (by decide) (by decide) ?_
    refine lv_iconst (v := nI 2) hx hb dX1_kindAbove_30 (by decide +kernel) ?_
    exact rt_i hQ hx hb hr hlocks hW dX1_kindAbove_31 () (by unfold aboveK; (repeat' split) <;> first | rfl | (exfalso; omega) | (congr 3; omega)) trivial rfl
  · refine zz_lk (off := 31) (tgt := 32) hx hb dX1_kindAbove_1 (by decide) (nI_toInt (n := k) (by omega)) (by simp [Op.lookupswitch.offset]; omega) (by decide) ?_
    refine lv_iconst (v := nI 0) hx hb dX1_kindAbove_32 (by decide +kernel) ?_
    exact rt_i hQ hx hb hr hlocks hW dX1_kindAbove_33 () (by unfold aboveK; (repeat' split) <;> first | rfl | (exfalso; omega) | (congr 3; omega)) trivial rfl
abbrev rmX1_isUnder : Room := { frames := 1, cells := 0, slots := 0, locals := 20 }
set_option maxRecDepth 100000 in
set_option maxHeartbeats 4000000 in
theorem M_X1_isUnder (l : Launch) (D : va_G) (cI cJ : ClassId) (k j : Nat) (hk : k < 1000) (hj : j < 1000) : CE E0 l D vwCl [(cI, .int), (cJ, .long)] yX1_isUnder wsX1_isUnder rmX1_isUnder [.int (nI k), .int (nI j)] [] (S := Unit) (some (.int (nI (underN k j)))) (fun _ => True) (fun _ : Unit => []) 0 0 := by
  refine CE.ofW (cc := cX1_isUnder) (maxL := 2) (ret := (some .boolean)) (lv := [(0, .int (nI k)), (1, .int (nI j))]) (by decide) rfl (Nat.le_of_ble_eq_true rfl) rfl ?_
  intro p e s m args below meth c ls A Q hQ hx hb hml hr hlocks hnm hown hts hK hA hE hW hl
  have hown : s.vm.findClass RX1 = some m.cls := hown
  have hab := aboveK_le k
  refine lv_iload_n hx hb dX1_isUnder_0 rfl (lv_at hl 0 rfl) ?_
  refine lv_iload_n hx hb dX1_isUnder_1 rfl (lv_at hl 1 rfl) ?_
  refine nn_ceq (tgt := 17) hx hb dX1_isUnder_2 (by decide) (by omega) (by omega) (fun c2 => ?_) (fun c2 => ?_)
  · refine lv_iconst (v := nI 1) hx hb dX1_isUnder_17 (by decide +kernel) ?_
    refine lv_goto (tgt := 22) hx hb dX1_isUnder_18 (by decide) ?_
    exact rt_z hQ hx hb hr hlocks hW dX1_isUnder_22 (by decide +kernel) () (by unfold underN; (repeat' split) <;> first | rfl | (exfalso; omega) | (congr 3; omega)) trivial rfl
  · refine lv_iload_n hx hb dX1_isUnder_5 rfl (lv_at hl 1 rfl) ?_
    refine nn_zeq (tgt := 17) hx hb dX1_isUnder_6 (by decide) (by omega) (fun c6 => ?_) (fun c6 => ?_)
    · refine lv_iconst (v := nI 1) hx hb dX1_isUnder_17 (by decide +kernel) ?_
      refine lv_goto (tgt := 22) hx hb dX1_isUnder_18 (by decide) ?_
      exact rt_z hQ hx hb hr hlocks hW dX1_isUnder_22 (by decide +kernel) () (by unfold underN; (repeat' split) <;> first | rfl | (exfalso; omega) | (congr 3; omega)) trivial rfl
    · refine lv_iload_n hx hb dX1_isUnder_9 rfl (lv_at hl 0 rfl) ?_
      refine cl_Si (As := [.int (nI k)]) (rest := []) ⟨hx, hb, hml, hown, hts⟩ (M_X1_kindAbove l D cI cJ k (by omega)) (va_cwS 1 hts gX1_isUnder_X1_kindAbove rfl rfl rfl qX1_kindAbove ⟨Nat.le_of_ble_eq_true rfl, Nat.le_of_ble_eq_true rfl⟩) E0_good hK hA hW trivial [] (fun _ => []) rfl (fun _ => rfl) (fun _ => rfl) rfl hl.1 rfl (lv_room (Nat.le_of_ble_eq_true rfl)) dX1_isUnder_10 ⟨Nat.zero_le _, Nat.zero_le _⟩ (fun _ H locs _ hW => ?_)
      refine lv_iload_n hx hb dX1_isUnder_13 rfl (lv_at hl 1 rfl) ?_
      refine nn_cne (tgt := 21) hx hb dX1_isUnder_14 (by decide) (by omega) (by omega) (fun c14 => ?_) (fun c14 => ?_)
      · refine lv_iconst (v := nI 0) hx hb dX1_isUnder_21 (by decide +kernel) ?_
        exact rt_z hQ hx hb hr hlocks hW dX1_isUnder_22 (by decide +kernel) () (by unfold underN; (repeat' split) <;> first | rfl | (exfalso; omega) | (congr 3; omega)) trivial rfl
      · refine lv_iconst (v := nI 1) hx hb dX1_isUnder_17 (by decide +kernel) ?_
        refine lv_goto (tgt := 22) hx hb dX1_isUnder_18 (by decide) ?_
        exact rt_z hQ hx hb hr hlocks hW dX1_isUnder_22 (by decide +kernel) () (by unfold underN; (repeat' split) <;> first | rfl | (exfalso; omega) | (congr 3; omega)) trivial rfl
abbrev rmX1_keeps : Room := { frames := 0, cells := 0, slots := 0, locals := 0 }
set_option maxRecDepth 100000 in
set_option maxHeartbeats 4000000 in
theorem M_X1_keeps (l : Launch) (D : va_G) (cI cJ : ClassId) (k sc t o n : Nat) (hk : k < 1000) (hs : sc < 1000) (ht : t < 1000000) (ho : o < 1000) (hn : n < 1000) : CE E0 l D vwCl [(cI, .int), (cJ, .long)] yX1_keeps wsX1_keeps rmX1_keeps [.int (nI k), .int (nI sc), .int (nI t), .int (nI o), .int (nI n)] [] (S := Unit) (some (.int (nI (keepK k sc t o n)))) (fun _ => True) (fun _ : Unit => []) 0 0 := by
  refine CE.ofW (cc := cX1_keeps) (maxL := 8) (ret := (some .int)) (lv := [(0, .int (nI k)), (1, .int (nI sc)), (2, .int (nI t)), (3, .int (nI o)), (4, .int (nI n))]) (by decide) rfl (Nat.le_of_ble_eq_true rfl) rfl ?_
  intro p e s m args below meth c ls A Q hQ hx hb hml hr hlocks hnm hown hts hK hA hE hW hl
  have hown : s.vm.findClass RX1 = some m.cls := hown
  refine lv_iload_n hx hb dX1_keeps_0 rfl (lv_at hl 1 rfl) ?_
  refine lv_iconst (v := nI 5) hx hb dX1_keeps_1 (by decide +kernel) ?_
  refine nn_div hx hb dX1_keeps_2 (by omega) (by decide) (by decide) ?_
  refine lv_iload_n hx hb dX1_keeps_3 rfl (lv_at hl 2 rfl) ?_
  refine nn_add hx hb dX1_keeps_4 ?_
  refine lv_istore (lv' := [(5, .int (nI ((sc / 5) + t))), (0, .int (nI k)), (1, .int (nI sc)), (2, .int (nI t)), (3, .int (nI o)), (4, .int (nI n))]) hx hb dX1_keeps_5 hl (by decide) rfl (fun ls hl => ?_)
  refine lv_iload_n hx hb dX1_keeps_7 rfl (lv_at hl 2 rfl) ?_
  refine lv_iconst (v := nI 2) hx hb dX1_keeps_8 (by decide +kernel) ?_
  refine nn_div hx hb dX1_keeps_9 (by omega) (by decide) (by decide) ?_
  refine lv_iload_n hx hb dX1_keeps_10 rfl (lv_at hl 3 rfl) ?_
  refine nn_add hx hb dX1_keeps_11 ?_
  refine lv_istore (lv' := [(6, .int (nI ((sc / 2) + t))), (5, .int (nI ((sc / 5) + t))), (0, .int (nI k)), (1, .int (nI sc)), (2, .int (nI t)), (3, .int (nI o)), (4, .int (nI n))]) hx hb dX1_keeps_12 hl (by decide) rfl (fun ls hl => ?_)
  refine lv_iload_n hx hb dX1_keeps_14 rfl (lv_at hl 5 rfl) ?_
  refine nn_zne (tgt := 22) hx hb dX1_keeps_15 (by decide) (by omega) (fun c15 => ?_) (fun c15 => ?_)
  · refine lv_iload hx hb dX1_keeps_22 (lv_at hl 1 rfl) ?_
    refine lv_istore (lv' := [(7, .int (nI ((sc / 5) + t))), (6, .int (nI ((sc / 2) + t))), (5, .int (nI ((sc / 5) + t))), (0, .int (nI k)), (1, .int (nI sc)), (2, .int (nI t)), (3, .int (nI o)), (4, .int (nI n))]) hx hb dX1_keeps_24 hl (by decide) rfl (fun ls hl => ?_)
    refine lv_iload_n hx hb dX1_keeps_26 rfl (lv_at hl 3 rfl) ?_
    rcases (show k = 1 ∨ k = 2 ∨ k = 3 ∨ k = 4 ∨ k = 5 ∨ (k < 1 ∨ 5 < k) by omega) with c27 | c27 | c27 | c27 | c27 | c27
    · refine nn_tsI (off := 33) (tgt := 60) hx hb dX1_keeps_27 (by omega) 0 (by omega) (by omega) rfl (by decide) ?_
      refine lv_iload hx hb dX1_keeps_60 (lv_at hl 1 rfl) ?_
      exact rt_i hQ hx hb hr hlocks hW dX1_keeps_62 () (by unfold keepK; (repeat' split) <;> first | rfl | (exfalso; omega) | (congr 3; omega)) trivial rfl
    · refine nn_tsI (off := 36) (tgt := 63) hx hb dX1_keeps_27 (by omega) 1 (by omega) (by omega) rfl (by decide) ?_
      refine lv_iload hx hb dX1_keeps_63 (lv_at hl 0 rfl) ?_
      exact rt_i hQ hx hb hr hlocks hW dX1_keeps_65 () (by unfold keepK; (repeat' split) <;> first | rfl | (exfalso; omega) | (congr 3; omega)) trivial rfl
    · refine nn_tsI (off := 39) (tgt := 66) hx hb dX1_keeps_27 (by omega) 2 (by omega) (by omega) rfl (by decide) ?_
      refine lv_iconst (v := nI 2) hx hb dX1_keeps_66 (by decide +kernel) ?_
      refine lv_iload_n hx hb dX1_keeps_67 rfl (lv_at hl 4 rfl) ?_
      refine nn_mul hx hb dX1_keeps_68 ?_
      exact rt_i hQ hx hb hr hlocks hW dX1_keeps_69 () (by unfold keepK; (repeat' split) <;> first | rfl | (exfalso; omega) | (congr 3; omega)) trivial rfl
    · refine nn_tsI (off := 43) (tgt := 70) hx hb dX1_keeps_27 (by omega) 3 (by omega) (by omega) rfl (by decide) ?_
      refine lv_iload hx hb dX1_keeps_70 (lv_at hl 7 rfl) ?_
      refine nn_zeq (tgt := 83) hx hb dX1_keeps_72 (by decide) (by omega) (fun c72 => ?_) (fun c72 => ?_)
      · refine lv_iload hx hb dX1_keeps_83 (lv_at hl 1 rfl) ?_
        exact rt_i hQ hx hb hr hlocks hW dX1_keeps_85 () (by unfold keepK; (repeat' split) <;> first | rfl | (exfalso; omega) | (congr 3; omega)) trivial rfl
      · refine lv_iload hx hb dX1_keeps_75 (lv_at hl 1 rfl) ?_
        refine lv_bipush (v := nI 10) hx hb dX1_keeps_77 (by decide +kernel) ?_
        refine nn_add hx hb dX1_keeps_79 ?_
        refine lv_goto (tgt := 85) hx hb dX1_keeps_80 (by decide) ?_
        exact rt_i hQ hx hb hr hlocks hW dX1_keeps_85 () (by unfold keepK; (repeat' split) <;> first | rfl | (exfalso; omega) | (congr 3; omega)) trivial rfl
    · refine nn_tsI (off := 59) (tgt := 86) hx hb dX1_keeps_27 (by omega) 4 (by omega) (by omega) rfl (by decide) ?_
      refine lv_iload hx hb dX1_keeps_86 (lv_at hl 0 rfl) ?_
      refine lv_iconst (v := nI 3) hx hb dX1_keeps_88 (by decide +kernel) ?_
      refine lv_iload_n hx hb dX1_keeps_89 rfl (lv_at hl 6 rfl) ?_
      refine nn_mul hx hb dX1_keeps_90 ?_
      refine nn_add hx hb dX1_keeps_91 ?_
      exact rt_i hQ hx hb hr hlocks hW dX1_keeps_92 () (by unfold keepK; (repeat' split) <;> first | rfl | (exfalso; omega) | (congr 3; omega)) trivial rfl
    · refine nn_tsO (tgt := 93) hx hb dX1_keeps_27 (by omega) (by omega) (by decide) ?_
      refine lv_iload hx hb dX1_keeps_93 (lv_at hl 2 rfl) ?_
      exact rt_i hQ hx hb hr hlocks hW dX1_keeps_95 () (by unfold keepK; (repeat' split) <;> first | rfl | (exfalso; omega) | (congr 3; omega)) trivial rfl
  · refine lv_iconst (v := nI 0) hx hb dX1_keeps_18 (by decide +kernel) ?_
    refine lv_goto (tgt := 24) hx hb dX1_keeps_19 (by decide) ?_
    refine lv_istore (lv' := [(7, .int (nI 0)), (6, .int (nI ((sc / 2) + t))), (5, .int (nI ((sc / 5) + t))), (0, .int (nI k)), (1, .int (nI sc)), (2, .int (nI t)), (3, .int (nI o)), (4, .int (nI n))]) hx hb dX1_keeps_24 hl (by decide) rfl (fun ls hl => ?_)
    refine lv_iload_n hx hb dX1_keeps_26 rfl (lv_at hl 3 rfl) ?_
    rcases (show k = 1 ∨ k = 2 ∨ k = 3 ∨ k = 4 ∨ k = 5 ∨ (k < 1 ∨ 5 < k) by omega) with c27_1 | c27_1 | c27_1 | c27_1 | c27_1 | c27_1
    · refine nn_tsI (off := 33) (tgt := 60) hx hb dX1_keeps_27 (by omega) 0 (by omega) (by omega) rfl (by decide) ?_
      refine lv_iload hx hb dX1_keeps_60 (lv_at hl 1 rfl) ?_
      exact rt_i hQ hx hb hr hlocks hW dX1_keeps_62 () (by unfold keepK; (repeat' split) <;> first | rfl | (exfalso; omega) | (congr 3; omega)) trivial rfl
    · refine nn_tsI (off := 36) (tgt := 63) hx hb dX1_keeps_27 (by omega) 1 (by omega) (by omega) rfl (by decide) ?_
      refine lv_iload hx hb dX1_keeps_63 (lv_at hl 0 rfl) ?_
      exact rt_i hQ hx hb hr hlocks hW dX1_keeps_65 () (by unfold keepK; (repeat' split) <;> first | rfl | (exfalso; omega) | (congr 3; omega)) trivial rfl
    · refine nn_tsI (off := 39) (tgt := 66) hx hb dX1_keeps_27 (by omega) 2 (by omega) (by omega) rfl (by decide) ?_
      refine lv_iconst (v := nI 2) hx hb dX1_keeps_66 (by decide +kernel) ?_
      refine lv_iload_n hx hb dX1_keeps_67 rfl (lv_at hl 4 rfl) ?_
      refine nn_mul hx hb dX1_keeps_68 ?_
      exact rt_i hQ hx hb hr hlocks hW dX1_keeps_69 () (by unfold keepK; (repeat' split) <;> first | rfl | (exfalso; omega) | (congr 3; omega)) trivial rfl
    · refine nn_tsI (off := 43) (tgt := 70) hx hb dX1_keeps_27 (by omega) 3 (by omega) (by omega) rfl (by decide) ?_
      refine lv_iload hx hb dX1_keeps_70 (lv_at hl 7 rfl) ?_
      refine nn_zeq (tgt := 83) hx hb dX1_keeps_72 (by decide) (by omega) (fun c72_1 => ?_) (fun c72_1 => ?_)
      · refine lv_iload hx hb dX1_keeps_83 (lv_at hl 1 rfl) ?_
        exact rt_i hQ hx hb hr hlocks hW dX1_keeps_85 () (by unfold keepK; (repeat' split) <;> first | rfl | (exfalso; omega) | (congr 3; omega)) trivial rfl
      · refine lv_iload hx hb dX1_keeps_75 (lv_at hl 1 rfl) ?_
        refine lv_bipush (v := nI 10) hx hb dX1_keeps_77 (by decide +kernel) ?_
        refine nn_add hx hb dX1_keeps_79 ?_
        refine lv_goto (tgt := 85) hx hb dX1_keeps_80 (by decide) ?_
        exact rt_i hQ hx hb hr hlocks hW dX1_keeps_85 () (by unfold keepK; (repeat' split) <;> first | rfl | (exfalso; omega) | (congr 3; omega)) trivial rfl
    · refine nn_tsI (off := 59) (tgt := 86) hx hb dX1_keeps_27 (by omega) 4 (by omega) (by omega) rfl (by decide) ?_
      refine lv_iload hx hb dX1_keeps_86 (lv_at hl 0 rfl) ?_
      refine lv_iconst (v := nI 3) hx hb dX1_keeps_88 (by decide +kernel) ?_
      refine lv_iload_n hx hb dX1_keeps_89 rfl (lv_at hl 6 rfl) ?_
      refine nn_mul hx hb dX1_keeps_90 ?_
      refine nn_add hx hb dX1_keeps_91 ?_
      exact rt_i hQ hx hb hr hlocks hW dX1_keeps_92 () (by unfold keepK; (repeat' split) <;> first | rfl | (exfalso; omega) | (congr 3; omega)) trivial rfl
    · refine nn_tsO (tgt := 93) hx hb dX1_keeps_27 (by omega) (by omega) (by decide) ?_
      refine lv_iload hx hb dX1_keeps_93 (lv_at hl 2 rfl) ?_
      exact rt_i hQ hx hb hr hlocks hW dX1_keeps_95 () (by unfold keepK; (repeat' split) <;> first | rfl | (exfalso; omega) | (congr 3; omega)) trivial rfl
abbrev rmX1_speaks : Room := { frames := 0, cells := 0, slots := 0, locals := 0 }
set_option maxRecDepth 100000 in
set_option maxHeartbeats 4000000 in
theorem M_X1_speaks (l : Launch) (D : va_G) (cI cJ : ClassId) (k t o n sp : Nat) (hk : k < 1000) (ht : t < 1000000) (ho : o < 1000) (hn : n < 1000) (hsp : sp < 1000) : CE E0 l D vwCl [(cI, .int), (cJ, .long)] yX1_speaks wsX1_speaks rmX1_speaks [.int (nI k), .int (nI t), .int (nI o), .int (nI n), .int (nI sp)] [] (S := Unit) (some (.int (nI (speakK k t o n sp)))) (fun _ => True) (fun _ : Unit => []) 0 0 := by
  refine CE.ofW (cc := cX1_speaks) (maxL := 7) (ret := (some .boolean)) (lv := [(0, .int (nI k)), (1, .int (nI t)), (2, .int (nI o)), (3, .int (nI n)), (4, .int (nI sp))]) (by decide) rfl (Nat.le_of_ble_eq_true rfl) rfl ?_
  intro p e s m args below meth c ls A Q hQ hx hb hml hr hlocks hnm hown hts hK hA hE hW hl
  have hown : s.vm.findClass RX1 = some m.cls := hown
  refine lv_iload_n hx hb dX1_speaks_0 rfl (lv_at hl 1 rfl) ?_
  refine lv_bipush (v := nI 15) hx hb dX1_speaks_1 (by decide +kernel) ?_
  refine nn_clt (tgt := 10) hx hb dX1_speaks_3 (by decide) (by omega) (by decide) (fun c3 => ?_) (fun c3 => ?_)
  · refine lv_iconst (v := nI 0) hx hb dX1_speaks_10 (by decide +kernel) ?_
    refine lv_istore (lv' := [(5, .int (nI 0)), (0, .int (nI k)), (1, .int (nI t)), (2, .int (nI o)), (3, .int (nI n)), (4, .int (nI sp))]) hx hb dX1_speaks_11 hl (by decide) rfl (fun ls hl => ?_)
    refine lv_iload_n hx hb dX1_speaks_13 rfl (lv_at hl 2 rfl) ?_
    refine lv_iconst (v := nI 3) hx hb dX1_speaks_14 (by decide +kernel) ?_
    refine nn_clt (tgt := 26) hx hb dX1_speaks_15 (by decide) (by omega) (by decide) (fun c15 => ?_) (fun c15 => ?_)
    · refine lv_iconst (v := nI 0) hx hb dX1_speaks_26 (by decide +kernel) ?_
      refine lv_istore (lv' := [(6, .int (nI 0)), (5, .int (nI 0)), (0, .int (nI k)), (1, .int (nI t)), (2, .int (nI o)), (3, .int (nI n)), (4, .int (nI sp))]) hx hb dX1_speaks_27 hl (by decide) rfl (fun ls hl => ?_)
      refine lv_iload_n hx hb dX1_speaks_29 rfl (lv_at hl 2 rfl) ?_
      rcases (show k = 1 ∨ k = 2 ∨ k = 3 ∨ k = 4 ∨ k = 5 ∨ (k < 1 ∨ 5 < k) by omega) with c30 | c30 | c30 | c30 | c30 | c30
      · refine nn_tsI (off := 34) (tgt := 64) hx hb dX1_speaks_30 (by omega) 0 (by omega) (by omega) rfl (by decide) ?_
        refine lv_iload hx hb dX1_speaks_64 (lv_at hl 1 rfl) ?_
        exact rt_z hQ hx hb hr hlocks hW dX1_speaks_66 (by decide +kernel) () (by unfold speakK; (repeat' split) <;> first | rfl | (exfalso; omega) | (congr 3; omega)) trivial rfl
      · refine nn_tsI (off := 37) (tgt := 67) hx hb dX1_speaks_30 (by omega) 1 (by omega) (by omega) rfl (by decide) ?_
        refine lv_iload hx hb dX1_speaks_67 (lv_at hl 0 rfl) ?_
        exact rt_z hQ hx hb hr hlocks hW dX1_speaks_69 (by decide +kernel) () (by unfold speakK; (repeat' split) <;> first | rfl | (exfalso; omega) | (congr 3; omega)) trivial rfl
      · refine nn_tsI (off := 40) (tgt := 70) hx hb dX1_speaks_30 (by omega) 2 (by omega) (by omega) rfl (by decide) ?_
        refine lv_iconst (v := nI 0) hx hb dX1_speaks_70 (by decide +kernel) ?_
        exact rt_z hQ hx hb hr hlocks hW dX1_speaks_71 (by decide +kernel) () (by unfold speakK; (repeat' split) <;> first | rfl | (exfalso; omega) | (congr 3; omega)) trivial rfl
      · refine nn_tsI (off := 42) (tgt := 72) hx hb dX1_speaks_30 (by omega) 3 (by omega) (by omega) rfl (by decide) ?_
        refine lv_iload hx hb dX1_speaks_72 (lv_at hl 1 rfl) ?_
        refine nn_zeq (tgt := 85) hx hb dX1_speaks_74 (by decide) (by decide) (fun c74 => ?_) (fun c74 => ?_)
        · refine lv_iconst (v := nI 0) hx hb dX1_speaks_85 (by decide +kernel) ?_
          exact rt_z hQ hx hb hr hlocks hW dX1_speaks_86 (by decide +kernel) () (by unfold speakK; (repeat' split) <;> first | rfl | (exfalso; omega) | (congr 3; omega)) trivial rfl
        · refine lv_iload_n hx hb dX1_speaks_77 rfl (lv_at hl 5 rfl) ?_
          refine nn_zne (tgt := 85) hx hb dX1_speaks_78 (by decide) (by omega) (fun c78 => ?_) (fun c78 => ?_)
          · refine lv_iconst (v := nI 0) hx hb dX1_speaks_85 (by decide +kernel) ?_
            exact rt_z hQ hx hb hr hlocks hW dX1_speaks_86 (by decide +kernel) () (by unfold speakK; (repeat' split) <;> first | rfl | (exfalso; omega) | (congr 3; omega)) trivial rfl
          · refine lv_iconst (v := nI 1) hx hb dX1_speaks_81 (by decide +kernel) ?_
            refine lv_goto (tgt := 86) hx hb dX1_speaks_82 (by decide) ?_
            exact rt_z hQ hx hb hr hlocks hW dX1_speaks_86 (by decide +kernel) () (by unfold speakK; (repeat' split) <;> first | rfl | (exfalso; omega) | (congr 3; omega)) trivial rfl
      · refine nn_tsI (off := 57) (tgt := 87) hx hb dX1_speaks_30 (by omega) 4 (by omega) (by omega) rfl (by decide) ?_
        refine lv_iload hx hb dX1_speaks_87 (lv_at hl 0 rfl) ?_
        refine nn_zne (tgt := 99) hx hb dX1_speaks_89 (by decide) (by decide) (fun c89 => ?_) (fun c89 => ?_)
        · refine lv_iconst (v := nI 1) hx hb dX1_speaks_99 (by decide +kernel) ?_
          refine lv_goto (tgt := 104) hx hb dX1_speaks_100 (by decide) ?_
          exact rt_z hQ hx hb hr hlocks hW dX1_speaks_104 (by decide +kernel) () (by unfold speakK; (repeat' split) <;> first | rfl | (exfalso; omega) | (congr 3; omega)) trivial rfl
        · refine lv_iload hx hb dX1_speaks_92 (lv_at hl 6 rfl) ?_
          refine lv_bipush (v := nI 100) hx hb dX1_speaks_94 (by decide +kernel) ?_
          refine nn_cle (tgt := 103) hx hb dX1_speaks_96 (by decide) (by omega) (by decide) (fun c96 => ?_) (fun c96 => ?_)
          · refine lv_iconst (v := nI 0) hx hb dX1_speaks_103 (by decide +kernel) ?_
            exact rt_z hQ hx hb hr hlocks hW dX1_speaks_104 (by decide +kernel) () (by unfold speakK; (repeat' split) <;> first | rfl | (exfalso; omega) | (congr 3; omega)) trivial rfl
          · refine lv_iconst (v := nI 1) hx hb dX1_speaks_99 (by decide +kernel) ?_
            refine lv_goto (tgt := 104) hx hb dX1_speaks_100 (by decide) ?_
            exact rt_z hQ hx hb hr hlocks hW dX1_speaks_104 (by decide +kernel) () (by unfold speakK; (repeat' split) <;> first | rfl | (exfalso; omega) | (congr 3; omega)) trivial rfl
      · refine nn_tsO (tgt := 105) hx hb dX1_speaks_30 (by omega) (by omega) (by decide) ?_
        refine lv_iload_n hx hb dX1_speaks_105 rfl (lv_at hl 3 rfl) ?_
        refine lv_bipush (v := nI 9) hx hb dX1_speaks_106 (by decide +kernel) ?_
        refine nn_clt (tgt := 115) hx hb dX1_speaks_108 (by decide) (by omega) (by decide) (fun c108 => ?_) (fun c108 => ?_)
        · refine lv_iconst (v := nI 0) hx hb dX1_speaks_115 (by decide +kernel) ?_
          exact rt_z hQ hx hb hr hlocks hW dX1_speaks_116 (by decide +kernel) () (by unfold speakK; (repeat' split) <;> first | rfl | (exfalso; omega) | (congr 3; omega)) trivial rfl
        · refine lv_iconst (v := nI 1) hx hb dX1_speaks_111 (by decide +kernel) ?_
          refine lv_goto (tgt := 116) hx hb dX1_speaks_112 (by decide) ?_
          exact rt_z hQ hx hb hr hlocks hW dX1_speaks_116 (by decide +kernel) () (by unfold speakK; (repeat' split) <;> first | rfl | (exfalso; omega) | (congr 3; omega)) trivial rfl
    · refine lv_iload_n hx hb dX1_speaks_18 rfl (lv_at hl 3 rfl) ?_
      refine nn_zle (tgt := 26) hx hb dX1_speaks_19 (by decide) (by omega) (fun c19 => ?_) (fun c19 => ?_)
      · refine lv_iconst (v := nI 0) hx hb dX1_speaks_26 (by decide +kernel) ?_
        refine lv_istore (lv' := [(6, .int (nI 0)), (5, .int (nI 0)), (0, .int (nI k)), (1, .int (nI t)), (2, .int (nI o)), (3, .int (nI n)), (4, .int (nI sp))]) hx hb dX1_speaks_27 hl (by decide) rfl (fun ls hl => ?_)
        refine lv_iload_n hx hb dX1_speaks_29 rfl (lv_at hl 2 rfl) ?_
        rcases (show k = 1 ∨ k = 2 ∨ k = 3 ∨ k = 4 ∨ k = 5 ∨ (k < 1 ∨ 5 < k) by omega) with c30_1 | c30_1 | c30_1 | c30_1 | c30_1 | c30_1
        · refine nn_tsI (off := 34) (tgt := 64) hx hb dX1_speaks_30 (by omega) 0 (by omega) (by omega) rfl (by decide) ?_
          refine lv_iload hx hb dX1_speaks_64 (lv_at hl 1 rfl) ?_
          exact rt_z hQ hx hb hr hlocks hW dX1_speaks_66 (by decide +kernel) () (by unfold speakK; (repeat' split) <;> first | rfl | (exfalso; omega) | (congr 3; omega)) trivial rfl
        · refine nn_tsI (off := 37) (tgt := 67) hx hb dX1_speaks_30 (by omega) 1 (by omega) (by omega) rfl (by decide) ?_
          refine lv_iload hx hb dX1_speaks_67 (lv_at hl 0 rfl) ?_
          exact rt_z hQ hx hb hr hlocks hW dX1_speaks_69 (by decide +kernel) () (by unfold speakK; (repeat' split) <;> first | rfl | (exfalso; omega) | (congr 3; omega)) trivial rfl
        · refine nn_tsI (off := 40) (tgt := 70) hx hb dX1_speaks_30 (by omega) 2 (by omega) (by omega) rfl (by decide) ?_
          refine lv_iconst (v := nI 0) hx hb dX1_speaks_70 (by decide +kernel) ?_
          exact rt_z hQ hx hb hr hlocks hW dX1_speaks_71 (by decide +kernel) () (by unfold speakK; (repeat' split) <;> first | rfl | (exfalso; omega) | (congr 3; omega)) trivial rfl
        · refine nn_tsI (off := 42) (tgt := 72) hx hb dX1_speaks_30 (by omega) 3 (by omega) (by omega) rfl (by decide) ?_
          refine lv_iload hx hb dX1_speaks_72 (lv_at hl 1 rfl) ?_
          refine nn_zeq (tgt := 85) hx hb dX1_speaks_74 (by decide) (by decide) (fun c74_1 => ?_) (fun c74_1 => ?_)
          · refine lv_iconst (v := nI 0) hx hb dX1_speaks_85 (by decide +kernel) ?_
            exact rt_z hQ hx hb hr hlocks hW dX1_speaks_86 (by decide +kernel) () (by unfold speakK; (repeat' split) <;> first | rfl | (exfalso; omega) | (congr 3; omega)) trivial rfl
          · refine lv_iload_n hx hb dX1_speaks_77 rfl (lv_at hl 5 rfl) ?_
            refine nn_zne (tgt := 85) hx hb dX1_speaks_78 (by decide) (by omega) (fun c78_1 => ?_) (fun c78_1 => ?_)
            · refine lv_iconst (v := nI 0) hx hb dX1_speaks_85 (by decide +kernel) ?_
              exact rt_z hQ hx hb hr hlocks hW dX1_speaks_86 (by decide +kernel) () (by unfold speakK; (repeat' split) <;> first | rfl | (exfalso; omega) | (congr 3; omega)) trivial rfl
            · refine lv_iconst (v := nI 1) hx hb dX1_speaks_81 (by decide +kernel) ?_
              refine lv_goto (tgt := 86) hx hb dX1_speaks_82 (by decide) ?_
              exact rt_z hQ hx hb hr hlocks hW dX1_speaks_86 (by decide +kernel) () (by unfold speakK; (repeat' split) <;> first | rfl | (exfalso; omega) | (congr 3; omega)) trivial rfl
        · refine nn_tsI (off := 57) (tgt := 87) hx hb dX1_speaks_30 (by omega) 4 (by omega) (by omega) rfl (by decide) ?_
          refine lv_iload hx hb dX1_speaks_87 (lv_at hl 0 rfl) ?_
          refine nn_zne (tgt := 99) hx hb dX1_speaks_89 (by decide) (by decide) (fun c89_1 => ?_) (fun c89_1 => ?_)
          · refine lv_iconst (v := nI 1) hx hb dX1_speaks_99 (by decide +kernel) ?_
            refine lv_goto (tgt := 104) hx hb dX1_speaks_100 (by decide) ?_
            exact rt_z hQ hx hb hr hlocks hW dX1_speaks_104 (by decide +kernel) () (by unfold speakK; (repeat' split) <;> first | rfl | (exfalso; omega) | (congr 3; omega)) trivial rfl
          · refine lv_iload hx hb dX1_speaks_92 (lv_at hl 6 rfl) ?_
            refine lv_bipush (v := nI 100) hx hb dX1_speaks_94 (by decide +kernel) ?_
            refine nn_cle (tgt := 103) hx hb dX1_speaks_96 (by decide) (by omega) (by decide) (fun c96_1 => ?_) (fun c96_1 => ?_)
            · refine lv_iconst (v := nI 0) hx hb dX1_speaks_103 (by decide +kernel) ?_
              exact rt_z hQ hx hb hr hlocks hW dX1_speaks_104 (by decide +kernel) () (by unfold speakK; (repeat' split) <;> first | rfl | (exfalso; omega) | (congr 3; omega)) trivial rfl
            · refine lv_iconst (v := nI 1) hx hb dX1_speaks_99 (by decide +kernel) ?_
              refine lv_goto (tgt := 104) hx hb dX1_speaks_100 (by decide) ?_
              exact rt_z hQ hx hb hr hlocks hW dX1_speaks_104 (by decide +kernel) () (by unfold speakK; (repeat' split) <;> first | rfl | (exfalso; omega) | (congr 3; omega)) trivial rfl
        · refine nn_tsO (tgt := 105) hx hb dX1_speaks_30 (by omega) (by omega) (by decide) ?_
          refine lv_iload_n hx hb dX1_speaks_105 rfl (lv_at hl 3 rfl) ?_
          refine lv_bipush (v := nI 9) hx hb dX1_speaks_106 (by decide +kernel) ?_
          refine nn_clt (tgt := 115) hx hb dX1_speaks_108 (by decide) (by omega) (by decide) (fun c108_1 => ?_) (fun c108_1 => ?_)
          · refine lv_iconst (v := nI 0) hx hb dX1_speaks_115 (by decide +kernel) ?_
            exact rt_z hQ hx hb hr hlocks hW dX1_speaks_116 (by decide +kernel) () (by unfold speakK; (repeat' split) <;> first | rfl | (exfalso; omega) | (congr 3; omega)) trivial rfl
          · refine lv_iconst (v := nI 1) hx hb dX1_speaks_111 (by decide +kernel) ?_
            refine lv_goto (tgt := 116) hx hb dX1_speaks_112 (by decide) ?_
            exact rt_z hQ hx hb hr hlocks hW dX1_speaks_116 (by decide +kernel) () (by unfold speakK; (repeat' split) <;> first | rfl | (exfalso; omega) | (congr 3; omega)) trivial rfl
      · refine lv_iconst (v := nI 1) hx hb dX1_speaks_22 (by decide +kernel) ?_
        refine lv_goto (tgt := 27) hx hb dX1_speaks_23 (by decide) ?_
        refine lv_istore (lv' := [(6, .int (nI 1)), (5, .int (nI 0)), (0, .int (nI k)), (1, .int (nI t)), (2, .int (nI o)), (3, .int (nI n)), (4, .int (nI sp))]) hx hb dX1_speaks_27 hl (by decide) rfl (fun ls hl => ?_)
        refine lv_iload_n hx hb dX1_speaks_29 rfl (lv_at hl 2 rfl) ?_
        rcases (show k = 1 ∨ k = 2 ∨ k = 3 ∨ k = 4 ∨ k = 5 ∨ (k < 1 ∨ 5 < k) by omega) with c30_2 | c30_2 | c30_2 | c30_2 | c30_2 | c30_2
        · refine nn_tsI (off := 34) (tgt := 64) hx hb dX1_speaks_30 (by omega) 0 (by omega) (by omega) rfl (by decide) ?_
          refine lv_iload hx hb dX1_speaks_64 (lv_at hl 1 rfl) ?_
          exact rt_z hQ hx hb hr hlocks hW dX1_speaks_66 (by decide +kernel) () (by unfold speakK; (repeat' split) <;> first | rfl | (exfalso; omega) | (congr 3; omega)) trivial rfl
        · refine nn_tsI (off := 37) (tgt := 67) hx hb dX1_speaks_30 (by omega) 1 (by omega) (by omega) rfl (by decide) ?_
          refine lv_iload hx hb dX1_speaks_67 (lv_at hl 0 rfl) ?_
          exact rt_z hQ hx hb hr hlocks hW dX1_speaks_69 (by decide +kernel) () (by unfold speakK; (repeat' split) <;> first | rfl | (exfalso; omega) | (congr 3; omega)) trivial rfl
        · refine nn_tsI (off := 40) (tgt := 70) hx hb dX1_speaks_30 (by omega) 2 (by omega) (by omega) rfl (by decide) ?_
          refine lv_iconst (v := nI 0) hx hb dX1_speaks_70 (by decide +kernel) ?_
          exact rt_z hQ hx hb hr hlocks hW dX1_speaks_71 (by decide +kernel) () (by unfold speakK; (repeat' split) <;> first | rfl | (exfalso; omega) | (congr 3; omega)) trivial rfl
        · refine nn_tsI (off := 42) (tgt := 72) hx hb dX1_speaks_30 (by omega) 3 (by omega) (by omega) rfl (by decide) ?_
          refine lv_iload hx hb dX1_speaks_72 (lv_at hl 1 rfl) ?_
          refine nn_zeq (tgt := 85) hx hb dX1_speaks_74 (by decide) (by decide) (fun c74_2 => ?_) (fun c74_2 => ?_)
          · refine lv_iconst (v := nI 0) hx hb dX1_speaks_85 (by decide +kernel) ?_
            exact rt_z hQ hx hb hr hlocks hW dX1_speaks_86 (by decide +kernel) () (by unfold speakK; (repeat' split) <;> first | rfl | (exfalso; omega) | (congr 3; omega)) trivial rfl
          · refine lv_iload_n hx hb dX1_speaks_77 rfl (lv_at hl 5 rfl) ?_
            refine nn_zne (tgt := 85) hx hb dX1_speaks_78 (by decide) (by omega) (fun c78_2 => ?_) (fun c78_2 => ?_)
            · refine lv_iconst (v := nI 0) hx hb dX1_speaks_85 (by decide +kernel) ?_
              exact rt_z hQ hx hb hr hlocks hW dX1_speaks_86 (by decide +kernel) () (by unfold speakK; (repeat' split) <;> first | rfl | (exfalso; omega) | (congr 3; omega)) trivial rfl
            · refine lv_iconst (v := nI 1) hx hb dX1_speaks_81 (by decide +kernel) ?_
              refine lv_goto (tgt := 86) hx hb dX1_speaks_82 (by decide) ?_
              exact rt_z hQ hx hb hr hlocks hW dX1_speaks_86 (by decide +kernel) () (by unfold speakK; (repeat' split) <;> first | rfl | (exfalso; omega) | (congr 3; omega)) trivial rfl
        · refine nn_tsI (off := 57) (tgt := 87) hx hb dX1_speaks_30 (by omega) 4 (by omega) (by omega) rfl (by decide) ?_
          refine lv_iload hx hb dX1_speaks_87 (lv_at hl 0 rfl) ?_
          refine nn_zne (tgt := 99) hx hb dX1_speaks_89 (by decide) (by decide) (fun c89_2 => ?_) (fun c89_2 => ?_)
          · refine lv_iconst (v := nI 1) hx hb dX1_speaks_99 (by decide +kernel) ?_
            refine lv_goto (tgt := 104) hx hb dX1_speaks_100 (by decide) ?_
            exact rt_z hQ hx hb hr hlocks hW dX1_speaks_104 (by decide +kernel) () (by unfold speakK; (repeat' split) <;> first | rfl | (exfalso; omega) | (congr 3; omega)) trivial rfl
          · refine lv_iload hx hb dX1_speaks_92 (lv_at hl 6 rfl) ?_
            refine lv_bipush (v := nI 100) hx hb dX1_speaks_94 (by decide +kernel) ?_
            refine nn_cle (tgt := 103) hx hb dX1_speaks_96 (by decide) (by omega) (by decide) (fun c96_2 => ?_) (fun c96_2 => ?_)
            · refine lv_iconst (v := nI 0) hx hb dX1_speaks_103 (by decide +kernel) ?_
              exact rt_z hQ hx hb hr hlocks hW dX1_speaks_104 (by decide +kernel) () (by unfold speakK; (repeat' split) <;> first | rfl | (exfalso; omega) | (congr 3; omega)) trivial rfl
            · refine lv_iconst (v := nI 1) hx hb dX1_speaks_99 (by decide +kernel) ?_
              refine lv_goto (tgt := 104) hx hb dX1_speaks_100 (by decide) ?_
              exact rt_z hQ hx hb hr hlocks hW dX1_speaks_104 (by decide +kernel) () (by unfold speakK; (repeat' split) <;> first | rfl | (exfalso; omega) | (congr 3; omega)) trivial rfl
        · refine nn_tsO (tgt := 105) hx hb dX1_speaks_30 (by omega) (by omega) (by decide) ?_
          refine lv_iload_n hx hb dX1_speaks_105 rfl (lv_at hl 3 rfl) ?_
          refine lv_bipush (v := nI 9) hx hb dX1_speaks_106 (by decide +kernel) ?_
          refine nn_clt (tgt := 115) hx hb dX1_speaks_108 (by decide) (by omega) (by decide) (fun c108_2 => ?_) (fun c108_2 => ?_)
          · refine lv_iconst (v := nI 0) hx hb dX1_speaks_115 (by decide +kernel) ?_
            exact rt_z hQ hx hb hr hlocks hW dX1_speaks_116 (by decide +kernel) () (by unfold speakK; (repeat' split) <;> first | rfl | (exfalso; omega) | (congr 3; omega)) trivial rfl
          · refine lv_iconst (v := nI 1) hx hb dX1_speaks_111 (by decide +kernel) ?_
            refine lv_goto (tgt := 116) hx hb dX1_speaks_112 (by decide) ?_
            exact rt_z hQ hx hb hr hlocks hW dX1_speaks_116 (by decide +kernel) () (by unfold speakK; (repeat' split) <;> first | rfl | (exfalso; omega) | (congr 3; omega)) trivial rfl
  · refine lv_iconst (v := nI 1) hx hb dX1_speaks_6 (by decide +kernel) ?_
    refine lv_goto (tgt := 11) hx hb dX1_speaks_7 (by decide) ?_
    refine lv_istore (lv' := [(5, .int (nI 1)), (0, .int (nI k)), (1, .int (nI t)), (2, .int (nI o)), (3, .int (nI n)), (4, .int (nI sp))]) hx hb dX1_speaks_11 hl (by decide) rfl (fun ls hl => ?_)
    refine lv_iload_n hx hb dX1_speaks_13 rfl (lv_at hl 2 rfl) ?_
    refine lv_iconst (v := nI 3) hx hb dX1_speaks_14 (by decide +kernel) ?_
    refine nn_clt (tgt := 26) hx hb dX1_speaks_15 (by decide) (by omega) (by decide) (fun c15_1 => ?_) (fun c15_1 => ?_)
    · refine lv_iconst (v := nI 0) hx hb dX1_speaks_26 (by decide +kernel) ?_
      refine lv_istore (lv' := [(6, .int (nI 0)), (5, .int (nI 1)), (0, .int (nI k)), (1, .int (nI t)), (2, .int (nI o)), (3, .int (nI n)), (4, .int (nI sp))]) hx hb dX1_speaks_27 hl (by decide) rfl (fun ls hl => ?_)
      refine lv_iload_n hx hb dX1_speaks_29 rfl (lv_at hl 2 rfl) ?_
      rcases (show k = 1 ∨ k = 2 ∨ k = 3 ∨ k = 4 ∨ k = 5 ∨ (k < 1 ∨ 5 < k) by omega) with c30_3 | c30_3 | c30_3 | c30_3 | c30_3 | c30_3
      · refine nn_tsI (off := 34) (tgt := 64) hx hb dX1_speaks_30 (by omega) 0 (by omega) (by omega) rfl (by decide) ?_
        refine lv_iload hx hb dX1_speaks_64 (lv_at hl 1 rfl) ?_
        exact rt_z hQ hx hb hr hlocks hW dX1_speaks_66 (by decide +kernel) () (by unfold speakK; (repeat' split) <;> first | rfl | (exfalso; omega) | (congr 3; omega)) trivial rfl
      · refine nn_tsI (off := 37) (tgt := 67) hx hb dX1_speaks_30 (by omega) 1 (by omega) (by omega) rfl (by decide) ?_
        refine lv_iload hx hb dX1_speaks_67 (lv_at hl 0 rfl) ?_
        exact rt_z hQ hx hb hr hlocks hW dX1_speaks_69 (by decide +kernel) () (by unfold speakK; (repeat' split) <;> first | rfl | (exfalso; omega) | (congr 3; omega)) trivial rfl
      · refine nn_tsI (off := 40) (tgt := 70) hx hb dX1_speaks_30 (by omega) 2 (by omega) (by omega) rfl (by decide) ?_
        refine lv_iconst (v := nI 0) hx hb dX1_speaks_70 (by decide +kernel) ?_
        exact rt_z hQ hx hb hr hlocks hW dX1_speaks_71 (by decide +kernel) () (by unfold speakK; (repeat' split) <;> first | rfl | (exfalso; omega) | (congr 3; omega)) trivial rfl
      · refine nn_tsI (off := 42) (tgt := 72) hx hb dX1_speaks_30 (by omega) 3 (by omega) (by omega) rfl (by decide) ?_
        refine lv_iload hx hb dX1_speaks_72 (lv_at hl 1 rfl) ?_
        refine nn_zeq (tgt := 85) hx hb dX1_speaks_74 (by decide) (by decide) (fun c74_3 => ?_) (fun c74_3 => ?_)
        · refine lv_iconst (v := nI 0) hx hb dX1_speaks_85 (by decide +kernel) ?_
          exact rt_z hQ hx hb hr hlocks hW dX1_speaks_86 (by decide +kernel) () (by unfold speakK; (repeat' split) <;> first | rfl | (exfalso; omega) | (congr 3; omega)) trivial rfl
        · refine lv_iload_n hx hb dX1_speaks_77 rfl (lv_at hl 5 rfl) ?_
          refine nn_zne (tgt := 85) hx hb dX1_speaks_78 (by decide) (by omega) (fun c78_3 => ?_) (fun c78_3 => ?_)
          · refine lv_iconst (v := nI 0) hx hb dX1_speaks_85 (by decide +kernel) ?_
            exact rt_z hQ hx hb hr hlocks hW dX1_speaks_86 (by decide +kernel) () (by unfold speakK; (repeat' split) <;> first | rfl | (exfalso; omega) | (congr 3; omega)) trivial rfl
          · refine lv_iconst (v := nI 1) hx hb dX1_speaks_81 (by decide +kernel) ?_
            refine lv_goto (tgt := 86) hx hb dX1_speaks_82 (by decide) ?_
            exact rt_z hQ hx hb hr hlocks hW dX1_speaks_86 (by decide +kernel) () (by unfold speakK; (repeat' split) <;> first | rfl | (exfalso; omega) | (congr 3; omega)) trivial rfl
      · refine nn_tsI (off := 57) (tgt := 87) hx hb dX1_speaks_30 (by omega) 4 (by omega) (by omega) rfl (by decide) ?_
        refine lv_iload hx hb dX1_speaks_87 (lv_at hl 0 rfl) ?_
        refine nn_zne (tgt := 99) hx hb dX1_speaks_89 (by decide) (by decide) (fun c89_3 => ?_) (fun c89_3 => ?_)
        · refine lv_iconst (v := nI 1) hx hb dX1_speaks_99 (by decide +kernel) ?_
          refine lv_goto (tgt := 104) hx hb dX1_speaks_100 (by decide) ?_
          exact rt_z hQ hx hb hr hlocks hW dX1_speaks_104 (by decide +kernel) () (by unfold speakK; (repeat' split) <;> first | rfl | (exfalso; omega) | (congr 3; omega)) trivial rfl
        · refine lv_iload hx hb dX1_speaks_92 (lv_at hl 6 rfl) ?_
          refine lv_bipush (v := nI 100) hx hb dX1_speaks_94 (by decide +kernel) ?_
          refine nn_cle (tgt := 103) hx hb dX1_speaks_96 (by decide) (by omega) (by decide) (fun c96_3 => ?_) (fun c96_3 => ?_)
          · refine lv_iconst (v := nI 0) hx hb dX1_speaks_103 (by decide +kernel) ?_
            exact rt_z hQ hx hb hr hlocks hW dX1_speaks_104 (by decide +kernel) () (by unfold speakK; (repeat' split) <;> first | rfl | (exfalso; omega) | (congr 3; omega)) trivial rfl
          · refine lv_iconst (v := nI 1) hx hb dX1_speaks_99 (by decide +kernel) ?_
            refine lv_goto (tgt := 104) hx hb dX1_speaks_100 (by decide) ?_
            exact rt_z hQ hx hb hr hlocks hW dX1_speaks_104 (by decide +kernel) () (by unfold speakK; (repeat' split) <;> first | rfl | (exfalso; omega) | (congr 3; omega)) trivial rfl
      · refine nn_tsO (tgt := 105) hx hb dX1_speaks_30 (by omega) (by omega) (by decide) ?_
        refine lv_iload_n hx hb dX1_speaks_105 rfl (lv_at hl 3 rfl) ?_
        refine lv_bipush (v := nI 9) hx hb dX1_speaks_106 (by decide +kernel) ?_
        refine nn_clt (tgt := 115) hx hb dX1_speaks_108 (by decide) (by omega) (by decide) (fun c108_3 => ?_) (fun c108_3 => ?_)
        · refine lv_iconst (v := nI 0) hx hb dX1_speaks_115 (by decide +kernel) ?_
          exact rt_z hQ hx hb hr hlocks hW dX1_speaks_116 (by decide +kernel) () (by unfold speakK; (repeat' split) <;> first | rfl | (exfalso; omega) | (congr 3; omega)) trivial rfl
        · refine lv_iconst (v := nI 1) hx hb dX1_speaks_111 (by decide +kernel) ?_
          refine lv_goto (tgt := 116) hx hb dX1_speaks_112 (by decide) ?_
          exact rt_z hQ hx hb hr hlocks hW dX1_speaks_116 (by decide +kernel) () (by unfold speakK; (repeat' split) <;> first | rfl | (exfalso; omega) | (congr 3; omega)) trivial rfl
    · refine lv_iload_n hx hb dX1_speaks_18 rfl (lv_at hl 3 rfl) ?_
      refine nn_zle (tgt := 26) hx hb dX1_speaks_19 (by decide) (by omega) (fun c19_1 => ?_) (fun c19_1 => ?_)
      · refine lv_iconst (v := nI 0) hx hb dX1_speaks_26 (by decide +kernel) ?_
        refine lv_istore (lv' := [(6, .int (nI 0)), (5, .int (nI 1)), (0, .int (nI k)), (1, .int (nI t)), (2, .int (nI o)), (3, .int (nI n)), (4, .int (nI sp))]) hx hb dX1_speaks_27 hl (by decide) rfl (fun ls hl => ?_)
        refine lv_iload_n hx hb dX1_speaks_29 rfl (lv_at hl 2 rfl) ?_
        rcases (show k = 1 ∨ k = 2 ∨ k = 3 ∨ k = 4 ∨ k = 5 ∨ (k < 1 ∨ 5 < k) by omega) with c30_4 | c30_4 | c30_4 | c30_4 | c30_4 | c30_4
        · refine nn_tsI (off := 34) (tgt := 64) hx hb dX1_speaks_30 (by omega) 0 (by omega) (by omega) rfl (by decide) ?_
          refine lv_iload hx hb dX1_speaks_64 (lv_at hl 1 rfl) ?_
          exact rt_z hQ hx hb hr hlocks hW dX1_speaks_66 (by decide +kernel) () (by unfold speakK; (repeat' split) <;> first | rfl | (exfalso; omega) | (congr 3; omega)) trivial rfl
        · refine nn_tsI (off := 37) (tgt := 67) hx hb dX1_speaks_30 (by omega) 1 (by omega) (by omega) rfl (by decide) ?_
          refine lv_iload hx hb dX1_speaks_67 (lv_at hl 0 rfl) ?_
          exact rt_z hQ hx hb hr hlocks hW dX1_speaks_69 (by decide +kernel) () (by unfold speakK; (repeat' split) <;> first | rfl | (exfalso; omega) | (congr 3; omega)) trivial rfl
        · refine nn_tsI (off := 40) (tgt := 70) hx hb dX1_speaks_30 (by omega) 2 (by omega) (by omega) rfl (by decide) ?_
          refine lv_iconst (v := nI 0) hx hb dX1_speaks_70 (by decide +kernel) ?_
          exact rt_z hQ hx hb hr hlocks hW dX1_speaks_71 (by decide +kernel) () (by unfold speakK; (repeat' split) <;> first | rfl | (exfalso; omega) | (congr 3; omega)) trivial rfl
        · refine nn_tsI (off := 42) (tgt := 72) hx hb dX1_speaks_30 (by omega) 3 (by omega) (by omega) rfl (by decide) ?_
          refine lv_iload hx hb dX1_speaks_72 (lv_at hl 1 rfl) ?_
          refine nn_zeq (tgt := 85) hx hb dX1_speaks_74 (by decide) (by decide) (fun c74_4 => ?_) (fun c74_4 => ?_)
          · refine lv_iconst (v := nI 0) hx hb dX1_speaks_85 (by decide +kernel) ?_
            exact rt_z hQ hx hb hr hlocks hW dX1_speaks_86 (by decide +kernel) () (by unfold speakK; (repeat' split) <;> first | rfl | (exfalso; omega) | (congr 3; omega)) trivial rfl
          · refine lv_iload_n hx hb dX1_speaks_77 rfl (lv_at hl 5 rfl) ?_
            refine nn_zne (tgt := 85) hx hb dX1_speaks_78 (by decide) (by omega) (fun c78_4 => ?_) (fun c78_4 => ?_)
            · refine lv_iconst (v := nI 0) hx hb dX1_speaks_85 (by decide +kernel) ?_
              exact rt_z hQ hx hb hr hlocks hW dX1_speaks_86 (by decide +kernel) () (by unfold speakK; (repeat' split) <;> first | rfl | (exfalso; omega) | (congr 3; omega)) trivial rfl
            · refine lv_iconst (v := nI 1) hx hb dX1_speaks_81 (by decide +kernel) ?_
              refine lv_goto (tgt := 86) hx hb dX1_speaks_82 (by decide) ?_
              exact rt_z hQ hx hb hr hlocks hW dX1_speaks_86 (by decide +kernel) () (by unfold speakK; (repeat' split) <;> first | rfl | (exfalso; omega) | (congr 3; omega)) trivial rfl
        · refine nn_tsI (off := 57) (tgt := 87) hx hb dX1_speaks_30 (by omega) 4 (by omega) (by omega) rfl (by decide) ?_
          refine lv_iload hx hb dX1_speaks_87 (lv_at hl 0 rfl) ?_
          refine nn_zne (tgt := 99) hx hb dX1_speaks_89 (by decide) (by decide) (fun c89_4 => ?_) (fun c89_4 => ?_)
          · refine lv_iconst (v := nI 1) hx hb dX1_speaks_99 (by decide +kernel) ?_
            refine lv_goto (tgt := 104) hx hb dX1_speaks_100 (by decide) ?_
            exact rt_z hQ hx hb hr hlocks hW dX1_speaks_104 (by decide +kernel) () (by unfold speakK; (repeat' split) <;> first | rfl | (exfalso; omega) | (congr 3; omega)) trivial rfl
          · refine lv_iload hx hb dX1_speaks_92 (lv_at hl 6 rfl) ?_
            refine lv_bipush (v := nI 100) hx hb dX1_speaks_94 (by decide +kernel) ?_
            refine nn_cle (tgt := 103) hx hb dX1_speaks_96 (by decide) (by omega) (by decide) (fun c96_4 => ?_) (fun c96_4 => ?_)
            · refine lv_iconst (v := nI 0) hx hb dX1_speaks_103 (by decide +kernel) ?_
              exact rt_z hQ hx hb hr hlocks hW dX1_speaks_104 (by decide +kernel) () (by unfold speakK; (repeat' split) <;> first | rfl | (exfalso; omega) | (congr 3; omega)) trivial rfl
            · refine lv_iconst (v := nI 1) hx hb dX1_speaks_99 (by decide +kernel) ?_
              refine lv_goto (tgt := 104) hx hb dX1_speaks_100 (by decide) ?_
              exact rt_z hQ hx hb hr hlocks hW dX1_speaks_104 (by decide +kernel) () (by unfold speakK; (repeat' split) <;> first | rfl | (exfalso; omega) | (congr 3; omega)) trivial rfl
        · refine nn_tsO (tgt := 105) hx hb dX1_speaks_30 (by omega) (by omega) (by decide) ?_
          refine lv_iload_n hx hb dX1_speaks_105 rfl (lv_at hl 3 rfl) ?_
          refine lv_bipush (v := nI 9) hx hb dX1_speaks_106 (by decide +kernel) ?_
          refine nn_clt (tgt := 115) hx hb dX1_speaks_108 (by decide) (by omega) (by decide) (fun c108_4 => ?_) (fun c108_4 => ?_)
          · refine lv_iconst (v := nI 0) hx hb dX1_speaks_115 (by decide +kernel) ?_
            exact rt_z hQ hx hb hr hlocks hW dX1_speaks_116 (by decide +kernel) () (by unfold speakK; (repeat' split) <;> first | rfl | (exfalso; omega) | (congr 3; omega)) trivial rfl
          · refine lv_iconst (v := nI 1) hx hb dX1_speaks_111 (by decide +kernel) ?_
            refine lv_goto (tgt := 116) hx hb dX1_speaks_112 (by decide) ?_
            exact rt_z hQ hx hb hr hlocks hW dX1_speaks_116 (by decide +kernel) () (by unfold speakK; (repeat' split) <;> first | rfl | (exfalso; omega) | (congr 3; omega)) trivial rfl
      · refine lv_iconst (v := nI 1) hx hb dX1_speaks_22 (by decide +kernel) ?_
        refine lv_goto (tgt := 27) hx hb dX1_speaks_23 (by decide) ?_
        refine lv_istore (lv' := [(6, .int (nI 1)), (5, .int (nI 1)), (0, .int (nI k)), (1, .int (nI t)), (2, .int (nI o)), (3, .int (nI n)), (4, .int (nI sp))]) hx hb dX1_speaks_27 hl (by decide) rfl (fun ls hl => ?_)
        refine lv_iload_n hx hb dX1_speaks_29 rfl (lv_at hl 2 rfl) ?_
        rcases (show k = 1 ∨ k = 2 ∨ k = 3 ∨ k = 4 ∨ k = 5 ∨ (k < 1 ∨ 5 < k) by omega) with c30_5 | c30_5 | c30_5 | c30_5 | c30_5 | c30_5
        · refine nn_tsI (off := 34) (tgt := 64) hx hb dX1_speaks_30 (by omega) 0 (by omega) (by omega) rfl (by decide) ?_
          refine lv_iload hx hb dX1_speaks_64 (lv_at hl 1 rfl) ?_
          exact rt_z hQ hx hb hr hlocks hW dX1_speaks_66 (by decide +kernel) () (by unfold speakK; (repeat' split) <;> first | rfl | (exfalso; omega) | (congr 3; omega)) trivial rfl
        · refine nn_tsI (off := 37) (tgt := 67) hx hb dX1_speaks_30 (by omega) 1 (by omega) (by omega) rfl (by decide) ?_
          refine lv_iload hx hb dX1_speaks_67 (lv_at hl 0 rfl) ?_
          exact rt_z hQ hx hb hr hlocks hW dX1_speaks_69 (by decide +kernel) () (by unfold speakK; (repeat' split) <;> first | rfl | (exfalso; omega) | (congr 3; omega)) trivial rfl
        · refine nn_tsI (off := 40) (tgt := 70) hx hb dX1_speaks_30 (by omega) 2 (by omega) (by omega) rfl (by decide) ?_
          refine lv_iconst (v := nI 0) hx hb dX1_speaks_70 (by decide +kernel) ?_
          exact rt_z hQ hx hb hr hlocks hW dX1_speaks_71 (by decide +kernel) () (by unfold speakK; (repeat' split) <;> first | rfl | (exfalso; omega) | (congr 3; omega)) trivial rfl
        · refine nn_tsI (off := 42) (tgt := 72) hx hb dX1_speaks_30 (by omega) 3 (by omega) (by omega) rfl (by decide) ?_
          refine lv_iload hx hb dX1_speaks_72 (lv_at hl 1 rfl) ?_
          refine nn_zeq (tgt := 85) hx hb dX1_speaks_74 (by decide) (by decide) (fun c74_5 => ?_) (fun c74_5 => ?_)
          · refine lv_iconst (v := nI 0) hx hb dX1_speaks_85 (by decide +kernel) ?_
            exact rt_z hQ hx hb hr hlocks hW dX1_speaks_86 (by decide +kernel) () (by unfold speakK; (repeat' split) <;> first | rfl | (exfalso; omega) | (congr 3; omega)) trivial rfl
          · refine lv_iload_n hx hb dX1_speaks_77 rfl (lv_at hl 5 rfl) ?_
            refine nn_zne (tgt := 85) hx hb dX1_speaks_78 (by decide) (by omega) (fun c78_5 => ?_) (fun c78_5 => ?_)
            · refine lv_iconst (v := nI 0) hx hb dX1_speaks_85 (by decide +kernel) ?_
              exact rt_z hQ hx hb hr hlocks hW dX1_speaks_86 (by decide +kernel) () (by unfold speakK; (repeat' split) <;> first | rfl | (exfalso; omega) | (congr 3; omega)) trivial rfl
            · refine lv_iconst (v := nI 1) hx hb dX1_speaks_81 (by decide +kernel) ?_
              refine lv_goto (tgt := 86) hx hb dX1_speaks_82 (by decide) ?_
              exact rt_z hQ hx hb hr hlocks hW dX1_speaks_86 (by decide +kernel) () (by unfold speakK; (repeat' split) <;> first | rfl | (exfalso; omega) | (congr 3; omega)) trivial rfl
        · refine nn_tsI (off := 57) (tgt := 87) hx hb dX1_speaks_30 (by omega) 4 (by omega) (by omega) rfl (by decide) ?_
          refine lv_iload hx hb dX1_speaks_87 (lv_at hl 0 rfl) ?_
          refine nn_zne (tgt := 99) hx hb dX1_speaks_89 (by decide) (by decide) (fun c89_5 => ?_) (fun c89_5 => ?_)
          · refine lv_iconst (v := nI 1) hx hb dX1_speaks_99 (by decide +kernel) ?_
            refine lv_goto (tgt := 104) hx hb dX1_speaks_100 (by decide) ?_
            exact rt_z hQ hx hb hr hlocks hW dX1_speaks_104 (by decide +kernel) () (by unfold speakK; (repeat' split) <;> first | rfl | (exfalso; omega) | (congr 3; omega)) trivial rfl
          · refine lv_iload hx hb dX1_speaks_92 (lv_at hl 6 rfl) ?_
            refine lv_bipush (v := nI 100) hx hb dX1_speaks_94 (by decide +kernel) ?_
            refine nn_cle (tgt := 103) hx hb dX1_speaks_96 (by decide) (by omega) (by decide) (fun c96_5 => ?_) (fun c96_5 => ?_)
            · refine lv_iconst (v := nI 0) hx hb dX1_speaks_103 (by decide +kernel) ?_
              exact rt_z hQ hx hb hr hlocks hW dX1_speaks_104 (by decide +kernel) () (by unfold speakK; (repeat' split) <;> first | rfl | (exfalso; omega) | (congr 3; omega)) trivial rfl
            · refine lv_iconst (v := nI 1) hx hb dX1_speaks_99 (by decide +kernel) ?_
              refine lv_goto (tgt := 104) hx hb dX1_speaks_100 (by decide) ?_
              exact rt_z hQ hx hb hr hlocks hW dX1_speaks_104 (by decide +kernel) () (by unfold speakK; (repeat' split) <;> first | rfl | (exfalso; omega) | (congr 3; omega)) trivial rfl
        · refine nn_tsO (tgt := 105) hx hb dX1_speaks_30 (by omega) (by omega) (by decide) ?_
          refine lv_iload_n hx hb dX1_speaks_105 rfl (lv_at hl 3 rfl) ?_
          refine lv_bipush (v := nI 9) hx hb dX1_speaks_106 (by decide +kernel) ?_
          refine nn_clt (tgt := 115) hx hb dX1_speaks_108 (by decide) (by omega) (by decide) (fun c108_5 => ?_) (fun c108_5 => ?_)
          · refine lv_iconst (v := nI 0) hx hb dX1_speaks_115 (by decide +kernel) ?_
            exact rt_z hQ hx hb hr hlocks hW dX1_speaks_116 (by decide +kernel) () (by unfold speakK; (repeat' split) <;> first | rfl | (exfalso; omega) | (congr 3; omega)) trivial rfl
          · refine lv_iconst (v := nI 1) hx hb dX1_speaks_111 (by decide +kernel) ?_
            refine lv_goto (tgt := 116) hx hb dX1_speaks_112 (by decide) ?_
            exact rt_z hQ hx hb hr hlocks hW dX1_speaks_116 (by decide +kernel) () (by unfold speakK; (repeat' split) <;> first | rfl | (exfalso; omega) | (congr 3; omega)) trivial rfl
abbrev rmX1_tells : Room := { frames := 0, cells := 0, slots := 0, locals := 0 }
set_option maxRecDepth 100000 in
set_option maxHeartbeats 4000000 in
theorem M_X1_tells (l : Launch) (D : va_G) (cI cJ : ClassId) (k : Nat) (hk : k < 1000) : CE E0 l D vwCl [(cI, .int), (cJ, .long)] yX1_tells wsX1_tells rmX1_tells [.int (nI k)] [] (S := Unit) (some (.int (nI (tellK k)))) (fun _ => True) (fun _ : Unit => []) 0 0 := by
  refine CE.ofW (cc := cX1_tells) (maxL := 4) (ret := (some .int)) (lv := [(0, .int (nI k))]) (by decide) rfl (Nat.le_of_ble_eq_true rfl) rfl ?_
  intro p e s m args below meth c ls A Q hQ hx hb hml hr hlocks hnm hown hts hK hA hE hW hl
  have hown : s.vm.findClass RX1 = some m.cls := hown
  refine lv_iconst (v := nI 3) hx hb dX1_tells_0 (by decide +kernel) ?_
  refine lv_istore_n (lv' := [(1, .int (nI 3)), (0, .int (nI k))]) hx hb dX1_tells_1 rfl hl (by decide) rfl (fun ls hl => ?_)
  refine lv_iload_n hx hb dX1_tells_2 rfl (lv_at hl 0 rfl) ?_
  refine lv_iconst (v := nI 1) hx hb dX1_tells_3 (by decide +kernel) ?_
  refine nn_sub hx hb dX1_tells_4 (by omega) ?_
  refine lv_istore_n (lv' := [(2, .int (nI (3 - 1))), (1, .int (nI 3)), (0, .int (nI k))]) hx hb dX1_tells_5 rfl hl (by decide) rfl (fun ls hl => ?_)
  refine lv_iconst (v := nI 2) hx hb dX1_tells_6 (by decide +kernel) ?_
  refine lv_iload_n hx hb dX1_tells_7 rfl (lv_at hl 1 rfl) ?_
  refine nn_mul hx hb dX1_tells_8 ?_
  refine lv_istore_n (lv' := [(3, .int (nI (2 * 3))), (2, .int (nI (3 - 1))), (1, .int (nI 3)), (0, .int (nI k))]) hx hb dX1_tells_9 rfl hl (by decide) rfl (fun ls hl => ?_)
  refine lv_iload_n hx hb dX1_tells_10 rfl (lv_at hl 3 rfl) ?_
  rcases (show k = 1 ∨ k = 2 ∨ k = 3 ∨ k = 4 ∨ k = 5 ∨ (k < 1 ∨ 5 < k) by omega) with c11 | c11 | c11 | c11 | c11 | c11
  · refine nn_tsI (off := 33) (tgt := 44) hx hb dX1_tells_11 (by omega) 0 (by omega) (by omega) rfl (by decide) ?_
    refine lv_iload_n hx hb dX1_tells_44 rfl (lv_at hl 1 rfl) ?_
    exact rt_i hQ hx hb hr hlocks hW dX1_tells_45 () (by unfold tellK; (repeat' split) <;> first | rfl | (exfalso; omega) | (congr 3; omega)) trivial rfl
  · refine nn_tsI (off := 35) (tgt := 46) hx hb dX1_tells_11 (by omega) 1 (by omega) (by omega) rfl (by decide) ?_
    refine lv_iload_n hx hb dX1_tells_46 rfl (lv_at hl 0 rfl) ?_
    exact rt_i hQ hx hb hr hlocks hW dX1_tells_47 () (by unfold tellK; (repeat' split) <;> first | rfl | (exfalso; omega) | (congr 3; omega)) trivial rfl
  · refine nn_tsI (off := 37) (tgt := 48) hx hb dX1_tells_11 (by omega) 2 (by omega) (by omega) rfl (by decide) ?_
    refine lv_iconst (v := nI 0) hx hb dX1_tells_48 (by decide +kernel) ?_
    exact rt_i hQ hx hb hr hlocks hW dX1_tells_49 () (by unfold tellK; (repeat' split) <;> first | rfl | (exfalso; omega) | (congr 3; omega)) trivial rfl
  · refine nn_tsI (off := 39) (tgt := 50) hx hb dX1_tells_11 (by omega) 3 (by omega) (by omega) rfl (by decide) ?_
    refine lv_iload_n hx hb dX1_tells_50 rfl (lv_at hl 1 rfl) ?_
    exact rt_i hQ hx hb hr hlocks hW dX1_tells_51 () (by unfold tellK; (repeat' split) <;> first | rfl | (exfalso; omega) | (congr 3; omega)) trivial rfl
  · refine nn_tsI (off := 41) (tgt := 52) hx hb dX1_tells_11 (by omega) 4 (by omega) (by omega) rfl (by decide) ?_
    refine lv_iload_n hx hb dX1_tells_52 rfl (lv_at hl 0 rfl) ?_
    refine lv_iconst (v := nI 1) hx hb dX1_tells_53 (by decide +kernel) ?_
    refine nn_add hx hb dX1_tells_54 ?_
    exact rt_i hQ hx hb hr hlocks hW dX1_tells_55 () (by unfold tellK; (repeat' split) <;> first | rfl | (exfalso; omega) | (congr 3; omega)) trivial rfl
  · refine nn_tsO (tgt := 56) hx hb dX1_tells_11 (by omega) (by omega) (by decide) ?_
    refine lv_iload_n hx hb dX1_tells_56 rfl (lv_at hl 2 rfl) ?_
    exact rt_i hQ hx hb hr hlocks hW dX1_tells_57 () (by unfold tellK; (repeat' split) <;> first | rfl | (exfalso; omega) | (congr 3; omega)) trivial rfl
abbrev rmX0_keepsNow : Room := { frames := 1, cells := 0, slots := 0, locals := 27 }
set_option maxRecDepth 100000 in
set_option maxHeartbeats 4000000 in
theorem M_X0_keepsNow (l : Launch) (D : va_G) (cI cJ : ClassId) (g G : Nat → Nat) (b : Nat) (hb30 : b < 2 ^ 30) (hG : OkG b G) (a O nn : Nat) (ha : a < 8) (hO : G (8 * a + 2) ≤ O) (hO8 : O ≤ 8) (hnn : nn ≤ 1) : CE E0 l D vwCl [(cI, .int), (cJ, .long)] yX0_keepsNow wsX0_keepsNow rmX0_keepsNow [.ref (g 0), .int (nI a), .int (nI O), .int (nI nn)] [gW cI g G] (S := Unit) (some (.int (nI (keepK (G (8 * a + 1)) (G (8 * a + 3)) (G (8 * a + 4)) (O - G (8 * a + 2)) nn)))) (fun _ => True) (fun _ : Unit => [gW cI g G]) 0 0 := by
  refine CE.ofW (cc := cX0_keepsNow) (maxL := 4) (ret := (some .int)) (lv := [(0, .ref (g 0)), (1, .int (nI a)), (2, .int (nI O)), (3, .int (nI nn))]) (by decide) rfl (Nat.le_of_ble_eq_true rfl) rfl ?_
  intro p e s m args below meth c ls A Q hQ hx hb hml hr hlocks hnm hown hts hK hA hE hW hl
  have hown : s.vm.findClass RX0 = some m.cls := hown
  obtain ⟨hg0, hg8, hg16, hg16b, hg24, hg32, hg40, hg48⟩ := hG.s
  have hma := hG.m a ha
  refine lv_aload_n hx hb dX0_keepsNow_0 rfl (lv_at hl 0 rfl) ?_
  refine sg_get (ci := 0) (C := RX0) (T := TX0) (N := 14) (v := .ref (g 1)) hx hb hts (fun _ h => List.mem_cons_of_mem _ (List.mem_append_right _ h)) hown hK hW 0 0 rfl rfl rfl 6 (by decide) (hts _ (List.mem_of_getElem? (i := 1) rfl)) rfl dX0_keepsNow_1 ?_
  refine lv_iload_n hx hb dX0_keepsNow_4 rfl (lv_at hl 1 rfl) ?_
  refine sg_ild (v := nI (G (8 * a + 1))) hx hb hK hW 0 1 0 rfl rfl rfl (by omega) (by decide) rfl dX0_keepsNow_5 ?_
  refine lv_aload_n hx hb dX0_keepsNow_6 rfl (lv_at hl 0 rfl) ?_
  refine sg_get (ci := 0) (C := RX0) (T := TX0) (N := 14) (v := .ref (g 3)) hx hb hts (fun _ h => List.mem_cons_of_mem _ (List.mem_append_right _ h)) hown hK hW 0 0 rfl rfl rfl 8 (by decide) (hts _ (List.mem_of_getElem? (i := 2) rfl)) rfl dX0_keepsNow_7 ?_
  refine lv_iload_n hx hb dX0_keepsNow_10 rfl (lv_at hl 1 rfl) ?_
  refine sg_ild (v := nI (G (8 * a + 3))) hx hb hK hW 0 3 0 rfl rfl rfl (by omega) (by decide) rfl dX0_keepsNow_11 ?_
  refine lv_aload_n hx hb dX0_keepsNow_12 rfl (lv_at hl 0 rfl) ?_
  refine sg_get (ci := 0) (C := RX0) (T := TX0) (N := 14) (v := .ref (g 4)) hx hb hts (fun _ h => List.mem_cons_of_mem _ (List.mem_append_right _ h)) hown hK hW 0 0 rfl rfl rfl 9 (by decide) (hts _ (List.mem_of_getElem? (i := 3) rfl)) rfl dX0_keepsNow_13 ?_
  refine lv_iload_n hx hb dX0_keepsNow_16 rfl (lv_at hl 1 rfl) ?_
  refine sg_ild (v := nI (G (8 * a + 4))) hx hb hK hW 0 4 0 rfl rfl rfl (by omega) (by decide) rfl dX0_keepsNow_17 ?_
  refine lv_iload_n hx hb dX0_keepsNow_18 rfl (lv_at hl 2 rfl) ?_
  refine lv_aload_n hx hb dX0_keepsNow_19 rfl (lv_at hl 0 rfl) ?_
  refine sg_get (ci := 0) (C := RX0) (T := TX0) (N := 14) (v := .ref (g 2)) hx hb hts (fun _ h => List.mem_cons_of_mem _ (List.mem_append_right _ h)) hown hK hW 0 0 rfl rfl rfl 7 (by decide) (hts _ (List.mem_of_getElem? (i := 4) rfl)) rfl dX0_keepsNow_20 ?_
  refine lv_iload_n hx hb dX0_keepsNow_23 rfl (lv_at hl 1 rfl) ?_
  refine sg_ild (v := nI (G (8 * a + 2))) hx hb hK hW 0 2 0 rfl rfl rfl (by omega) (by decide) rfl dX0_keepsNow_24 ?_
  refine nn_sub hx hb dX0_keepsNow_25 (by omega) ?_
  refine lv_iload_n hx hb dX0_keepsNow_26 rfl (lv_at hl 3 rfl) ?_
  refine cl_Si (As := [.int (nI (G (8 * a + 1))), .int (nI (G (8 * a + 3))), .int (nI (G (8 * a + 4))), .int (nI (O - (G (8 * a + 2)))), .int (nI nn)]) (rest := []) ⟨hx, hb, hml, hown, hts⟩ (M_X1_keeps l D cI cJ (G (8 * a + 1)) (G (8 * a + 3)) (G (8 * a + 4)) (O - (G (8 * a + 2))) nn (by omega) (by omega) (by omega) (by omega) (by omega)) (va_cwS 5 hts gX0_keepsNow_X1_keeps rfl rfl rfl qX1_keeps ⟨Nat.le_of_ble_eq_true rfl, Nat.le_of_ble_eq_true rfl⟩) E0_good hK hA hW trivial [] (fun _ => [gW cI g G]) rfl (fun _ => rfl) (fun _ => rfl) rfl hl.1 rfl (lv_room (Nat.le_of_ble_eq_true rfl)) dX0_keepsNow_27 ⟨Nat.zero_le _, Nat.zero_le _⟩ (fun _ H locs _ hW => ?_)
  exact rt_i hQ hx hb hr hlocks hW dX0_keepsNow_30 () rfl trivial rfl
abbrev rmX0_speaksNow : Room := { frames := 1, cells := 0, slots := 0, locals := 26 }
set_option maxRecDepth 100000 in
set_option maxHeartbeats 4000000 in
theorem M_X0_speaksNow (l : Launch) (D : va_G) (cI cJ : ClassId) (g G : Nat → Nat) (b : Nat) (hb30 : b < 2 ^ 30) (hG : OkG b G) (a O nn : Nat) (ha : a < 8) (hO : G (8 * a + 2) ≤ O) (hO8 : O ≤ 8) (hnn : nn ≤ 1) : CE E0 l D vwCl [(cI, .int), (cJ, .long)] yX0_speaksNow wsX0_speaksNow rmX0_speaksNow [.ref (g 0), .int (nI a), .int (nI O), .int (nI nn)] [gW cI g G] (S := Unit) (some (.int (nI (speakK (G (8 * a + 1)) (G (8 * a + 4)) (O - G (8 * a + 2)) nn (G 24))))) (fun _ => True) (fun _ : Unit => [gW cI g G]) 0 0 := by
  refine CE.ofW (cc := cX0_speaksNow) (maxL := 4) (ret := (some .boolean)) (lv := [(0, .ref (g 0)), (1, .int (nI a)), (2, .int (nI O)), (3, .int (nI nn))]) (by decide) rfl (Nat.le_of_ble_eq_true rfl) rfl ?_
  intro p e s m args below meth c ls A Q hQ hx hb hml hr hlocks hnm hown hts hK hA hE hW hl
  have hown : s.vm.findClass RX0 = some m.cls := hown
  obtain ⟨hg0, hg8, hg16, hg16b, hg24, hg32, hg40, hg48⟩ := hG.s
  have hma := hG.m a ha
  refine lv_aload_n hx hb dX0_speaksNow_0 rfl (lv_at hl 0 rfl) ?_
  refine sg_get (ci := 0) (C := RX0) (T := TX0) (N := 14) (v := .ref (g 1)) hx hb hts (fun _ h => List.mem_cons_of_mem _ (List.mem_append_right _ h)) hown hK hW 0 0 rfl rfl rfl 6 (by decide) (hts _ (List.mem_of_getElem? (i := 1) rfl)) rfl dX0_speaksNow_1 ?_
  refine lv_iload_n hx hb dX0_speaksNow_4 rfl (lv_at hl 1 rfl) ?_
  refine sg_ild (v := nI (G (8 * a + 1))) hx hb hK hW 0 1 0 rfl rfl rfl (by omega) (by decide) rfl dX0_speaksNow_5 ?_
  refine lv_aload_n hx hb dX0_speaksNow_6 rfl (lv_at hl 0 rfl) ?_
  refine sg_get (ci := 0) (C := RX0) (T := TX0) (N := 14) (v := .ref (g 4)) hx hb hts (fun _ h => List.mem_cons_of_mem _ (List.mem_append_right _ h)) hown hK hW 0 0 rfl rfl rfl 9 (by decide) (hts _ (List.mem_of_getElem? (i := 2) rfl)) rfl dX0_speaksNow_7 ?_
  refine lv_iload_n hx hb dX0_speaksNow_10 rfl (lv_at hl 1 rfl) ?_
  refine sg_ild (v := nI (G (8 * a + 4))) hx hb hK hW 0 4 0 rfl rfl rfl (by omega) (by decide) rfl dX0_speaksNow_11 ?_
  refine lv_iload_n hx hb dX0_speaksNow_12 rfl (lv_at hl 2 rfl) ?_
  refine lv_aload_n hx hb dX0_speaksNow_13 rfl (lv_at hl 0 rfl) ?_
  refine sg_get (ci := 0) (C := RX0) (T := TX0) (N := 14) (v := .ref (g 2)) hx hb hts (fun _ h => List.mem_cons_of_mem _ (List.mem_append_right _ h)) hown hK hW 0 0 rfl rfl rfl 7 (by decide) (hts _ (List.mem_of_getElem? (i := 3) rfl)) rfl dX0_speaksNow_14 ?_
  refine lv_iload_n hx hb dX0_speaksNow_17 rfl (lv_at hl 1 rfl) ?_
  refine sg_ild (v := nI (G (8 * a + 2))) hx hb hK hW 0 2 0 rfl rfl rfl (by omega) (by decide) rfl dX0_speaksNow_18 ?_
  refine nn_sub hx hb dX0_speaksNow_19 (by omega) ?_
  refine lv_iload_n hx hb dX0_speaksNow_20 rfl (lv_at hl 3 rfl) ?_
  refine lv_aload_n hx hb dX0_speaksNow_21 rfl (lv_at hl 0 rfl) ?_
  refine sg_get (ci := 0) (C := RX0) (T := TX0) (N := 14) (v := .int (nI (G 24))) hx hb hts (fun _ h => List.mem_cons_of_mem _ (List.mem_append_right _ h)) hown hK hW 0 0 rfl rfl rfl 3 (by decide) (hts _ (List.mem_of_getElem? (i := 4) rfl)) rfl dX0_speaksNow_22 ?_
  refine cl_Si (As := [.int (nI (G (8 * a + 1))), .int (nI (G (8 * a + 4))), .int (nI (O - (G (8 * a + 2)))), .int (nI nn), .int (nI (G 24))]) (rest := []) ⟨hx, hb, hml, hown, hts⟩ (M_X1_speaks l D cI cJ (G (8 * a + 1)) (G (8 * a + 4)) (O - (G (8 * a + 2))) nn (G 24) (by omega) (by omega) (by omega) (by omega) (by omega)) (va_cwS 5 hts gX0_speaksNow_X1_speaks rfl rfl rfl qX1_speaks ⟨Nat.le_of_ble_eq_true rfl, Nat.le_of_ble_eq_true rfl⟩) E0_good hK hA hW trivial [] (fun _ => [gW cI g G]) rfl (fun _ => rfl) (fun _ => rfl) rfl hl.1 rfl (lv_room (Nat.le_of_ble_eq_true rfl)) dX0_speaksNow_25 ⟨Nat.zero_le _, Nat.zero_le _⟩ (fun _ H locs _ hW => ?_)
  exact rt_z hQ hx hb hr hlocks hW dX0_speaksNow_28 (spk_narrow _ _ _ _ _) () rfl trivial rfl
abbrev rmX0_pushNow : Room := { frames := 2, cells := 0, slots := 0, locals := 50 }
set_option maxRecDepth 100000 in
set_option maxHeartbeats 4000000 in
theorem M_X0_pushNow (l : Launch) (D : va_G) (cI cJ : ClassId) (g G : Nat → Nat) (b : Nat) (hb30 : b < 2 ^ 30) (hG : OkG b G) : CE E0 l D vwCl [(cI, .int), (cJ, .long)] yX0_pushNow wsX0_pushNow rmX0_pushNow [.ref (g 0)] [gW cI g G] (S := Unit) (some (.int (nI (pushN G)))) (fun _ => True) (fun _ : Unit => [gW cI g G]) 0 0 := by
  refine CE.ofW (cc := cX0_pushNow) (maxL := 5) (ret := (some .int)) (lv := [(0, .ref (g 0))]) (by decide) rfl (Nat.le_of_ble_eq_true rfl) rfl ?_
  intro p e s m args below meth c ls A Q hQ hx hb hml hr hlocks hnm hown hts hK hA hE hW hl
  have hown : s.vm.findClass RX0 = some m.cls := hown
  obtain ⟨hg0, hg8, hg16, hg16b, hg24, hg32, hg40, hg48⟩ := hG.s
  have hoc8 := outC_le hG
  have hnl := nightN_le G
  have hwl := wetN_le G
  refine lv_aload_n hx hb dX0_pushNow_0 rfl (lv_at hl 0 rfl) ?_
  refine cl_Vi (As := []) (rest := []) (C := RX0) ⟨hx, hb, hml, hown, hts⟩ (M_X0_isWet l D cI cJ g G b hb30 hG) (cwV 0 hts gX0_pushNow_X0_isWet rfl rfl rfl qX0_isWet ⟨Nat.le_of_ble_eq_true rfl, Nat.le_of_ble_eq_true rfl⟩) E0_good hK hA hW trivial [true] (fun _ => [gW cI g G]) rfl (fun _ => rfl) (fun _ => rfl) 0 0 rfl rfl rfl rfl hl.1 rfl (lv_room (Nat.le_of_ble_eq_true rfl)) dX0_pushNow_1 ⟨Nat.zero_le _, Nat.zero_le _⟩ (fun _ H locs _ hW => ?_)
  refine nn_zeq (tgt := 9) hx hb dX0_pushNow_4 (by decide) (by omega) (fun c4 => ?_) (fun c4 => ?_)
  · refine lv_aload_n hx hb dX0_pushNow_9 rfl (lv_at hl 0 rfl) ?_
    refine cl_Vi (As := []) (rest := []) (C := RX0) ⟨hx, hb, hml, hown, hts⟩ (M_X0_outCount l D cI cJ g G b hb30 hG) (cwV 0 hts gX0_pushNow_X0_outCount rfl rfl rfl qX0_outCount ⟨Nat.le_of_ble_eq_true rfl, Nat.le_of_ble_eq_true rfl⟩) E0_good hK hA hW trivial [true] (fun _ => [gW cI g G]) rfl (fun _ => rfl) (fun _ => rfl) 0 0 rfl rfl rfl rfl hl.1 rfl (lv_room (Nat.le_of_ble_eq_true rfl)) dX0_pushNow_10 ⟨Nat.zero_le _, Nat.zero_le _⟩ (fun _ H locs _ hW => ?_)
    refine lv_istore_n (lv' := [(1, .int (nI (outC G))), (0, .ref (g 0))]) hx hb dX0_pushNow_13 rfl hl (by decide) rfl (fun ls hl => ?_)
    refine lv_aload_n hx hb dX0_pushNow_14 rfl (lv_at hl 1 rfl) ?_
    refine cl_Vi (As := []) (rest := []) (C := RX0) ⟨hx, hb, hml, hown, hts⟩ (M_X0_isNight l D cI cJ g G b hb30 hG) (cwV 0 hts gX0_pushNow_X0_isNight rfl rfl rfl qX0_isNight ⟨Nat.le_of_ble_eq_true rfl, Nat.le_of_ble_eq_true rfl⟩) E0_good hK hA hW trivial [true] (fun _ => [gW cI g G]) rfl (fun _ => rfl) (fun _ => rfl) 0 0 rfl rfl rfl rfl hl.1 rfl (lv_room (Nat.le_of_ble_eq_true rfl)) dX0_pushNow_15 ⟨Nat.zero_le _, Nat.zero_le _⟩ (fun _ H locs _ hW => ?_)
    refine lv_istore_n (lv' := [(2, .int (nI (nightN G))), (1, .int (nI (outC G))), (0, .ref (g 0))]) hx hb dX0_pushNow_18 rfl hl (by decide) rfl (fun ls hl => ?_)
    refine lv_iconst (v := nI 0) hx hb dX0_pushNow_19 (by decide +kernel) ?_
    refine lv_istore_n (lv' := [(3, .int (nI 0)), (2, .int (nI (nightN G))), (1, .int (nI (outC G))), (0, .ref (g 0))]) hx hb dX0_pushNow_20 rfl hl (by decide) rfl (fun ls hl => ?_)
    refine lv_iconst (v := nI 0) hx hb dX0_pushNow_21 (by decide +kernel) ?_
    refine lv_istore (lv' := [(4, .int (nI 0)), (3, .int (nI 0)), (2, .int (nI (nightN G))), (1, .int (nI (outC G))), (0, .ref (g 0))]) hx hb dX0_pushNow_22 hl (by decide) rfl (fun ls hl => ?_)
    have lp24 : ∀ (n : Nat) (i : Nat), G 40 - i < n → i ≤ G 40 → ∀ (H : Heap) (locs : List Loc), Wo D vwCl A s.heap H locs [gW cI g G] → ∀ ls : Array Slot, lv_has ls 5 [(4, .int (nI i)), (3, .int (nI (pushTo G i))), (2, .int (nI (nightN G))), (1, .int (nI (outC G))), (0, .ref (g 0))] → W p l e rmX0_pushNow s m args below meth c H locs 0 0 Q (F0 m 24 ls []) := by
      intro n
      induction n with
      | zero => intro i hm; exact absurd hm (Nat.not_lt_zero _)
      | succ n ih =>
        intro i hm hi H locs hW ls hl
        refine lv_iload hx hb dX0_pushNow_24 (lv_at hl 0 rfl) ?_
        refine lv_aload_n hx hb dX0_pushNow_26 rfl (lv_at hl 4 rfl) ?_
        refine sg_get (ci := 0) (C := RX0) (T := TX0) (N := 14) (v := .int (nI (G 40))) hx hb hts (fun _ h => List.mem_cons_of_mem _ (List.mem_append_right _ h)) hown hK hW 0 0 rfl rfl rfl 5 (by decide) (hts _ (List.mem_of_getElem? (i := 1) rfl)) rfl dX0_pushNow_27 ?_
        refine nn_cge (tgt := 61) hx hb dX0_pushNow_30 (by decide) (by omega) (by omega) (fun c30 => ?_) (fun c30 => ?_)
        · refine lv_iload_n hx hb dX0_pushNow_61 rfl (lv_at hl 1 rfl) ?_
          exact rt_i hQ hx hb hr hlocks hW dX0_pushNow_62 () (by unfold pushN; rw [if_neg (by omega), show i = G 40 by omega]) trivial rfl
        · have hmi := hG.m i (by omega)
          have hoi := outC_ge (G := G) (i := i) (by omega)
          refine lv_aload_n hx hb dX0_pushNow_33 rfl (lv_at hl 4 rfl) ?_
          refine sg_get (ci := 0) (C := RX0) (T := TX0) (N := 14) (v := .ref (g 2)) hx hb hts (fun _ h => List.mem_cons_of_mem _ (List.mem_append_right _ h)) hown hK hW 0 0 rfl rfl rfl 7 (by decide) (hts _ (List.mem_of_getElem? (i := 2) rfl)) rfl dX0_pushNow_34 ?_
          refine lv_iload hx hb dX0_pushNow_37 (lv_at hl 0 rfl) ?_
          refine sg_ild (v := nI (G (8 * i + 2))) hx hb hK hW 0 2 0 rfl rfl rfl (by omega) (by decide) rfl dX0_pushNow_39 ?_
          refine lv_iconst (v := nI 1) hx hb dX0_pushNow_40 (by decide +kernel) ?_
          refine nn_cne (tgt := 55) hx hb dX0_pushNow_41 (by decide) (by omega) (by decide) (fun c41 => ?_) (fun c41 => ?_)
          · refine lv_iinc (v := nI (i + 1)) (lv' := [(4, .int (nI (i + 1))), (3, .int (nI (pushTo G i))), (2, .int (nI (nightN G))), (1, .int (nI (outC G))), (0, .ref (g 0))]) hx hb dX0_pushNow_55 hl (k := 0) rfl (nI_add _ 1) (by decide) rfl (fun ls hl => ?_)
            refine lv_goto (tgt := 24) hx hb dX0_pushNow_58 (by decide) ?_
            have e1 : nI (pushTo G i) = nI (pushTo G (i + 1)) := (by show nI (pushTo G i) = nI (pushTo G i + (if G (8 * i + 2) = 1 then keepsN G i else 0)); rw [if_neg (by omega)]; rfl)
            rw [e1] at hl
            exact ih (i + 1) (by omega) (by omega) _ _ hW _ (lv_sub hl [0, 1, 2, 3, 4] rfl)
          · refine lv_iload_n hx hb dX0_pushNow_44 rfl (lv_at hl 1 rfl) ?_
            refine lv_aload_n hx hb dX0_pushNow_45 rfl (lv_at hl 4 rfl) ?_
            refine lv_iload hx hb dX0_pushNow_46 (lv_at hl 0 rfl) ?_
            refine lv_iload_n hx hb dX0_pushNow_48 rfl (lv_at hl 3 rfl) ?_
            refine lv_iload_n hx hb dX0_pushNow_49 rfl (lv_at hl 2 rfl) ?_
            refine cl_Vi (As := [.int (nI i), .int (nI (outC G)), .int (nI (nightN G))]) (rest := [.int (nI (pushTo G i))]) (C := RX0) ⟨hx, hb, hml, hown, hts⟩ (M_X0_keepsNow l D cI cJ g G b hb30 hG i (outC G) (nightN G) (by omega) (by omega) (by omega) (by omega)) (cwV 3 hts gX0_pushNow_X0_keepsNow rfl rfl rfl qX0_keepsNow ⟨Nat.le_of_ble_eq_true rfl, Nat.le_of_ble_eq_true rfl⟩) E0_good hK hA hW trivial [true] (fun _ => [gW cI g G]) rfl (fun _ => rfl) (fun _ => rfl) 0 0 rfl rfl rfl rfl hl.1 rfl (lv_room (Nat.le_of_ble_eq_true rfl)) dX0_pushNow_50 ⟨Nat.zero_le _, Nat.zero_le _⟩ (fun _ H locs _ hW => ?_)
            refine nn_add hx hb dX0_pushNow_53 ?_
            refine lv_istore_n (lv' := [(3, .int (nI ((pushTo G i) + (keepK (G (8 * i + 1)) (G (8 * i + 3)) (G (8 * i + 4)) ((outC G) - G (8 * i + 2)) (nightN G))))), (4, .int (nI i)), (2, .int (nI (nightN G))), (1, .int (nI (outC G))), (0, .ref (g 0))]) hx hb dX0_pushNow_54 rfl hl (by decide) rfl (fun ls hl => ?_)
            refine lv_iinc (v := nI (i + 1)) (lv' := [(4, .int (nI (i + 1))), (3, .int (nI ((pushTo G i) + (keepK (G (8 * i + 1)) (G (8 * i + 3)) (G (8 * i + 4)) ((outC G) - G (8 * i + 2)) (nightN G))))), (2, .int (nI (nightN G))), (1, .int (nI (outC G))), (0, .ref (g 0))]) hx hb dX0_pushNow_55 hl (k := 1) rfl (nI_add _ 1) (by decide) rfl (fun ls hl => ?_)
            refine lv_goto (tgt := 24) hx hb dX0_pushNow_58 (by decide) ?_
            have e2 : nI ((pushTo G i) + (keepK (G (8 * i + 1)) (G (8 * i + 3)) (G (8 * i + 4)) ((outC G) - G (8 * i + 2)) (nightN G))) = nI (pushTo G (i + 1)) := (by show nI (pushTo G i + keepsN G i) = nI (pushTo G i + (if G (8 * i + 2) = 1 then keepsN G i else 0)); rw [if_pos (by omega)])
            rw [e2] at hl
            exact ih (i + 1) (by omega) (by omega) _ _ hW _ (lv_sub hl [0, 1, 2, 3, 4] rfl)
    exact lp24 (G 40 - 0 + 1) 0 (Nat.lt_succ_self _) (by omega) _ _ hW _ (lv_sub hl [0, 1, 2, 3, 4] rfl)
  · refine lv_iconst (v := nI 0) hx hb dX0_pushNow_7 (by decide +kernel) ?_
    exact rt_i hQ hx hb hr hlocks hW dX0_pushNow_8 () (by unfold pushN; rw [if_pos (by omega)]) trivial rfl
abbrev rmX0_tryGrips : Room := { frames := 1, cells := 0, slots := 0, locals := 21 }
set_option maxRecDepth 100000 in
set_option maxHeartbeats 4000000 in
theorem M_X0_tryGrips (l : Launch) (D : va_G) (cI cJ : ClassId) (g G : Nat → Nat) (b : Nat) (hb30 : b < 2 ^ 30) (hG : OkG b G) : CE E0 l D vwCl [(cI, .int), (cJ, .long)] yX0_tryGrips wsX0_tryGrips rmX0_tryGrips [.ref (g 0)] [gW cI g G] (S := Unit) none (fun _ => True) (fun _ : Unit => [gW cI g (gripsG G)]) 0 0 := by
  refine CE.ofW (cc := cX0_tryGrips) (maxL := 2) (ret := none) (lv := [(0, .ref (g 0))]) (by decide) rfl (Nat.le_of_ble_eq_true rfl) rfl ?_
  intro p e s m args below meth c ls A Q hQ hx hb hml hr hlocks hnm hown hts hK hA hE hW hl
  have hown : s.vm.findClass RX0 = some m.cls := hown
  obtain ⟨hg0, hg8, hg16, hg16b, hg24, hg32, hg40, hg48⟩ := hG.s
  refine lv_iconst (v := nI 0) hx hb dX0_tryGrips_0 (by decide +kernel) ?_
  refine lv_istore_n (lv' := [(1, .int (nI 0)), (0, .ref (g 0))]) hx hb dX0_tryGrips_1 rfl hl (by decide) rfl (fun ls hl => ?_)
  have lp2 : ∀ (n : Nat) (i : Nat), G 48 - i < n → i ≤ G 48 → ∀ (H : Heap) (locs : List Loc), Wo D vwCl A s.heap H locs [gW cI g (gripsTo G i)] → ∀ ls : Array Slot, lv_has ls 2 [(1, .int (nI i)), (0, .ref (g 0))] → W p l e rmX0_tryGrips s m args below meth c H locs 0 0 Q (F0 m 2 ls []) := by
    intro n
    induction n with
    | zero => intro i hm; exact absurd hm (Nat.not_lt_zero _)
    | succ n ih =>
      intro i hm hi H locs hW ls hl
      have h48 : gripsTo G i 48 = G 48 := grips_keep G 48 (by decide) i
      obtain ⟨q0, q8, q16, q16b, q24, q32, q40, q48⟩ := (gripsTo_ok hG i (by omega)).s
      refine lv_iload_n hx hb dX0_tryGrips_2 rfl (lv_at hl 0 rfl) ?_
      refine lv_aload_n hx hb dX0_tryGrips_3 rfl (lv_at hl 1 rfl) ?_
      refine sg_get (ci := 0) (C := RX0) (T := TX0) (N := 14) (v := .int (nI ((gripsTo G i) 48))) hx hb hts (fun _ h => List.mem_cons_of_mem _ (List.mem_append_right _ h)) hown hK hW 0 0 rfl rfl rfl 10 (by decide) (hts _ (List.mem_of_getElem? (i := 1) rfl)) rfl dX0_tryGrips_4 ?_
      refine nn_cge (tgt := 96) hx hb dX0_tryGrips_7 (by decide) (by omega) (by omega) (fun c7 => ?_) (fun c7 => ?_)
      · exact rt_v hQ hx hb hr hlocks hW dX0_tryGrips_96 () rfl trivial (by rw [show i = G 48 by omega]; rfl)
      · have hci := (gripsTo_ok hG i (by omega)).c i (by omega)
        refine lv_aload_n hx hb dX0_tryGrips_10 rfl (lv_at hl 1 rfl) ?_
        refine sg_get (ci := 0) (C := RX0) (T := TX0) (N := 14) (v := .ref (g 6)) hx hb hts (fun _ h => List.mem_cons_of_mem _ (List.mem_append_right _ h)) hown hK hW 0 0 rfl rfl rfl 12 (by decide) (hts _ (List.mem_of_getElem? (i := 2) rfl)) rfl dX0_tryGrips_11 ?_
        refine lv_iload_n hx hb dX0_tryGrips_14 rfl (lv_at hl 0 rfl) ?_
        refine sg_ild (v := nI ((gripsTo G i) (8 * i + 6))) hx hb hK hW 0 6 0 rfl rfl rfl (by omega) (by decide) rfl dX0_tryGrips_15 ?_
        refine lv_iconst (v := nI 1) hx hb dX0_tryGrips_16 (by decide +kernel) ?_
        refine nn_cne (tgt := 90) hx hb dX0_tryGrips_17 (by decide) (by omega) (by decide) (fun c17 => ?_) (fun c17 => ?_)
        · refine lv_iinc (v := nI (i + 1)) (lv' := [(1, .int (nI (i + 1))), (0, .ref (g 0))]) hx hb dX0_tryGrips_90 hl (k := 0) rfl (nI_add _ 1) (by decide) rfl (fun ls hl => ?_)
          refine lv_goto (tgt := 2) hx hb dX0_tryGrips_93 (by decide) ?_
          have hW := hW.to (ss' := [gW cI g (gripsTo G (i + 1))]) (by simp only [gripsTo, holdF]; (repeat' split) <;> first | rfl | (exfalso; omega))
          exact ih (i + 1) (by omega) (by omega) _ _ hW _ (lv_sub hl [0, 1] rfl)
        · refine lv_aload_n hx hb dX0_tryGrips_20 rfl (lv_at hl 1 rfl) ?_
          refine sg_get (ci := 0) (C := RX0) (T := TX0) (N := 14) (v := .ref (g 5)) hx hb hts (fun _ h => List.mem_cons_of_mem _ (List.mem_append_right _ h)) hown hK hW 0 0 rfl rfl rfl 11 (by decide) (hts _ (List.mem_of_getElem? (i := 3) rfl)) rfl dX0_tryGrips_21 ?_
          refine lv_iload_n hx hb dX0_tryGrips_24 rfl (lv_at hl 0 rfl) ?_
          refine sg_ild (v := nI ((gripsTo G i) (8 * i + 5))) hx hb hK hW 0 5 0 rfl rfl rfl (by omega) (by decide) rfl dX0_tryGrips_25 ?_
          refine lv_aload_n hx hb dX0_tryGrips_26 rfl (lv_at hl 1 rfl) ?_
          refine sg_get (ci := 0) (C := RX0) (T := TX0) (N := 14) (v := .int (nI ((gripsTo G i) 24))) hx hb hts (fun _ h => List.mem_cons_of_mem _ (List.mem_append_right _ h)) hown hK hW 0 0 rfl rfl rfl 3 (by decide) (hts _ (List.mem_of_getElem? (i := 4) rfl)) rfl dX0_tryGrips_27 ?_
          refine nn_cge (tgt := 63) hx hb dX0_tryGrips_30 (by decide) (by omega) (by omega) (fun c30 => ?_) (fun c30 => ?_)
          · refine lv_aload_n hx hb dX0_tryGrips_63 rfl (lv_at hl 1 rfl) ?_
            refine sg_get (ci := 0) (C := RX0) (T := TX0) (N := 14) (v := .int (nI ((gripsTo G i) 24))) hx hb hts (fun _ h => List.mem_cons_of_mem _ (List.mem_append_right _ h)) hown hK hW 0 0 rfl rfl rfl 3 (by decide) (hts _ (List.mem_of_getElem? (i := 4) rfl)) rfl dX0_tryGrips_64 ?_
            refine lv_bipush (v := nI 30) hx hb dX0_tryGrips_67 (by decide +kernel) ?_
            refine nn_cle (tgt := 90) hx hb dX0_tryGrips_69 (by decide) (by omega) (by decide) (fun c69 => ?_) (fun c69 => ?_)
            · refine lv_iinc (v := nI (i + 1)) (lv' := [(1, .int (nI (i + 1))), (0, .ref (g 0))]) hx hb dX0_tryGrips_90 hl (k := 0) rfl (nI_add _ 1) (by decide) rfl (fun ls hl => ?_)
              refine lv_goto (tgt := 2) hx hb dX0_tryGrips_93 (by decide) ?_
              have hW := hW.to (ss' := [gW cI g (gripsTo G (i + 1))]) (by simp only [gripsTo, holdF]; (repeat' split) <;> first | rfl | (exfalso; omega))
              exact ih (i + 1) (by omega) (by omega) _ _ hW _ (lv_sub hl [0, 1] rfl)
            · refine lv_aload_n hx hb dX0_tryGrips_72 rfl (lv_at hl 1 rfl) ?_
              refine sg_get (ci := 0) (C := RX0) (T := TX0) (N := 14) (v := .ref (g 5)) hx hb hts (fun _ h => List.mem_cons_of_mem _ (List.mem_append_right _ h)) hown hK hW 0 0 rfl rfl rfl 11 (by decide) (hts _ (List.mem_of_getElem? (i := 3) rfl)) rfl dX0_tryGrips_73 ?_
              refine lv_iload_n hx hb dX0_tryGrips_76 rfl (lv_at hl 0 rfl) ?_
              refine lv_iconst (v := nI 0) hx hb dX0_tryGrips_77 (by decide +kernel) ?_
              refine lv_aload_n hx hb dX0_tryGrips_78 rfl (lv_at hl 1 rfl) ?_
              refine sg_get (ci := 0) (C := RX0) (T := TX0) (N := 14) (v := .ref (g 5)) hx hb hts (fun _ h => List.mem_cons_of_mem _ (List.mem_append_right _ h)) hown hK hW 0 0 rfl rfl rfl 11 (by decide) (hts _ (List.mem_of_getElem? (i := 3) rfl)) rfl dX0_tryGrips_79 ?_
              refine lv_iload_n hx hb dX0_tryGrips_82 rfl (lv_at hl 0 rfl) ?_
              refine sg_ild (v := nI ((gripsTo G i) (8 * i + 5))) hx hb hK hW 0 5 0 rfl rfl rfl (by omega) (by decide) rfl dX0_tryGrips_83 ?_
              refine lv_iconst (v := nI 1) hx hb dX0_tryGrips_84 (by decide +kernel) ?_
              refine lv_isub hx hb dX0_tryGrips_85 ?_
              refine va_mmax hx hb (hml.trans hl.1.symm) hown (hts _ (List.mem_of_getElem? (i := 10) rfl)) (hts _ (List.mem_of_getElem? (i := 11) rfl)) (hts _ (List.mem_of_getElem? (i := 8) rfl)) (hts _ (List.mem_of_getElem? (i := 12) rfl)) (Nat.le_of_ble_eq_true rfl) (Nat.le_of_ble_eq_true rfl) (Nat.zero_le _) (Nat.zero_le _) dX0_tryGrips_86 ?_
              refine W.top (v' := .int (nI (gripsTo G i (8 * i + 5) - 1))) (congrArg Value.int (mx_sub (by omega) (by omega))) ?_
              refine sg_ist hx hb hK hW 0 5 0 rfl rfl rfl (by omega) (by decide) (gW_r5 cI g (gripsTo G i) i (gripsTo G i (8 * i + 5) - 1)) (ss' := [gW cI g (up (gripsTo G i) (8 * i + 5) (gripsTo G i (8 * i + 5) - 1))]) rfl dX0_tryGrips_89 (fun H locs hW => ?_)
              refine lv_iinc (v := nI (i + 1)) (lv' := [(1, .int (nI (i + 1))), (0, .ref (g 0))]) hx hb dX0_tryGrips_90 hl (k := 0) rfl (nI_add _ 1) (by decide) rfl (fun ls hl => ?_)
              refine lv_goto (tgt := 2) hx hb dX0_tryGrips_93 (by decide) ?_
              have hW := hW.to (ss' := [gW cI g (gripsTo G (i + 1))]) (by simp only [gripsTo, holdF]; (repeat' split) <;> first | rfl | (exfalso; omega))
              exact ih (i + 1) (by omega) (by omega) _ _ hW _ (lv_sub hl [0, 1] rfl)
          · refine lv_aload_n hx hb dX0_tryGrips_33 rfl (lv_at hl 1 rfl) ?_
            refine sg_get (ci := 0) (C := RX0) (T := TX0) (N := 14) (v := .ref (g 6)) hx hb hts (fun _ h => List.mem_cons_of_mem _ (List.mem_append_right _ h)) hown hK hW 0 0 rfl rfl rfl 12 (by decide) (hts _ (List.mem_of_getElem? (i := 2) rfl)) rfl dX0_tryGrips_34 ?_
            refine lv_iload_n hx hb dX0_tryGrips_37 rfl (lv_at hl 0 rfl) ?_
            refine lv_iconst (v := nI 0) hx hb dX0_tryGrips_38 (by decide +kernel) ?_
            refine sg_ist hx hb hK hW 0 6 0 rfl rfl rfl (by omega) (by decide) (gW_r6 cI g (gripsTo G i) i 0) (ss' := [gW cI g (up (gripsTo G i) (8 * i + 6) 0)]) rfl dX0_tryGrips_39 (fun H locs hW => ?_)
            refine lv_aload_n hx hb dX0_tryGrips_40 rfl (lv_at hl 1 rfl) ?_
            refine sg_get (ci := 0) (C := RX0) (T := TX0) (N := 14) (v := .ref (g 7)) hx hb hts (fun _ h => List.mem_cons_of_mem _ (List.mem_append_right _ h)) hown hK hW 0 0 rfl rfl rfl 13 (by decide) (hts _ (List.mem_of_getElem? (i := 5) rfl)) rfl dX0_tryGrips_41 ?_
            refine lv_iload_n hx hb dX0_tryGrips_44 rfl (lv_at hl 0 rfl) ?_
            refine lv_sipush (v := nI 9999) hx hb dX0_tryGrips_45 (by decide +kernel) ?_
            refine lv_aload_n hx hb dX0_tryGrips_48 rfl (lv_at hl 1 rfl) ?_
            refine sg_get (ci := 0) (C := RX0) (T := TX0) (N := 14) (v := .ref (g 7)) hx hb hts (fun _ h => List.mem_cons_of_mem _ (List.mem_append_right _ h)) hown hK hW 0 0 rfl rfl rfl 13 (by decide) (hts _ (List.mem_of_getElem? (i := 5) rfl)) rfl dX0_tryGrips_49 ?_
            refine lv_iload_n hx hb dX0_tryGrips_52 rfl (lv_at hl 0 rfl) ?_
            refine sg_ild (v := nI ((gripsTo G i) (8 * i + 7))) hx hb hK hW 0 7 0 rfl rfl rfl (by omega) (by decide) (congrArg nI (up_ne (by omega))) dX0_tryGrips_53 ?_
            refine lv_iconst (v := nI 1) hx hb dX0_tryGrips_54 (by decide +kernel) ?_
            refine nn_add hx hb dX0_tryGrips_55 ?_
            refine va_mmin hx hb (hml.trans hl.1.symm) hown (hts _ (List.mem_of_getElem? (i := 6) rfl)) (hts _ (List.mem_of_getElem? (i := 7) rfl)) (hts _ (List.mem_of_getElem? (i := 8) rfl)) (hts _ (List.mem_of_getElem? (i := 9) rfl)) (Nat.le_of_ble_eq_true rfl) (Nat.le_of_ble_eq_true rfl) (Nat.zero_le _) (Nat.zero_le _) dX0_tryGrips_56 ?_
            refine W.top (v' := .int (nI (min 9999 (((gripsTo G i) (8 * i + 7)) + 1)))) (nn_min (by decide) (by omega)) ?_
            refine sg_ist hx hb hK hW 0 7 0 rfl rfl rfl (by omega) (by decide) (gW_r7 cI g (up (gripsTo G i) (8 * i + 6) 0) i (min 9999 (((gripsTo G i) (8 * i + 7)) + 1))) (ss' := [gW cI g (up (up (gripsTo G i) (8 * i + 6) 0) (8 * i + 7) (min 9999 (((gripsTo G i) (8 * i + 7)) + 1)))]) rfl dX0_tryGrips_59 (fun H locs hW => ?_)
            refine lv_goto (tgt := 90) hx hb dX0_tryGrips_60 (by decide) ?_
            refine lv_iinc (v := nI (i + 1)) (lv' := [(1, .int (nI (i + 1))), (0, .ref (g 0))]) hx hb dX0_tryGrips_90 hl (k := 0) rfl (nI_add _ 1) (by decide) rfl (fun ls hl => ?_)
            refine lv_goto (tgt := 2) hx hb dX0_tryGrips_93 (by decide) ?_
            have hW := hW.to (ss' := [gW cI g (gripsTo G (i + 1))]) (by simp only [gripsTo, holdF]; (repeat' split) <;> first | rfl | (exfalso; omega))
            exact ih (i + 1) (by omega) (by omega) _ _ hW _ (lv_sub hl [0, 1] rfl)
  have hW := hW.to (ss' := [gW cI g (gripsTo G 0)]) rfl
  exact lp2 (G 48 - 0 + 1) 0 (Nat.lt_succ_self _) (by omega) _ _ hW _ (lv_sub hl [0, 1] rfl)
abbrev rmX0_letSpeak : Room := { frames := 2, cells := 0, slots := 0, locals := 49 }
set_option maxRecDepth 100000 in
set_option maxHeartbeats 4000000 in
theorem M_X0_letSpeak (l : Launch) (D : va_G) (cI cJ : ClassId) (g G : Nat → Nat) (b : Nat) (hb30 : b < 2 ^ 30) (hG : OkG b G) : CE E0 l D vwCl [(cI, .int), (cJ, .long)] yX0_letSpeak wsX0_letSpeak rmX0_letSpeak [.ref (g 0)] [gW cI g G] (S := Unit) none (fun _ => True) (fun _ : Unit => [gW cI g (talkG G)]) 0 0 := by
  refine CE.ofW (cc := cX0_letSpeak) (maxL := 4) (ret := none) (lv := [(0, .ref (g 0))]) (by decide) rfl (Nat.le_of_ble_eq_true rfl) rfl ?_
  intro p e s m args below meth c ls A Q hQ hx hb hml hr hlocks hnm hown hts hK hA hE hW hl
  have hown : s.vm.findClass RX0 = some m.cls := hown
  obtain ⟨hg0, hg8, hg16, hg16b, hg24, hg32, hg40, hg48⟩ := hG.s
  have hoc8 := outC_le hG
  have hnl := nightN_le G
  refine lv_aload_n hx hb dX0_letSpeak_0 rfl (lv_at hl 0 rfl) ?_
  refine cl_Vi (As := []) (rest := []) (C := RX0) ⟨hx, hb, hml, hown, hts⟩ (M_X0_outCount l D cI cJ g G b hb30 hG) (cwV 0 hts gX0_letSpeak_X0_outCount rfl rfl rfl qX0_outCount ⟨Nat.le_of_ble_eq_true rfl, Nat.le_of_ble_eq_true rfl⟩) E0_good hK hA hW trivial [true] (fun _ => [gW cI g G]) rfl (fun _ => rfl) (fun _ => rfl) 0 0 rfl rfl rfl rfl hl.1 rfl (lv_room (Nat.le_of_ble_eq_true rfl)) dX0_letSpeak_1 ⟨Nat.zero_le _, Nat.zero_le _⟩ (fun _ H locs _ hW => ?_)
  refine lv_istore_n (lv' := [(1, .int (nI (outC G))), (0, .ref (g 0))]) hx hb dX0_letSpeak_4 rfl hl (by decide) rfl (fun ls hl => ?_)
  refine lv_aload_n hx hb dX0_letSpeak_5 rfl (lv_at hl 1 rfl) ?_
  refine cl_Vi (As := []) (rest := []) (C := RX0) ⟨hx, hb, hml, hown, hts⟩ (M_X0_isNight l D cI cJ g G b hb30 hG) (cwV 0 hts gX0_letSpeak_X0_isNight rfl rfl rfl qX0_isNight ⟨Nat.le_of_ble_eq_true rfl, Nat.le_of_ble_eq_true rfl⟩) E0_good hK hA hW trivial [true] (fun _ => [gW cI g G]) rfl (fun _ => rfl) (fun _ => rfl) 0 0 rfl rfl rfl rfl hl.1 rfl (lv_room (Nat.le_of_ble_eq_true rfl)) dX0_letSpeak_6 ⟨Nat.zero_le _, Nat.zero_le _⟩ (fun _ H locs _ hW => ?_)
  refine lv_istore_n (lv' := [(2, .int (nI (nightN G))), (1, .int (nI (outC G))), (0, .ref (g 0))]) hx hb dX0_letSpeak_9 rfl hl (by decide) rfl (fun ls hl => ?_)
  refine lv_iconst (v := nI 0) hx hb dX0_letSpeak_10 (by decide +kernel) ?_
  refine lv_istore_n (lv' := [(3, .int (nI 0)), (2, .int (nI (nightN G))), (1, .int (nI (outC G))), (0, .ref (g 0))]) hx hb dX0_letSpeak_11 rfl hl (by decide) rfl (fun ls hl => ?_)
  have lp12 : ∀ (n : Nat) (i : Nat), G 40 - i < n → i ≤ G 40 → ∀ (H : Heap) (locs : List Loc), Wo D vwCl A s.heap H locs [gW cI g (talkTo G i)] → ∀ ls : Array Slot, lv_has ls 4 [(3, .int (nI i)), (2, .int (nI (nightN G))), (1, .int (nI (outC G))), (0, .ref (g 0))] → W p l e rmX0_letSpeak s m args below meth c H locs 0 0 Q (F0 m 12 ls []) := by
    intro n
    induction n with
    | zero => intro i hm; exact absurd hm (Nat.not_lt_zero _)
    | succ n ih =>
      intro i hm hi H locs hW ls hl
      have h40 : talkTo G i 40 = G 40 := talk_keep G 40 (by decide) (by decide) i
      have hT := talkTo_ok hG i (by omega)
      obtain ⟨q0, q8, q16, q16b, q24, q32, q40, q48⟩ := hT.s
      have ho := talk_out G i
      have hn := talk_night G i
      refine lv_iload_n hx hb dX0_letSpeak_12 rfl (lv_at hl 0 rfl) ?_
      refine lv_aload_n hx hb dX0_letSpeak_13 rfl (lv_at hl 3 rfl) ?_
      refine sg_get (ci := 0) (C := RX0) (T := TX0) (N := 14) (v := .int (nI ((talkTo G i) 40))) hx hb hts (fun _ h => List.mem_cons_of_mem _ (List.mem_append_right _ h)) hown hK hW 0 0 rfl rfl rfl 5 (by decide) (hts _ (List.mem_of_getElem? (i := 1) rfl)) rfl dX0_letSpeak_14 ?_
      refine nn_cge (tgt := 102) hx hb dX0_letSpeak_17 (by decide) (by omega) (by omega) (fun c17 => ?_) (fun c17 => ?_)
      · exact rt_v hQ hx hb hr hlocks hW dX0_letSpeak_102 () rfl trivial (by rw [show i = G 40 by omega]; rfl)
      · have hmi := hT.m i (by omega)
        have hoi := outC_ge (G := talkTo G i) (i := i) (by omega)
        have htl := tellK_le (talkTo G i (8 * i + 1))
        refine lv_aload_n hx hb dX0_letSpeak_20 rfl (lv_at hl 3 rfl) ?_
        refine sg_get (ci := 0) (C := RX0) (T := TX0) (N := 14) (v := .ref (g 2)) hx hb hts (fun _ h => List.mem_cons_of_mem _ (List.mem_append_right _ h)) hown hK hW 0 0 rfl rfl rfl 7 (by decide) (hts _ (List.mem_of_getElem? (i := 2) rfl)) rfl dX0_letSpeak_21 ?_
        refine lv_iload_n hx hb dX0_letSpeak_24 rfl (lv_at hl 0 rfl) ?_
        refine sg_ild (v := nI ((talkTo G i) (8 * i + 2))) hx hb hK hW 0 2 0 rfl rfl rfl (by omega) (by decide) rfl dX0_letSpeak_25 ?_
        refine lv_iconst (v := nI 1) hx hb dX0_letSpeak_26 (by decide +kernel) ?_
        refine nn_cne (tgt := 96) hx hb dX0_letSpeak_27 (by decide) (by omega) (by decide) (fun c27 => ?_) (fun c27 => ?_)
        · refine lv_iinc (v := nI (i + 1)) (lv' := [(3, .int (nI (i + 1))), (2, .int (nI (nightN G))), (1, .int (nI (outC G))), (0, .ref (g 0))]) hx hb dX0_letSpeak_96 hl (k := 0) rfl (nI_add _ 1) (by decide) rfl (fun ls hl => ?_)
          refine lv_goto (tgt := 12) hx hb dX0_letSpeak_99 (by decide) ?_
          have hW := hW.to (ss' := [gW cI g (talkTo G (i + 1))]) (by simp only [talkTo, talkF, speaksN, ho, hn]; (repeat' split) <;> first | rfl | (exfalso; omega))
          exact ih (i + 1) (by omega) (by omega) _ _ hW _ (lv_sub hl [0, 1, 2, 3] rfl)
        · refine lv_aload_n hx hb dX0_letSpeak_30 rfl (lv_at hl 3 rfl) ?_
          refine lv_iload_n hx hb dX0_letSpeak_31 rfl (lv_at hl 0 rfl) ?_
          refine lv_iload_n hx hb dX0_letSpeak_32 rfl (lv_at hl 2 rfl) ?_
          refine lv_iload_n hx hb dX0_letSpeak_33 rfl (lv_at hl 1 rfl) ?_
          refine cl_Vi (As := [.int (nI i), .int (nI (outC G)), .int (nI (nightN G))]) (rest := []) (C := RX0) ⟨hx, hb, hml, hown, hts⟩ (M_X0_speaksNow l D cI cJ g (talkTo G i) b hb30 hT i (outC G) (nightN G) (by omega) (by omega) (by omega) (by omega)) (cwV 3 hts gX0_letSpeak_X0_speaksNow rfl rfl rfl qX0_speaksNow ⟨Nat.le_of_ble_eq_true rfl, Nat.le_of_ble_eq_true rfl⟩) E0_good hK hA hW trivial [true] (fun _ => [gW cI g (talkTo G i)]) rfl (fun _ => rfl) (fun _ => rfl) 0 0 rfl rfl rfl rfl hl.1 rfl (lv_room (Nat.le_of_ble_eq_true rfl)) dX0_letSpeak_34 ⟨Nat.zero_le _, Nat.zero_le _⟩ (fun _ H locs _ hW => ?_)
          have hspk : speakK ((talkTo G i) (8 * i + 1)) ((talkTo G i) (8 * i + 4)) ((outC G) - (talkTo G i) (8 * i + 2)) (nightN G) ((talkTo G i) 24) ≤ 1 := speakK_le _ _ _ _ _
          refine nn_zeq (tgt := 76) hx hb dX0_letSpeak_37 (by decide) (by omega) (fun c37 => ?_) (fun c37 => ?_)
          · refine lv_aload_n hx hb dX0_letSpeak_76 rfl (lv_at hl 3 rfl) ?_
            refine sg_get (ci := 0) (C := RX0) (T := TX0) (N := 14) (v := .ref (g 4)) hx hb hts (fun _ h => List.mem_cons_of_mem _ (List.mem_append_right _ h)) hown hK hW 0 0 rfl rfl rfl 9 (by decide) (hts _ (List.mem_of_getElem? (i := 9) rfl)) rfl dX0_letSpeak_77 ?_
            refine lv_iload_n hx hb dX0_letSpeak_80 rfl (lv_at hl 0 rfl) ?_
            refine lv_sipush (v := nI 999) hx hb dX0_letSpeak_81 (by decide +kernel) ?_
            refine lv_aload_n hx hb dX0_letSpeak_84 rfl (lv_at hl 3 rfl) ?_
            refine sg_get (ci := 0) (C := RX0) (T := TX0) (N := 14) (v := .ref (g 4)) hx hb hts (fun _ h => List.mem_cons_of_mem _ (List.mem_append_right _ h)) hown hK hW 0 0 rfl rfl rfl 9 (by decide) (hts _ (List.mem_of_getElem? (i := 9) rfl)) rfl dX0_letSpeak_85 ?_
            refine lv_iload_n hx hb dX0_letSpeak_88 rfl (lv_at hl 0 rfl) ?_
            refine sg_ild (v := nI ((talkTo G i) (8 * i + 4))) hx hb hK hW 0 4 0 rfl rfl rfl (by omega) (by decide) rfl dX0_letSpeak_89 ?_
            refine lv_iconst (v := nI 1) hx hb dX0_letSpeak_90 (by decide +kernel) ?_
            refine nn_add hx hb dX0_letSpeak_91 ?_
            refine va_mmin hx hb (hml.trans hl.1.symm) hown (hts _ (List.mem_of_getElem? (i := 10) rfl)) (hts _ (List.mem_of_getElem? (i := 11) rfl)) (hts _ (List.mem_of_getElem? (i := 7) rfl)) (hts _ (List.mem_of_getElem? (i := 12) rfl)) (Nat.le_of_ble_eq_true rfl) (Nat.le_of_ble_eq_true rfl) (Nat.zero_le _) (Nat.zero_le _) dX0_letSpeak_92 ?_
            refine W.top (v' := .int (nI (min 999 (((talkTo G i) (8 * i + 4)) + 1)))) (nn_min (by decide) (by omega)) ?_
            refine sg_ist hx hb hK hW 0 4 0 rfl rfl rfl (by omega) (by decide) (gW_r4 cI g (talkTo G i) i (min 999 (((talkTo G i) (8 * i + 4)) + 1))) (ss' := [gW cI g (up (talkTo G i) (8 * i + 4) (min 999 (((talkTo G i) (8 * i + 4)) + 1)))]) rfl dX0_letSpeak_95 (fun H locs hW => ?_)
            refine lv_iinc (v := nI (i + 1)) (lv' := [(3, .int (nI (i + 1))), (2, .int (nI (nightN G))), (1, .int (nI (outC G))), (0, .ref (g 0))]) hx hb dX0_letSpeak_96 hl (k := 0) rfl (nI_add _ 1) (by decide) rfl (fun ls hl => ?_)
            refine lv_goto (tgt := 12) hx hb dX0_letSpeak_99 (by decide) ?_
            have hW := hW.to (ss' := [gW cI g (talkTo G (i + 1))]) (by simp only [talkTo, talkF, speaksN, ho, hn]; (repeat' split) <;> first | rfl | (exfalso; omega))
            exact ih (i + 1) (by omega) (by omega) _ _ hW _ (lv_sub hl [0, 1, 2, 3] rfl)
          · refine lv_aload_n hx hb dX0_letSpeak_40 rfl (lv_at hl 3 rfl) ?_
            refine sg_get (ci := 0) (C := RX0) (T := TX0) (N := 14) (v := .ref (g 3)) hx hb hts (fun _ h => List.mem_cons_of_mem _ (List.mem_append_right _ h)) hown hK hW 0 0 rfl rfl rfl 8 (by decide) (hts _ (List.mem_of_getElem? (i := 3) rfl)) rfl dX0_letSpeak_41 ?_
            refine lv_iload_n hx hb dX0_letSpeak_44 rfl (lv_at hl 0 rfl) ?_
            refine lv_iconst (v := nI 0) hx hb dX0_letSpeak_45 (by decide +kernel) ?_
            refine lv_aload_n hx hb dX0_letSpeak_46 rfl (lv_at hl 3 rfl) ?_
            refine sg_get (ci := 0) (C := RX0) (T := TX0) (N := 14) (v := .ref (g 3)) hx hb hts (fun _ h => List.mem_cons_of_mem _ (List.mem_append_right _ h)) hown hK hW 0 0 rfl rfl rfl 8 (by decide) (hts _ (List.mem_of_getElem? (i := 3) rfl)) rfl dX0_letSpeak_47 ?_
            refine lv_iload_n hx hb dX0_letSpeak_50 rfl (lv_at hl 0 rfl) ?_
            refine sg_ild (v := nI ((talkTo G i) (8 * i + 3))) hx hb hK hW 0 3 0 rfl rfl rfl (by omega) (by decide) rfl dX0_letSpeak_51 ?_
            refine lv_aload_n hx hb dX0_letSpeak_52 rfl (lv_at hl 3 rfl) ?_
            refine sg_get (ci := 0) (C := RX0) (T := TX0) (N := 14) (v := .ref (g 1)) hx hb hts (fun _ h => List.mem_cons_of_mem _ (List.mem_append_right _ h)) hown hK hW 0 0 rfl rfl rfl 6 (by decide) (hts _ (List.mem_of_getElem? (i := 4) rfl)) rfl dX0_letSpeak_53 ?_
            refine lv_iload_n hx hb dX0_letSpeak_56 rfl (lv_at hl 0 rfl) ?_
            refine sg_ild (v := nI ((talkTo G i) (8 * i + 1))) hx hb hK hW 0 1 0 rfl rfl rfl (by omega) (by decide) rfl dX0_letSpeak_57 ?_
            refine cl_Si (As := [.int (nI ((talkTo G i) (8 * i + 1)))]) (rest := [.int (nI ((talkTo G i) (8 * i + 3))), .int (nI 0), .int (nI i), .ref (g 3)]) ⟨hx, hb, hml, hown, hts⟩ (M_X1_tells l D cI cJ ((talkTo G i) (8 * i + 1)) (by omega)) (va_cwS 1 hts gX0_letSpeak_X1_tells rfl rfl rfl qX1_tells ⟨Nat.le_of_ble_eq_true rfl, Nat.le_of_ble_eq_true rfl⟩) E0_good hK hA hW trivial [] (fun _ => [gW cI g (talkTo G i)]) rfl (fun _ => rfl) (fun _ => rfl) rfl hl.1 rfl (lv_room (Nat.le_of_ble_eq_true rfl)) dX0_letSpeak_58 ⟨Nat.zero_le _, Nat.zero_le _⟩ (fun _ H locs _ hW => ?_)
            refine lv_isub hx hb dX0_letSpeak_61 ?_
            refine va_mmax hx hb (hml.trans hl.1.symm) hown (hts _ (List.mem_of_getElem? (i := 5) rfl)) (hts _ (List.mem_of_getElem? (i := 6) rfl)) (hts _ (List.mem_of_getElem? (i := 7) rfl)) (hts _ (List.mem_of_getElem? (i := 8) rfl)) (Nat.le_of_ble_eq_true rfl) (Nat.le_of_ble_eq_true rfl) (Nat.zero_le _) (Nat.zero_le _) dX0_letSpeak_62 ?_
            refine W.top (v' := .int (nI (talkTo G i (8 * i + 3) - tellK (talkTo G i (8 * i + 1))))) (congrArg Value.int (mx_sub (by omega) (by omega))) ?_
            refine sg_ist hx hb hK hW 0 3 0 rfl rfl rfl (by omega) (by decide) (gW_r3 cI g (talkTo G i) i (talkTo G i (8 * i + 3) - tellK (talkTo G i (8 * i + 1)))) (ss' := [gW cI g (up (talkTo G i) (8 * i + 3) (talkTo G i (8 * i + 3) - tellK (talkTo G i (8 * i + 1))))]) rfl dX0_letSpeak_65 (fun H locs hW => ?_)
            refine lv_aload_n hx hb dX0_letSpeak_66 rfl (lv_at hl 3 rfl) ?_
            refine sg_get (ci := 0) (C := RX0) (T := TX0) (N := 14) (v := .ref (g 4)) hx hb hts (fun _ h => List.mem_cons_of_mem _ (List.mem_append_right _ h)) hown hK hW 0 0 rfl rfl rfl 9 (by decide) (hts _ (List.mem_of_getElem? (i := 9) rfl)) rfl dX0_letSpeak_67 ?_
            refine lv_iload_n hx hb dX0_letSpeak_70 rfl (lv_at hl 0 rfl) ?_
            refine lv_iconst (v := nI 0) hx hb dX0_letSpeak_71 (by decide +kernel) ?_
            refine sg_ist hx hb hK hW 0 4 0 rfl rfl rfl (by omega) (by decide) (gW_r4 cI g (up (talkTo G i) (8 * i + 3) (talkTo G i (8 * i + 3) - tellK (talkTo G i (8 * i + 1)))) i 0) (ss' := [gW cI g (up (up (talkTo G i) (8 * i + 3) (talkTo G i (8 * i + 3) - tellK (talkTo G i (8 * i + 1)))) (8 * i + 4) 0)]) rfl dX0_letSpeak_72 (fun H locs hW => ?_)
            refine lv_goto (tgt := 96) hx hb dX0_letSpeak_73 (by decide) ?_
            refine lv_iinc (v := nI (i + 1)) (lv' := [(3, .int (nI (i + 1))), (2, .int (nI (nightN G))), (1, .int (nI (outC G))), (0, .ref (g 0))]) hx hb dX0_letSpeak_96 hl (k := 0) rfl (nI_add _ 1) (by decide) rfl (fun ls hl => ?_)
            refine lv_goto (tgt := 12) hx hb dX0_letSpeak_99 (by decide) ?_
            have hW := hW.to (ss' := [gW cI g (talkTo G (i + 1))]) (by simp only [talkTo, talkF, speaksN, ho, hn]; (repeat' split) <;> first | rfl | (exfalso; omega))
            exact ih (i + 1) (by omega) (by omega) _ _ hW _ (lv_sub hl [0, 1, 2, 3] rfl)
  have hW := hW.to (ss' := [gW cI g (talkTo G 0)]) rfl
  exact lp12 (G 40 - 0 + 1) 0 (Nat.lt_succ_self _) (by omega) _ _ hW _ (lv_sub hl [0, 1, 2, 3] rfl)
abbrev rmX0_passMinute : Room := { frames := 3, cells := 0, slots := 0, locals := 74 }
set_option maxRecDepth 100000 in
set_option maxHeartbeats 4000000 in
theorem M_X0_passMinute (l : Launch) (D : va_G) (cI cJ : ClassId) (g G : Nat → Nat) (b : Nat) (hb30 : b < 2 ^ 30) (hG : OkG b G) : CE E0 l D vwCl [(cI, .int), (cJ, .long)] yX0_passMinute wsX0_passMinute rmX0_passMinute [.ref (g 0)] [gW cI g G] (S := Unit) none (fun _ => True) (fun _ : Unit => [gW cI g (stepG G)]) 0 0 := by
  refine CE.ofW (cc := cX0_passMinute) (maxL := 5) (ret := none) (lv := [(0, .ref (g 0))]) (by decide) rfl (Nat.le_of_ble_eq_true rfl) rfl ?_
  intro p e s m args below meth c ls A Q hQ hx hb hml hr hlocks hnm hown hts hK hA hE hW hl
  have hown : s.vm.findClass RX0 = some m.cls := hown
  obtain ⟨hg0, hg8, hg16, hg16b, hg24, hg32, hg40, hg48⟩ := hG.s
  have hpl := pushN_le hG
  have hwi := weightN_in hG
  have hsl := speedN_le G
  have hdv : pushN G / weightN G ≤ pushN G := Nat.div_le_self _ _
  have hmx : max 1 (G 24 / 10) ≤ 20 := by omega
  refine lv_aload_n hx hb dX0_passMinute_0 rfl (lv_at hl 0 rfl) ?_
  refine cl_Vi (As := []) (rest := []) (C := RX0) ⟨hx, hb, hml, hown, hts⟩ (M_X0_pushNow l D cI cJ g G b hb30 hG) (cwV 0 hts gX0_passMinute_X0_pushNow rfl rfl rfl qX0_pushNow ⟨Nat.le_of_ble_eq_true rfl, Nat.le_of_ble_eq_true rfl⟩) E0_good hK hA hW trivial [true] (fun _ => [gW cI g G]) rfl (fun _ => rfl) (fun _ => rfl) 0 0 rfl rfl rfl rfl hl.1 rfl (lv_room (Nat.le_of_ble_eq_true rfl)) dX0_passMinute_1 ⟨Nat.zero_le _, Nat.zero_le _⟩ (fun _ H locs _ hW => ?_)
  refine lv_istore_n (lv' := [(1, .int (nI (pushN G))), (0, .ref (g 0))]) hx hb dX0_passMinute_4 rfl hl (by decide) rfl (fun ls hl => ?_)
  refine lv_aload_n hx hb dX0_passMinute_5 rfl (lv_at hl 1 rfl) ?_
  refine cl_Vi (As := []) (rest := []) (C := RX0) ⟨hx, hb, hml, hown, hts⟩ (M_X0_weightNow l D cI cJ g G b hb30 hG) (cwV 0 hts gX0_passMinute_X0_weightNow rfl rfl rfl qX0_weightNow ⟨Nat.le_of_ble_eq_true rfl, Nat.le_of_ble_eq_true rfl⟩) E0_good hK hA hW trivial [true] (fun _ => [gW cI g G]) rfl (fun _ => rfl) (fun _ => rfl) 0 0 rfl rfl rfl rfl hl.1 rfl (lv_room (Nat.le_of_ble_eq_true rfl)) dX0_passMinute_6 ⟨Nat.zero_le _, Nat.zero_le _⟩ (fun _ H locs _ hW => ?_)
  refine lv_istore_n (lv' := [(2, .int (nI (weightN G))), (1, .int (nI (pushN G))), (0, .ref (g 0))]) hx hb dX0_passMinute_9 rfl hl (by decide) rfl (fun ls hl => ?_)
  refine lv_iload_n hx hb dX0_passMinute_10 rfl (lv_at hl 0 rfl) ?_
  refine nn_zle (tgt := 20) hx hb dX0_passMinute_11 (by decide) (by omega) (fun c11 => ?_) (fun c11 => ?_)
  · exfalso; omega
  · refine lv_iload_n hx hb dX0_passMinute_14 rfl (lv_at hl 1 rfl) ?_
    refine lv_iload_n hx hb dX0_passMinute_15 rfl (lv_at hl 0 rfl) ?_
    refine nn_div hx hb dX0_passMinute_16 (by omega) (by omega) (by omega) ?_
    refine lv_goto (tgt := 21) hx hb dX0_passMinute_17 (by decide) ?_
    refine lv_istore_n (lv' := [(3, .int (nI ((pushN G) / (weightN G)))), (2, .int (nI (weightN G))), (1, .int (nI (pushN G))), (0, .ref (g 0))]) hx hb dX0_passMinute_21 rfl hl (by decide) rfl (fun ls hl => ?_)
    refine lv_iconst (v := nI 1) hx hb dX0_passMinute_22 (by decide +kernel) ?_
    refine lv_aload_n hx hb dX0_passMinute_23 rfl (lv_at hl 3 rfl) ?_
    refine sg_get (ci := 0) (C := RX0) (T := TX0) (N := 14) (v := .int (nI (G 24))) hx hb hts (fun _ h => List.mem_cons_of_mem _ (List.mem_append_right _ h)) hown hK hW 0 0 rfl rfl rfl 3 (by decide) (hts _ (List.mem_of_getElem? (i := 1) rfl)) rfl dX0_passMinute_24 ?_
    refine lv_bipush (v := nI 10) hx hb dX0_passMinute_27 (by decide +kernel) ?_
    refine nn_div hx hb dX0_passMinute_29 (by omega) (by decide) (by decide) ?_
    refine va_mmax hx hb (hml.trans hl.1.symm) hown (hts _ (List.mem_of_getElem? (i := 2) rfl)) (hts _ (List.mem_of_getElem? (i := 3) rfl)) (hts _ (List.mem_of_getElem? (i := 4) rfl)) (hts _ (List.mem_of_getElem? (i := 5) rfl)) (Nat.le_of_ble_eq_true rfl) (Nat.le_of_ble_eq_true rfl) (Nat.zero_le _) (Nat.zero_le _) dX0_passMinute_30 ?_
    refine W.top (v' := .int (nI (max 1 ((G 24) / 10)))) (nn_max (by decide) (by omega)) ?_
    refine lv_istore (lv' := [(4, .int (nI (max 1 ((G 24) / 10)))), (3, .int (nI ((pushN G) / (weightN G)))), (2, .int (nI (weightN G))), (1, .int (nI (pushN G))), (0, .ref (g 0))]) hx hb dX0_passMinute_33 hl (by decide) rfl (fun ls hl => ?_)
    refine lv_aload_n hx hb dX0_passMinute_35 rfl (lv_at hl 4 rfl) ?_
    refine lv_iconst (v := nI 0) hx hb dX0_passMinute_36 (by decide +kernel) ?_
    refine lv_sipush (v := nI 200) hx hb dX0_passMinute_37 (by decide +kernel) ?_
    refine lv_aload_n hx hb dX0_passMinute_40 rfl (lv_at hl 4 rfl) ?_
    refine sg_get (ci := 0) (C := RX0) (T := TX0) (N := 14) (v := .int (nI (G 24))) hx hb hts (fun _ h => List.mem_cons_of_mem _ (List.mem_append_right _ h)) hown hK hW 0 0 rfl rfl rfl 3 (by decide) (hts _ (List.mem_of_getElem? (i := 1) rfl)) rfl dX0_passMinute_41 ?_
    refine lv_iload_n hx hb dX0_passMinute_44 rfl (lv_at hl 1 rfl) ?_
    refine nn_add hx hb dX0_passMinute_45 ?_
    refine lv_iload hx hb dX0_passMinute_46 (lv_at hl 0 rfl) ?_
    refine lv_isub hx hb dX0_passMinute_48 ?_
    refine va_mmin hx hb (hml.trans hl.1.symm) hown (hts _ (List.mem_of_getElem? (i := 6) rfl)) (hts _ (List.mem_of_getElem? (i := 7) rfl)) (hts _ (List.mem_of_getElem? (i := 4) rfl)) (hts _ (List.mem_of_getElem? (i := 8) rfl)) (Nat.le_of_ble_eq_true rfl) (Nat.le_of_ble_eq_true rfl) (Nat.zero_le _) (Nat.zero_le _) dX0_passMinute_49 ?_
    refine va_mmax hx hb (hml.trans hl.1.symm) hown (hts _ (List.mem_of_getElem? (i := 2) rfl)) (hts _ (List.mem_of_getElem? (i := 3) rfl)) (hts _ (List.mem_of_getElem? (i := 4) rfl)) (hts _ (List.mem_of_getElem? (i := 5) rfl)) (Nat.le_of_ble_eq_true rfl) (Nat.le_of_ble_eq_true rfl) (Nat.zero_le _) (Nat.zero_le _) dX0_passMinute_52 ?_
    refine W.top (v' := .int (nI (speedN G))) (congrArg Value.int (mx_clip (by omega) (by omega) (by decide) (by decide))) ?_
    refine sg_put (ci := 0) (C := RX0) (T := TX0) (N := 14) hx hb hts (fun _ h => List.mem_cons_of_mem _ (List.mem_append_right _ h)) tyX0 tyX0_ok nmX0 hown hK hW 0 0 rfl rfl rfl 3 (by decide) (hts _ (List.mem_of_getElem? (i := 1) rfl)) rfl rfl rfl (Nat.le_of_ble_eq_true rfl) (gW_s24 cI g G (speedN G)) (ss' := [gW cI g (up G 24 (speedN G))]) rfl dX0_passMinute_55 (fun H locs hW => ?_)
    refine lv_aload_n hx hb dX0_passMinute_58 rfl (lv_at hl 4 rfl) ?_
    refine lv_ldc (v := 999999) hx hb hown (hts _ (List.mem_of_getElem? (i := 9) rfl)) dX0_passMinute_59 ?_
    refine W.top (v' := .int (nI 999999)) rfl ?_
    refine lv_aload_n hx hb dX0_passMinute_61 rfl (lv_at hl 4 rfl) ?_
    refine sg_get (ci := 0) (C := RX0) (T := TX0) (N := 14) (v := .int (nI (G 32))) hx hb hts (fun _ h => List.mem_cons_of_mem _ (List.mem_append_right _ h)) hown hK hW 0 0 rfl rfl rfl 4 (by decide) (hts _ (List.mem_of_getElem? (i := 10) rfl)) (congrArg (fun z => some (Value.int (nI z))) (up_ne (by omega))) dX0_passMinute_62 ?_
    refine lv_aload_n hx hb dX0_passMinute_65 rfl (lv_at hl 4 rfl) ?_
    refine sg_get (ci := 0) (C := RX0) (T := TX0) (N := 14) (v := .int (nI (speedN G))) hx hb hts (fun _ h => List.mem_cons_of_mem _ (List.mem_append_right _ h)) hown hK hW 0 0 rfl rfl rfl 3 (by decide) (hts _ (List.mem_of_getElem? (i := 1) rfl)) (congrArg (fun z => some (Value.int (nI z))) (up_eq _ _ _)) dX0_passMinute_66 ?_
    refine nn_add hx hb dX0_passMinute_69 ?_
    refine va_mmin hx hb (hml.trans hl.1.symm) hown (hts _ (List.mem_of_getElem? (i := 6) rfl)) (hts _ (List.mem_of_getElem? (i := 7) rfl)) (hts _ (List.mem_of_getElem? (i := 4) rfl)) (hts _ (List.mem_of_getElem? (i := 8) rfl)) (Nat.le_of_ble_eq_true rfl) (Nat.le_of_ble_eq_true rfl) (Nat.zero_le _) (Nat.zero_le _) dX0_passMinute_70 ?_
    refine W.top (v' := .int (nI (min 999999 ((G 32) + (speedN G))))) (nn_min (by decide) (by omega)) ?_
    refine sg_put (ci := 0) (C := RX0) (T := TX0) (N := 14) hx hb hts (fun _ h => List.mem_cons_of_mem _ (List.mem_append_right _ h)) tyX0 tyX0_ok nmX0 hown hK hW 0 0 rfl rfl rfl 4 (by decide) (hts _ (List.mem_of_getElem? (i := 10) rfl)) rfl rfl rfl (Nat.le_of_ble_eq_true rfl) (gW_s32 cI g (up G 24 (speedN G)) (min 999999 ((G 32) + (speedN G)))) (ss' := [gW cI g (up (up G 24 (speedN G)) 32 (min 999999 ((G 32) + (speedN G))))]) rfl dX0_passMinute_73 (fun H locs hW => ?_)
    have hW := hW.to (ss' := [gW cI g (spinG G)]) rfl
    refine lv_aload_n hx hb dX0_passMinute_76 rfl (lv_at hl 4 rfl) ?_
    refine cl_Vv (As := []) (rest := []) (C := RX0) ⟨hx, hb, hml, hown, hts⟩ (M_X0_tryGrips l D cI cJ g (spinG G) b hb30 (spin_ok hG)) (cwV 0 hts gX0_passMinute_X0_tryGrips rfl rfl rfl qX0_tryGrips ⟨Nat.le_of_ble_eq_true rfl, Nat.le_of_ble_eq_true rfl⟩) E0_good hK hA hW trivial [true] (fun _ => [gW cI g (gripsG (spinG G))]) rfl (fun _ => rfl) (fun _ => rfl) 0 0 rfl rfl rfl rfl hl.1 rfl (lv_room (Nat.le_of_ble_eq_true rfl)) dX0_passMinute_77 ⟨Nat.zero_le _, Nat.zero_le _⟩ (fun _ H locs _ hW => ?_)
    refine lv_aload_n hx hb dX0_passMinute_80 rfl (lv_at hl 4 rfl) ?_
    refine cl_Vv (As := []) (rest := []) (C := RX0) ⟨hx, hb, hml, hown, hts⟩ (M_X0_letSpeak l D cI cJ g (gripsG (spinG G)) b hb30 (grips_ok (spin_ok hG))) (cwV 0 hts gX0_passMinute_X0_letSpeak rfl rfl rfl qX0_letSpeak ⟨Nat.le_of_ble_eq_true rfl, Nat.le_of_ble_eq_true rfl⟩) E0_good hK hA hW trivial [true] (fun _ => [gW cI g (talkG (gripsG (spinG G)))]) rfl (fun _ => rfl) (fun _ => rfl) 0 0 rfl rfl rfl rfl hl.1 rfl (lv_room (Nat.le_of_ble_eq_true rfl)) dX0_passMinute_81 ⟨Nat.zero_le _, Nat.zero_le _⟩ (fun _ H locs _ hW => ?_)
    refine lv_aload_n hx hb dX0_passMinute_84 rfl (lv_at hl 4 rfl) ?_
    refine lv_dup hx hb dX0_passMinute_85 rfl ?_
    refine sg_get (ci := 0) (C := RX0) (T := TX0) (N := 14) (v := .int (nI ((talkG (gripsG (spinG G))) 0))) hx hb hts (fun _ h => List.mem_cons_of_mem _ (List.mem_append_right _ h)) hown hK hW 0 0 rfl rfl rfl 0 (by decide) (hts _ (List.mem_of_getElem? (i := 11) rfl)) rfl dX0_passMinute_86 ?_
    refine lv_iconst (v := nI 1) hx hb dX0_passMinute_89 (by decide +kernel) ?_
    refine nn_add hx hb dX0_passMinute_90 ?_
    refine sg_put (ci := 0) (C := RX0) (T := TX0) (N := 14) hx hb hts (fun _ h => List.mem_cons_of_mem _ (List.mem_append_right _ h)) tyX0 tyX0_ok nmX0 hown hK hW 0 0 rfl rfl rfl 0 (by decide) (hts _ (List.mem_of_getElem? (i := 11) rfl)) rfl rfl rfl (Nat.le_of_ble_eq_true rfl) (gW_s0 cI g (talkG (gripsG (spinG G))) (((talkG (gripsG (spinG G))) 0) + 1)) (ss' := [gW cI g (up (talkG (gripsG (spinG G))) 0 (((talkG (gripsG (spinG G))) 0) + 1))]) rfl dX0_passMinute_91 (fun H locs hW => ?_)
    exact rt_v hQ hx hb hr hlocks hW dX0_passMinute_94 () rfl trivial rfl
abbrev rmX0_passMinutes : Room := { frames := 4, cells := 0, slots := 0, locals := 98 }
set_option maxRecDepth 100000 in
set_option maxHeartbeats 4000000 in
theorem M_X0_passMinutes (l : Launch) (D : va_G) (cI cJ : ClassId) (g G : Nat → Nat) (b : Nat) (hb30 : b < 2 ^ 30) (hG : OkG b G) (k : Nat) (hbk : b + k < 2 ^ 30) : CE E0 l D vwCl [(cI, .int), (cJ, .long)] yX0_passMinutes wsX0_passMinutes rmX0_passMinutes [.ref (g 0), .int (nI k)] [gW cI g G] (S := Unit) none (fun _ => True) (fun _ : Unit => [gW cI g (stepN G k)]) 0 0 := by
  refine CE.ofW (cc := cX0_passMinutes) (maxL := 3) (ret := none) (lv := [(0, .ref (g 0)), (1, .int (nI k))]) (by decide) rfl (Nat.le_of_ble_eq_true rfl) rfl ?_
  intro p e s m args below meth c ls A Q hQ hx hb hml hr hlocks hnm hown hts hK hA hE hW hl
  have hown : s.vm.findClass RX0 = some m.cls := hown
  refine lv_iconst (v := nI 0) hx hb dX0_passMinutes_0 (by decide +kernel) ?_
  refine lv_istore_n (lv' := [(2, .int (nI 0)), (0, .ref (g 0)), (1, .int (nI k))]) hx hb dX0_passMinutes_1 rfl hl (by decide) rfl (fun ls hl => ?_)
  have lp2 : ∀ (n : Nat) (i : Nat), k - i < n → i ≤ k → ∀ (H : Heap) (locs : List Loc), Wo D vwCl A s.heap H locs [gW cI g (stepN G i)] → ∀ ls : Array Slot, lv_has ls 3 [(2, .int (nI i)), (0, .ref (g 0)), (1, .int (nI k))] → W p l e rmX0_passMinutes s m args below meth c H locs 0 0 Q (F0 m 2 ls []) := by
    intro n
    induction n with
    | zero => intro i hm; exact absurd hm (Nat.not_lt_zero _)
    | succ n ih =>
      intro i hm hi H locs hW ls hl
      refine lv_iload_n hx hb dX0_passMinutes_2 rfl (lv_at hl 0 rfl) ?_
      refine lv_iload_n hx hb dX0_passMinutes_3 rfl (lv_at hl 2 rfl) ?_
      refine nn_cge (tgt := 17) hx hb dX0_passMinutes_4 (by decide) (by omega) (by omega) (fun c4 => ?_) (fun c4 => ?_)
      · exact rt_v hQ hx hb hr hlocks hW dX0_passMinutes_17 () rfl trivial (by rw [show i = k by omega])
      · refine lv_aload_n hx hb dX0_passMinutes_7 rfl (lv_at hl 1 rfl) ?_
        refine cl_Vv (As := []) (rest := []) (C := RX0) ⟨hx, hb, hml, hown, hts⟩ (M_X0_passMinute l D cI cJ g (stepN G i) (b + i) (by omega) (stepN_ok hG i)) (cwV 0 hts gX0_passMinutes_X0_passMinute rfl rfl rfl qX0_passMinute ⟨Nat.le_of_ble_eq_true rfl, Nat.le_of_ble_eq_true rfl⟩) E0_good hK hA hW trivial [true] (fun _ => [gW cI g (stepG (stepN G i))]) rfl (fun _ => rfl) (fun _ => rfl) 0 0 rfl rfl rfl rfl hl.1 rfl (lv_room (Nat.le_of_ble_eq_true rfl)) dX0_passMinutes_8 ⟨Nat.zero_le _, Nat.zero_le _⟩ (fun _ H locs _ hW => ?_)
        refine lv_iinc (v := nI (i + 1)) (lv' := [(2, .int (nI (i + 1))), (0, .ref (g 0)), (1, .int (nI k))]) hx hb dX0_passMinutes_11 hl (k := 0) rfl (nI_add _ 1) (by decide) rfl (fun ls hl => ?_)
        refine lv_goto (tgt := 2) hx hb dX0_passMinutes_14 (by decide) ?_
        have hW := hW.to (ss' := [gW cI g (stepN G (i + 1))]) rfl
        exact ih (i + 1) (by omega) (by omega) _ _ hW _ (lv_sub hl [0, 1, 2] rfl)
  have hW := hW.to (ss' := [gW cI g (stepN G 0)]) rfl
  exact lp2 (k - 0 + 1) 0 (Nat.lt_succ_self _) (by omega) _ _ hW _ (lv_sub hl [0, 1, 2] rfl)
end
section
section CP
variable {p : Program} {l : Launch} {e : Env} {R : Room} {s : State} {m : MethodId} {args : Array Value} {below : List Frame} {meth : Method} {c : Code} {H H0 : Heap} {locs : List Loc} {cells slots : Nat} {Q : State → Prop}
variable {cc : ByteArray} {pc : Nat} {ls : Array Slot} {rest : List Value} {D : va_G} {cl : List vw_C} {tys : List (ClassId × FieldType)} {A : Nat → Prop} {ss : List va_W}
theorem sg_cpyi (hx : p.tables.exec = Jvm.exec) (hb : c.code = cc) (hml : c.maxLocals = ls.size) {own : String} {index : Nat} (hown : s.vm.findClass own = some m.cls) (hlink : (Cond.methodLink own index arraycopyName).before args s = true) (hnat : (Cond.native arraycopyName).before args s = true) (hstat : (Cond.static arraycopyName).before args s = true) (hini : (Cond.initialized "java/lang/System").before args s = true)
    (hK : va_K D cl tys s) (hW : Wo D cl A H0 H locs ss) (i0 j0 i1 j1 t0 : Nat) {seg0 seg1 : va_W} {a0 a1 n0 n1 : Nat} {cA : ClassId} {f g : Nat → Int32} (hi0 : ss[i0]? = some seg0) (he0 : seg0[j0]? = some (a0, .inl (cA, n0, .inl f))) (hi1 : ss[i1]? = some seg1) (he1 : seg1[j1]? = some (a1, .inl (cA, n1, .inl g))) (ht : tys[t0]? = some (cA, .int)) {sp dp k : Nat} (h4 : sp + k ≤ n0) (h5 : dp + k ≤ n1) (hn0 : n0 < 2 ^ 31) (hn1 : n1 < 2 ^ 31)
    (hframes : 1 ≤ R.frames) (hlocals : (rest.map fun v => v.category).sum + (nativeFrameWords "java/lang/System" "arraycopy" 5 + 11) ≤ R.locals) {g' : Nat → Int32} (hg : ∀ q, q < n1 → va_cpy f g sp dp k q = g' q) {seg' : va_W} (hs : seg1.set j1 (a1, .inl (cA, n1, .inl g')) = seg') {ss' : List va_W} (hss : ss.set i1 seg' = ss') (hdg : decode cc pc = .ok (.invokestatic index, 3))
    (kk : ∀ (H1 : Heap) (locs1 : List Loc), Wo D cl A H0 H1 locs1 ss' → W p l e R s m args below meth c H1 locs1 cells slots Q (F0 m (pc + 3) ls rest)) : W p l e R s m args below meth c H locs cells slots Q (F0 m pc ls (.int (nI k) :: .int (nI dp) :: .ref a1 :: .int (nI sp) :: .ref a0 :: rest)) := by
  obtain ⟨q0, g1, -⟩ := sg_at ss i0 j0 seg0 _ hi0 he0
  obtain ⟨q1, g2, g3⟩ := sg_at ss i1 j1 seg1 _ hi1 he1
  subst hss; subst hs
  have e1 := nI_clamp (n := sp) (by omega)
  have e2 := nI_clamp (n := dp) (by omega)
  have e3 := nI_clamp (n := k) (by omega)
  refine va_copyi hx hb hml hown hlink hnat hstat hini hK hW.1 hW.2.1 hW.2.2 q0 q1 t0 t0 g1 g2 ht ht rfl (nI_pos (by omega)) (nI_pos (by omega)) (nI_pos (by omega)) (by rw [e1, e3]; exact h4) (by rw [e2, e3]; exact h5) (fun _ _ => rfl) hframes hlocals hdg (fun H1 locs1 hP hD hS => ?_)
  rw [e1, e2, e3, g3] at hP hD
  have hl : j1 < seg1.length := (List.getElem?_eq_some_iff.mp he1).1
  have hl2 : i1 < ss.length := (List.getElem?_eq_some_iff.mp hi1).1
  refine kk H1 locs1 (sg_fn (g := g') (⟨hP, hD, hS⟩ : Wo D cl A H0 H1 locs1 _) i1 j1 (List.getElem?_set_self hl2) (List.getElem?_set_self hl) hg rfl ?_)
  rw [List.set_set, List.set_set]
theorem sg_cpyl (hx : p.tables.exec = Jvm.exec) (hb : c.code = cc) (hml : c.maxLocals = ls.size) {own : String} {index : Nat} (hown : s.vm.findClass own = some m.cls) (hlink : (Cond.methodLink own index arraycopyName).before args s = true) (hnat : (Cond.native arraycopyName).before args s = true) (hstat : (Cond.static arraycopyName).before args s = true) (hini : (Cond.initialized "java/lang/System").before args s = true)
    (hK : va_K D cl tys s) (hW : Wo D cl A H0 H locs ss) (i0 j0 t0 : Nat) {seg0 : va_W} {a0 n0 : Nat} {cA : ClassId} {f : Nat → Int64} (hi0 : ss[i0]? = some seg0) (he0 : seg0[j0]? = some (a0, .inl (cA, n0, .inr (.inl f)))) (ht : tys[t0]? = some (cA, .long)) {sp dp k : Nat} (h4 : sp + k ≤ n0) (h5 : dp + k ≤ n0) (hn0 : n0 < 2 ^ 31)
    (hframes : 1 ≤ R.frames) (hlocals : (rest.map fun v => v.category).sum + (nativeFrameWords "java/lang/System" "arraycopy" 5 + 11) ≤ R.locals) {seg' : va_W} (hs : seg0.set j0 (a0, .inl (cA, n0, .inr (.inl (va_cpy f f sp dp k)))) = seg') {ss' : List va_W} (hss : ss.set i0 seg' = ss') (hdg : decode cc pc = .ok (.invokestatic index, 3))
    (kk : ∀ (H1 : Heap) (locs1 : List Loc), Wo D cl A H0 H1 locs1 ss' → W p l e R s m args below meth c H1 locs1 cells slots Q (F0 m (pc + 3) ls rest)) : W p l e R s m args below meth c H locs cells slots Q (F0 m pc ls (.int (nI k) :: .int (nI dp) :: .ref a0 :: .int (nI sp) :: .ref a0 :: rest)) := by
  obtain ⟨q0, g1, g3⟩ := sg_at ss i0 j0 seg0 _ hi0 he0
  subst hss; subst hs
  have e1 := nI_clamp (n := sp) (by omega)
  have e2 := nI_clamp (n := dp) (by omega)
  have e3 := nI_clamp (n := k) (by omega)
  refine va_copyl hx hb hml hown hlink hnat hstat hini hK hW.1 hW.2.1 hW.2.2 q0 q0 t0 t0 g1 g1 ht ht rfl (nI_pos (by omega)) (nI_pos (by omega)) (nI_pos (by omega)) (by rw [e1, e3]; exact h4) (by rw [e2, e3]; exact h5) (fun _ _ => rfl) hframes hlocals hdg (fun H1 locs1 hP hD hS => ?_)
  rw [e1, e2, e3, g3] at hP hD
  exact kk H1 locs1 ⟨hP, hD, hS⟩
end CP
def selR (r : Nat) (K G : Nat → Nat) : Nat → Nat := fun j => if j % 8 = r then K j else G j
theorem selR_in {r : Nat} {K G : Nat → Nat} {j : Nat} (h : j % 8 = r) : selR r K G j = K j := if_pos h
theorem selR_out {r : Nat} {K G : Nat → Nat} {j : Nat} (h : ¬ j % 8 = r) : selR r K G j = G j := if_neg h
theorem gW_sel1 (cI : ClassId) (g : Nat → Nat) (K G : Nat → Nat) : (gW cI g G).set 1 (g 1, .inl (cI, 8, .inl (fun i => nI (K (8 * i + 1))))) = gW cI g (selR 1 K G) := by
  have e0 : selR 1 K G 0 = G 0 := selR_out (by decide)
  have e1 : selR 1 K G 8 = G 8 := selR_out (by decide)
  have e2 : selR 1 K G 16 = G 16 := selR_out (by decide)
  have e3 : selR 1 K G 24 = G 24 := selR_out (by decide)
  have e4 : selR 1 K G 32 = G 32 := selR_out (by decide)
  have e5 : selR 1 K G 40 = G 40 := selR_out (by decide)
  have e6 : selR 1 K G 48 = G 48 := selR_out (by decide)
  have e7 : ∀ i : Nat, selR 1 K G (8 * i + 1) = K (8 * i + 1) := fun i => selR_in (by omega)
  have e8 : ∀ i : Nat, selR 1 K G (8 * i + 2) = G (8 * i + 2) := fun i => selR_out (by omega)
  have e9 : ∀ i : Nat, selR 1 K G (8 * i + 3) = G (8 * i + 3) := fun i => selR_out (by omega)
  have e10 : ∀ i : Nat, selR 1 K G (8 * i + 4) = G (8 * i + 4) := fun i => selR_out (by omega)
  have e11 : ∀ i : Nat, selR 1 K G (8 * i + 5) = G (8 * i + 5) := fun i => selR_out (by omega)
  have e12 : ∀ i : Nat, selR 1 K G (8 * i + 6) = G (8 * i + 6) := fun i => selR_out (by omega)
  have e13 : ∀ i : Nat, selR 1 K G (8 * i + 7) = G (8 * i + 7) := fun i => selR_out (by omega)
  simp only [gW, e0, e1, e2, e3, e4, e5, e6, e7, e8, e9, e10, e11, e12, e13, List.set]
theorem gW_sel2 (cI : ClassId) (g : Nat → Nat) (K G : Nat → Nat) : (gW cI g G).set 2 (g 2, .inl (cI, 8, .inl (fun i => nI (K (8 * i + 2))))) = gW cI g (selR 2 K G) := by
  have e0 : selR 2 K G 0 = G 0 := selR_out (by decide)
  have e1 : selR 2 K G 8 = G 8 := selR_out (by decide)
  have e2 : selR 2 K G 16 = G 16 := selR_out (by decide)
  have e3 : selR 2 K G 24 = G 24 := selR_out (by decide)
  have e4 : selR 2 K G 32 = G 32 := selR_out (by decide)
  have e5 : selR 2 K G 40 = G 40 := selR_out (by decide)
  have e6 : selR 2 K G 48 = G 48 := selR_out (by decide)
  have e7 : ∀ i : Nat, selR 2 K G (8 * i + 1) = G (8 * i + 1) := fun i => selR_out (by omega)
  have e8 : ∀ i : Nat, selR 2 K G (8 * i + 2) = K (8 * i + 2) := fun i => selR_in (by omega)
  have e9 : ∀ i : Nat, selR 2 K G (8 * i + 3) = G (8 * i + 3) := fun i => selR_out (by omega)
  have e10 : ∀ i : Nat, selR 2 K G (8 * i + 4) = G (8 * i + 4) := fun i => selR_out (by omega)
  have e11 : ∀ i : Nat, selR 2 K G (8 * i + 5) = G (8 * i + 5) := fun i => selR_out (by omega)
  have e12 : ∀ i : Nat, selR 2 K G (8 * i + 6) = G (8 * i + 6) := fun i => selR_out (by omega)
  have e13 : ∀ i : Nat, selR 2 K G (8 * i + 7) = G (8 * i + 7) := fun i => selR_out (by omega)
  simp only [gW, e0, e1, e2, e3, e4, e5, e6, e7, e8, e9, e10, e11, e12, e13, List.set]
theorem gW_sel3 (cI : ClassId) (g : Nat → Nat) (K G : Nat → Nat) : (gW cI g G).set 3 (g 3, .inl (cI, 8, .inl (fun i => nI (K (8 * i + 3))))) = gW cI g (selR 3 K G) := by
  have e0 : selR 3 K G 0 = G 0 := selR_out (by decide)
  have e1 : selR 3 K G 8 = G 8 := selR_out (by decide)
  have e2 : selR 3 K G 16 = G 16 := selR_out (by decide)
  have e3 : selR 3 K G 24 = G 24 := selR_out (by decide)
  have e4 : selR 3 K G 32 = G 32 := selR_out (by decide)
  have e5 : selR 3 K G 40 = G 40 := selR_out (by decide)
  have e6 : selR 3 K G 48 = G 48 := selR_out (by decide)
  have e7 : ∀ i : Nat, selR 3 K G (8 * i + 1) = G (8 * i + 1) := fun i => selR_out (by omega)
  have e8 : ∀ i : Nat, selR 3 K G (8 * i + 2) = G (8 * i + 2) := fun i => selR_out (by omega)
  have e9 : ∀ i : Nat, selR 3 K G (8 * i + 3) = K (8 * i + 3) := fun i => selR_in (by omega)
  have e10 : ∀ i : Nat, selR 3 K G (8 * i + 4) = G (8 * i + 4) := fun i => selR_out (by omega)
  have e11 : ∀ i : Nat, selR 3 K G (8 * i + 5) = G (8 * i + 5) := fun i => selR_out (by omega)
  have e12 : ∀ i : Nat, selR 3 K G (8 * i + 6) = G (8 * i + 6) := fun i => selR_out (by omega)
  have e13 : ∀ i : Nat, selR 3 K G (8 * i + 7) = G (8 * i + 7) := fun i => selR_out (by omega)
  simp only [gW, e0, e1, e2, e3, e4, e5, e6, e7, e8, e9, e10, e11, e12, e13, List.set]
theorem gW_sel4 (cI : ClassId) (g : Nat → Nat) (K G : Nat → Nat) : (gW cI g G).set 4 (g 4, .inl (cI, 8, .inl (fun i => nI (K (8 * i + 4))))) = gW cI g (selR 4 K G) := by
  have e0 : selR 4 K G 0 = G 0 := selR_out (by decide)
  have e1 : selR 4 K G 8 = G 8 := selR_out (by decide)
  have e2 : selR 4 K G 16 = G 16 := selR_out (by decide)
  have e3 : selR 4 K G 24 = G 24 := selR_out (by decide)
  have e4 : selR 4 K G 32 = G 32 := selR_out (by decide)
  have e5 : selR 4 K G 40 = G 40 := selR_out (by decide)
  have e6 : selR 4 K G 48 = G 48 := selR_out (by decide)
  have e7 : ∀ i : Nat, selR 4 K G (8 * i + 1) = G (8 * i + 1) := fun i => selR_out (by omega)
  have e8 : ∀ i : Nat, selR 4 K G (8 * i + 2) = G (8 * i + 2) := fun i => selR_out (by omega)
  have e9 : ∀ i : Nat, selR 4 K G (8 * i + 3) = G (8 * i + 3) := fun i => selR_out (by omega)
  have e10 : ∀ i : Nat, selR 4 K G (8 * i + 4) = K (8 * i + 4) := fun i => selR_in (by omega)
  have e11 : ∀ i : Nat, selR 4 K G (8 * i + 5) = G (8 * i + 5) := fun i => selR_out (by omega)
  have e12 : ∀ i : Nat, selR 4 K G (8 * i + 6) = G (8 * i + 6) := fun i => selR_out (by omega)
  have e13 : ∀ i : Nat, selR 4 K G (8 * i + 7) = G (8 * i + 7) := fun i => selR_out (by omega)
  simp only [gW, e0, e1, e2, e3, e4, e5, e6, e7, e8, e9, e10, e11, e12, e13, List.set]
theorem gW_sel5 (cI : ClassId) (g : Nat → Nat) (K G : Nat → Nat) : (gW cI g G).set 5 (g 5, .inl (cI, 6, .inl (fun i => nI (K (8 * i + 5))))) = gW cI g (selR 5 K G) := by
  have e0 : selR 5 K G 0 = G 0 := selR_out (by decide)
  have e1 : selR 5 K G 8 = G 8 := selR_out (by decide)
  have e2 : selR 5 K G 16 = G 16 := selR_out (by decide)
  have e3 : selR 5 K G 24 = G 24 := selR_out (by decide)
  have e4 : selR 5 K G 32 = G 32 := selR_out (by decide)
  have e5 : selR 5 K G 40 = G 40 := selR_out (by decide)
  have e6 : selR 5 K G 48 = G 48 := selR_out (by decide)
  have e7 : ∀ i : Nat, selR 5 K G (8 * i + 1) = G (8 * i + 1) := fun i => selR_out (by omega)
  have e8 : ∀ i : Nat, selR 5 K G (8 * i + 2) = G (8 * i + 2) := fun i => selR_out (by omega)
  have e9 : ∀ i : Nat, selR 5 K G (8 * i + 3) = G (8 * i + 3) := fun i => selR_out (by omega)
  have e10 : ∀ i : Nat, selR 5 K G (8 * i + 4) = G (8 * i + 4) := fun i => selR_out (by omega)
  have e11 : ∀ i : Nat, selR 5 K G (8 * i + 5) = K (8 * i + 5) := fun i => selR_in (by omega)
  have e12 : ∀ i : Nat, selR 5 K G (8 * i + 6) = G (8 * i + 6) := fun i => selR_out (by omega)
  have e13 : ∀ i : Nat, selR 5 K G (8 * i + 7) = G (8 * i + 7) := fun i => selR_out (by omega)
  simp only [gW, e0, e1, e2, e3, e4, e5, e6, e7, e8, e9, e10, e11, e12, e13, List.set]
theorem gW_sel6 (cI : ClassId) (g : Nat → Nat) (K G : Nat → Nat) : (gW cI g G).set 6 (g 6, .inl (cI, 6, .inl (fun i => nI (K (8 * i + 6))))) = gW cI g (selR 6 K G) := by
  have e0 : selR 6 K G 0 = G 0 := selR_out (by decide)
  have e1 : selR 6 K G 8 = G 8 := selR_out (by decide)
  have e2 : selR 6 K G 16 = G 16 := selR_out (by decide)
  have e3 : selR 6 K G 24 = G 24 := selR_out (by decide)
  have e4 : selR 6 K G 32 = G 32 := selR_out (by decide)
  have e5 : selR 6 K G 40 = G 40 := selR_out (by decide)
  have e6 : selR 6 K G 48 = G 48 := selR_out (by decide)
  have e7 : ∀ i : Nat, selR 6 K G (8 * i + 1) = G (8 * i + 1) := fun i => selR_out (by omega)
  have e8 : ∀ i : Nat, selR 6 K G (8 * i + 2) = G (8 * i + 2) := fun i => selR_out (by omega)
  have e9 : ∀ i : Nat, selR 6 K G (8 * i + 3) = G (8 * i + 3) := fun i => selR_out (by omega)
  have e10 : ∀ i : Nat, selR 6 K G (8 * i + 4) = G (8 * i + 4) := fun i => selR_out (by omega)
  have e11 : ∀ i : Nat, selR 6 K G (8 * i + 5) = G (8 * i + 5) := fun i => selR_out (by omega)
  have e12 : ∀ i : Nat, selR 6 K G (8 * i + 6) = K (8 * i + 6) := fun i => selR_in (by omega)
  have e13 : ∀ i : Nat, selR 6 K G (8 * i + 7) = G (8 * i + 7) := fun i => selR_out (by omega)
  simp only [gW, e0, e1, e2, e3, e4, e5, e6, e7, e8, e9, e10, e11, e12, e13, List.set]
theorem gW_sel7 (cI : ClassId) (g : Nat → Nat) (K G : Nat → Nat) : (gW cI g G).set 7 (g 7, .inl (cI, 6, .inl (fun i => nI (K (8 * i + 7))))) = gW cI g (selR 7 K G) := by
  have e0 : selR 7 K G 0 = G 0 := selR_out (by decide)
  have e1 : selR 7 K G 8 = G 8 := selR_out (by decide)
  have e2 : selR 7 K G 16 = G 16 := selR_out (by decide)
  have e3 : selR 7 K G 24 = G 24 := selR_out (by decide)
  have e4 : selR 7 K G 32 = G 32 := selR_out (by decide)
  have e5 : selR 7 K G 40 = G 40 := selR_out (by decide)
  have e6 : selR 7 K G 48 = G 48 := selR_out (by decide)
  have e7 : ∀ i : Nat, selR 7 K G (8 * i + 1) = G (8 * i + 1) := fun i => selR_out (by omega)
  have e8 : ∀ i : Nat, selR 7 K G (8 * i + 2) = G (8 * i + 2) := fun i => selR_out (by omega)
  have e9 : ∀ i : Nat, selR 7 K G (8 * i + 3) = G (8 * i + 3) := fun i => selR_out (by omega)
  have e10 : ∀ i : Nat, selR 7 K G (8 * i + 4) = G (8 * i + 4) := fun i => selR_out (by omega)
  have e11 : ∀ i : Nat, selR 7 K G (8 * i + 5) = G (8 * i + 5) := fun i => selR_out (by omega)
  have e12 : ∀ i : Nat, selR 7 K G (8 * i + 6) = G (8 * i + 6) := fun i => selR_out (by omega)
  have e13 : ∀ i : Nat, selR 7 K G (8 * i + 7) = K (8 * i + 7) := fun i => selR_in (by omega)
  simp only [gW, e0, e1, e2, e3, e4, e5, e6, e7, e8, e9, e10, e11, e12, e13, List.set]
theorem gW_ext (cI : ClassId) (g : Nat → Nat) (R K : Nat → Nat) (s0 : R 0 = K 0) (s8 : R 8 = K 8) (s16 : R 16 = K 16) (s24 : R 24 = K 24) (s32 : R 32 = K 32) (s40 : R 40 = K 40) (s48 : R 48 = K 48) (r1 : ∀ i : Nat, R (8 * i + 1) = K (8 * i + 1)) (r2 : ∀ i : Nat, R (8 * i + 2) = K (8 * i + 2)) (r3 : ∀ i : Nat, R (8 * i + 3) = K (8 * i + 3)) (r4 : ∀ i : Nat, R (8 * i + 4) = K (8 * i + 4)) (r5 : ∀ i : Nat, R (8 * i + 5) = K (8 * i + 5)) (r6 : ∀ i : Nat, R (8 * i + 6) = K (8 * i + 6)) (r7 : ∀ i : Nat, R (8 * i + 7) = K (8 * i + 7)) : gW cI g R = gW cI g K := by
  simp only [gW, s0, s8, s16, s24, s32, s40, s48, r1, r2, r3, r4, r5, r6, r7]
abbrev rmX0_become : Room := { frames := 1, cells := 0, slots := 0, locals := 48 }
set_option maxRecDepth 100000 in
set_option maxHeartbeats 4000000 in
/-- become: all numbers of the other -/
theorem M_X0_become (l : Launch) (D : va_G) (cI cJ : ClassId) (g o G K : Nat → Nat) : CE E0 l D vwCl [(cI, .int), (cJ, .long)] yX0_become wsX0_become rmX0_become [.ref (g 0), .ref (o 0)] [gW cI g G, gW cI o K] (S := Unit) none (fun _ => True) (fun _ : Unit => [gW cI g K, gW cI o K]) 0 0 := by
  refine CE.ofW (cc := cX0_become) (maxL := 2) (ret := none) (lv := [(0, .ref (g 0)), (1, .ref (o 0))]) (by decide) rfl (Nat.le_of_ble_eq_true rfl) rfl ?_
  intro p e s m args below meth c ls A Q hQ hx hb hml hr hlocks hnm hown hts hK hA hE hW hl
  have hown : s.vm.findClass RX0 = some m.cls := hown
  refine lv_aload_n hx hb dX0_become_0 rfl (lv_at hl 0 rfl) ?_
  refine lv_aload_n hx hb dX0_become_1 rfl (lv_at hl 1 rfl) ?_
  refine sg_get (ci := 0) (C := RX0) (T := TX0) (N := 14) (v := .int (nI (K 0))) hx hb hts (fun _ h => List.mem_cons_of_mem _ (List.mem_append_right _ h)) hown hK hW 1 0 rfl rfl rfl 0 (by decide) (hts _ (List.mem_of_getElem? (i := 1) rfl)) rfl dX0_become_2 ?_
  refine sg_put (ci := 0) (C := RX0) (T := TX0) (N := 14) hx hb hts (fun _ h => List.mem_cons_of_mem _ (List.mem_append_right _ h)) tyX0 tyX0_ok nmX0 hown hK hW 0 0 rfl rfl rfl 0 (by decide) (hts _ (List.mem_of_getElem? (i := 1) rfl)) rfl rfl rfl (Nat.le_of_ble_eq_true rfl) (gW_s0 cI g G (K 0)) (ss' := [gW cI g (up G 0 (K 0)), gW cI o K]) rfl dX0_become_5 (fun H locs hW => ?_)
  refine lv_aload_n hx hb dX0_become_8 rfl (lv_at hl 0 rfl) ?_
  refine lv_aload_n hx hb dX0_become_9 rfl (lv_at hl 1 rfl) ?_
  refine sg_get (ci := 0) (C := RX0) (T := TX0) (N := 14) (v := .int (nI (K 8))) hx hb hts (fun _ h => List.mem_cons_of_mem _ (List.mem_append_right _ h)) hown hK hW 1 0 rfl rfl rfl 1 (by decide) (hts _ (List.mem_of_getElem? (i := 2) rfl)) rfl dX0_become_10 ?_
  refine sg_put (ci := 0) (C := RX0) (T := TX0) (N := 14) hx hb hts (fun _ h => List.mem_cons_of_mem _ (List.mem_append_right _ h)) tyX0 tyX0_ok nmX0 hown hK hW 0 0 rfl rfl rfl 1 (by decide) (hts _ (List.mem_of_getElem? (i := 2) rfl)) rfl rfl rfl (Nat.le_of_ble_eq_true rfl) (gW_s8 cI g (up G 0 (K 0)) (K 8)) (ss' := [gW cI g (up (up G 0 (K 0)) 8 (K 8)), gW cI o K]) rfl dX0_become_13 (fun H locs hW => ?_)
  refine lv_aload_n hx hb dX0_become_16 rfl (lv_at hl 0 rfl) ?_
  refine lv_aload_n hx hb dX0_become_17 rfl (lv_at hl 1 rfl) ?_
  refine sg_get (ci := 0) (C := RX0) (T := TX0) (N := 14) (v := .int (nI (K 16))) hx hb hts (fun _ h => List.mem_cons_of_mem _ (List.mem_append_right _ h)) hown hK hW 1 0 rfl rfl rfl 2 (by decide) (hts _ (List.mem_of_getElem? (i := 3) rfl)) rfl dX0_become_18 ?_
  refine sg_put (ci := 0) (C := RX0) (T := TX0) (N := 14) hx hb hts (fun _ h => List.mem_cons_of_mem _ (List.mem_append_right _ h)) tyX0 tyX0_ok nmX0 hown hK hW 0 0 rfl rfl rfl 2 (by decide) (hts _ (List.mem_of_getElem? (i := 3) rfl)) rfl rfl rfl (Nat.le_of_ble_eq_true rfl) (gW_s16 cI g (up (up G 0 (K 0)) 8 (K 8)) (K 16)) (ss' := [gW cI g (up (up (up G 0 (K 0)) 8 (K 8)) 16 (K 16)), gW cI o K]) rfl dX0_become_21 (fun H locs hW => ?_)
  refine lv_aload_n hx hb dX0_become_24 rfl (lv_at hl 0 rfl) ?_
  refine lv_aload_n hx hb dX0_become_25 rfl (lv_at hl 1 rfl) ?_
  refine sg_get (ci := 0) (C := RX0) (T := TX0) (N := 14) (v := .int (nI (K 24))) hx hb hts (fun _ h => List.mem_cons_of_mem _ (List.mem_append_right _ h)) hown hK hW 1 0 rfl rfl rfl 3 (by decide) (hts _ (List.mem_of_getElem? (i := 4) rfl)) rfl dX0_become_26 ?_
  refine sg_put (ci := 0) (C := RX0) (T := TX0) (N := 14) hx hb hts (fun _ h => List.mem_cons_of_mem _ (List.mem_append_right _ h)) tyX0 tyX0_ok nmX0 hown hK hW 0 0 rfl rfl rfl 3 (by decide) (hts _ (List.mem_of_getElem? (i := 4) rfl)) rfl rfl rfl (Nat.le_of_ble_eq_true rfl) (gW_s24 cI g (up (up (up G 0 (K 0)) 8 (K 8)) 16 (K 16)) (K 24)) (ss' := [gW cI g (up (up (up (up G 0 (K 0)) 8 (K 8)) 16 (K 16)) 24 (K 24)), gW cI o K]) rfl dX0_become_29 (fun H locs hW => ?_)
  refine lv_aload_n hx hb dX0_become_32 rfl (lv_at hl 0 rfl) ?_
  refine lv_aload_n hx hb dX0_become_33 rfl (lv_at hl 1 rfl) ?_
  refine sg_get (ci := 0) (C := RX0) (T := TX0) (N := 14) (v := .int (nI (K 32))) hx hb hts (fun _ h => List.mem_cons_of_mem _ (List.mem_append_right _ h)) hown hK hW 1 0 rfl rfl rfl 4 (by decide) (hts _ (List.mem_of_getElem? (i := 5) rfl)) rfl dX0_become_34 ?_
  refine sg_put (ci := 0) (C := RX0) (T := TX0) (N := 14) hx hb hts (fun _ h => List.mem_cons_of_mem _ (List.mem_append_right _ h)) tyX0 tyX0_ok nmX0 hown hK hW 0 0 rfl rfl rfl 4 (by decide) (hts _ (List.mem_of_getElem? (i := 5) rfl)) rfl rfl rfl (Nat.le_of_ble_eq_true rfl) (gW_s32 cI g (up (up (up (up G 0 (K 0)) 8 (K 8)) 16 (K 16)) 24 (K 24)) (K 32)) (ss' := [gW cI g (up (up (up (up (up G 0 (K 0)) 8 (K 8)) 16 (K 16)) 24 (K 24)) 32 (K 32)), gW cI o K]) rfl dX0_become_37 (fun H locs hW => ?_)
  refine lv_aload_n hx hb dX0_become_40 rfl (lv_at hl 0 rfl) ?_
  refine lv_aload_n hx hb dX0_become_41 rfl (lv_at hl 1 rfl) ?_
  refine sg_get (ci := 0) (C := RX0) (T := TX0) (N := 14) (v := .int (nI (K 40))) hx hb hts (fun _ h => List.mem_cons_of_mem _ (List.mem_append_right _ h)) hown hK hW 1 0 rfl rfl rfl 5 (by decide) (hts _ (List.mem_of_getElem? (i := 6) rfl)) rfl dX0_become_42 ?_
  refine sg_put (ci := 0) (C := RX0) (T := TX0) (N := 14) hx hb hts (fun _ h => List.mem_cons_of_mem _ (List.mem_append_right _ h)) tyX0 tyX0_ok nmX0 hown hK hW 0 0 rfl rfl rfl 5 (by decide) (hts _ (List.mem_of_getElem? (i := 6) rfl)) rfl rfl rfl (Nat.le_of_ble_eq_true rfl) (gW_s40 cI g (up (up (up (up (up G 0 (K 0)) 8 (K 8)) 16 (K 16)) 24 (K 24)) 32 (K 32)) (K 40)) (ss' := [gW cI g (up (up (up (up (up (up G 0 (K 0)) 8 (K 8)) 16 (K 16)) 24 (K 24)) 32 (K 32)) 40 (K 40)), gW cI o K]) rfl dX0_become_45 (fun H locs hW => ?_)
  refine lv_aload_n hx hb dX0_become_48 rfl (lv_at hl 1 rfl) ?_
  refine sg_get (ci := 0) (C := RX0) (T := TX0) (N := 14) (v := .ref (o 1)) hx hb hts (fun _ h => List.mem_cons_of_mem _ (List.mem_append_right _ h)) hown hK hW 1 0 rfl rfl rfl 6 (by decide) (hts _ (List.mem_of_getElem? (i := 7) rfl)) rfl dX0_become_49 ?_
  refine lv_iconst (v := nI 0) hx hb dX0_become_52 (by decide +kernel) ?_
  refine lv_aload_n hx hb dX0_become_53 rfl (lv_at hl 0 rfl) ?_
  refine sg_get (ci := 0) (C := RX0) (T := TX0) (N := 14) (v := .ref (g 1)) hx hb hts (fun _ h => List.mem_cons_of_mem _ (List.mem_append_right _ h)) hown hK hW 0 0 rfl rfl rfl 6 (by decide) (hts _ (List.mem_of_getElem? (i := 7) rfl)) rfl dX0_become_54 ?_
  refine lv_iconst (v := nI 0) hx hb dX0_become_57 (by decide +kernel) ?_
  refine lv_bipush (v := nI 8) hx hb dX0_become_58 (by decide +kernel) ?_
  refine sg_cpyi (g' := fun i => nI (K (8 * i + 1))) hx hb (hml.trans hl.1.symm) hown (hts _ (List.mem_of_getElem? (i := 8) rfl)) (hts _ (List.mem_of_getElem? (i := 9) rfl)) (hts _ (List.mem_of_getElem? (i := 10) rfl)) (hts _ (List.mem_of_getElem? (i := 11) rfl)) hK hW 1 1 0 1 0 rfl rfl rfl rfl rfl (by decide) (by decide) (by decide) (by decide) (Nat.le_of_ble_eq_true rfl) (Nat.le_of_ble_eq_true rfl) (fun q hq => (pk_cpy_in (Nat.zero_le _) (by omega)).trans (by rw [Nat.zero_add, Nat.sub_zero])) (gW_sel1 cI g K (up (up (up (up (up (up G 0 (K 0)) 8 (K 8)) 16 (K 16)) 24 (K 24)) 32 (K 32)) 40 (K 40))) (ss' := [gW cI g (selR 1 K (up (up (up (up (up (up G 0 (K 0)) 8 (K 8)) 16 (K 16)) 24 (K 24)) 32 (K 32)) 40 (K 40))), gW cI o K]) rfl dX0_become_60 (fun H locs hW => ?_)
  refine lv_aload_n hx hb dX0_become_63 rfl (lv_at hl 1 rfl) ?_
  refine sg_get (ci := 0) (C := RX0) (T := TX0) (N := 14) (v := .ref (o 2)) hx hb hts (fun _ h => List.mem_cons_of_mem _ (List.mem_append_right _ h)) hown hK hW 1 0 rfl rfl rfl 7 (by decide) (hts _ (List.mem_of_getElem? (i := 12) rfl)) rfl dX0_become_64 ?_
  refine lv_iconst (v := nI 0) hx hb dX0_become_67 (by decide +kernel) ?_
  refine lv_aload_n hx hb dX0_become_68 rfl (lv_at hl 0 rfl) ?_
  refine sg_get (ci := 0) (C := RX0) (T := TX0) (N := 14) (v := .ref (g 2)) hx hb hts (fun _ h => List.mem_cons_of_mem _ (List.mem_append_right _ h)) hown hK hW 0 0 rfl rfl rfl 7 (by decide) (hts _ (List.mem_of_getElem? (i := 12) rfl)) rfl dX0_become_69 ?_
  refine lv_iconst (v := nI 0) hx hb dX0_become_72 (by decide +kernel) ?_
  refine lv_bipush (v := nI 8) hx hb dX0_become_73 (by decide +kernel) ?_
  refine sg_cpyi (g' := fun i => nI (K (8 * i + 2))) hx hb (hml.trans hl.1.symm) hown (hts _ (List.mem_of_getElem? (i := 8) rfl)) (hts _ (List.mem_of_getElem? (i := 9) rfl)) (hts _ (List.mem_of_getElem? (i := 10) rfl)) (hts _ (List.mem_of_getElem? (i := 11) rfl)) hK hW 1 2 0 2 0 rfl rfl rfl rfl rfl (by decide) (by decide) (by decide) (by decide) (Nat.le_of_ble_eq_true rfl) (Nat.le_of_ble_eq_true rfl) (fun q hq => (pk_cpy_in (Nat.zero_le _) (by omega)).trans (by rw [Nat.zero_add, Nat.sub_zero])) (gW_sel2 cI g K (selR 1 K (up (up (up (up (up (up G 0 (K 0)) 8 (K 8)) 16 (K 16)) 24 (K 24)) 32 (K 32)) 40 (K 40)))) (ss' := [gW cI g (selR 2 K (selR 1 K (up (up (up (up (up (up G 0 (K 0)) 8 (K 8)) 16 (K 16)) 24 (K 24)) 32 (K 32)) 40 (K 40)))), gW cI o K]) rfl dX0_become_75 (fun H locs hW => ?_)
  refine lv_aload_n hx hb dX0_become_78 rfl (lv_at hl 1 rfl) ?_
  refine sg_get (ci := 0) (C := RX0) (T := TX0) (N := 14) (v := .ref (o 3)) hx hb hts (fun _ h => List.mem_cons_of_mem _ (List.mem_append_right _ h)) hown hK hW 1 0 rfl rfl rfl 8 (by decide) (hts _ (List.mem_of_getElem? (i := 13) rfl)) rfl dX0_become_79 ?_
  refine lv_iconst (v := nI 0) hx hb dX0_become_82 (by decide +kernel) ?_
  refine lv_aload_n hx hb dX0_become_83 rfl (lv_at hl 0 rfl) ?_
  refine sg_get (ci := 0) (C := RX0) (T := TX0) (N := 14) (v := .ref (g 3)) hx hb hts (fun _ h => List.mem_cons_of_mem _ (List.mem_append_right _ h)) hown hK hW 0 0 rfl rfl rfl 8 (by decide) (hts _ (List.mem_of_getElem? (i := 13) rfl)) rfl dX0_become_84 ?_
  refine lv_iconst (v := nI 0) hx hb dX0_become_87 (by decide +kernel) ?_
  refine lv_bipush (v := nI 8) hx hb dX0_become_88 (by decide +kernel) ?_
  refine sg_cpyi (g' := fun i => nI (K (8 * i + 3))) hx hb (hml.trans hl.1.symm) hown (hts _ (List.mem_of_getElem? (i := 8) rfl)) (hts _ (List.mem_of_getElem? (i := 9) rfl)) (hts _ (List.mem_of_getElem? (i := 10) rfl)) (hts _ (List.mem_of_getElem? (i := 11) rfl)) hK hW 1 3 0 3 0 rfl rfl rfl rfl rfl (by decide) (by decide) (by decide) (by decide) (Nat.le_of_ble_eq_true rfl) (Nat.le_of_ble_eq_true rfl) (fun q hq => (pk_cpy_in (Nat.zero_le _) (by omega)).trans (by rw [Nat.zero_add, Nat.sub_zero])) (gW_sel3 cI g K (selR 2 K (selR 1 K (up (up (up (up (up (up G 0 (K 0)) 8 (K 8)) 16 (K 16)) 24 (K 24)) 32 (K 32)) 40 (K 40))))) (ss' := [gW cI g (selR 3 K (selR 2 K (selR 1 K (up (up (up (up (up (up G 0 (K 0)) 8 (K 8)) 16 (K 16)) 24 (K 24)) 32 (K 32)) 40 (K 40))))), gW cI o K]) rfl dX0_become_90 (fun H locs hW => ?_)
  refine lv_aload_n hx hb dX0_become_93 rfl (lv_at hl 1 rfl) ?_
  refine sg_get (ci := 0) (C := RX0) (T := TX0) (N := 14) (v := .ref (o 4)) hx hb hts (fun _ h => List.mem_cons_of_mem _ (List.mem_append_right _ h)) hown hK hW 1 0 rfl rfl rfl 9 (by decide) (hts _ (List.mem_of_getElem? (i := 14) rfl)) rfl dX0_become_94 ?_
  refine lv_iconst (v := nI 0) hx hb dX0_become_97 (by decide +kernel) ?_
  refine lv_aload_n hx hb dX0_become_98 rfl (lv_at hl 0 rfl) ?_
  refine sg_get (ci := 0) (C := RX0) (T := TX0) (N := 14) (v := .ref (g 4)) hx hb hts (fun _ h => List.mem_cons_of_mem _ (List.mem_append_right _ h)) hown hK hW 0 0 rfl rfl rfl 9 (by decide) (hts _ (List.mem_of_getElem? (i := 14) rfl)) rfl dX0_become_99 ?_
  refine lv_iconst (v := nI 0) hx hb dX0_become_102 (by decide +kernel) ?_
  refine lv_bipush (v := nI 8) hx hb dX0_become_103 (by decide +kernel) ?_
  refine sg_cpyi (g' := fun i => nI (K (8 * i + 4))) hx hb (hml.trans hl.1.symm) hown (hts _ (List.mem_of_getElem? (i := 8) rfl)) (hts _ (List.mem_of_getElem? (i := 9) rfl)) (hts _ (List.mem_of_getElem? (i := 10) rfl)) (hts _ (List.mem_of_getElem? (i := 11) rfl)) hK hW 1 4 0 4 0 rfl rfl rfl rfl rfl (by decide) (by decide) (by decide) (by decide) (Nat.le_of_ble_eq_true rfl) (Nat.le_of_ble_eq_true rfl) (fun q hq => (pk_cpy_in (Nat.zero_le _) (by omega)).trans (by rw [Nat.zero_add, Nat.sub_zero])) (gW_sel4 cI g K (selR 3 K (selR 2 K (selR 1 K (up (up (up (up (up (up G 0 (K 0)) 8 (K 8)) 16 (K 16)) 24 (K 24)) 32 (K 32)) 40 (K 40)))))) (ss' := [gW cI g (selR 4 K (selR 3 K (selR 2 K (selR 1 K (up (up (up (up (up (up G 0 (K 0)) 8 (K 8)) 16 (K 16)) 24 (K 24)) 32 (K 32)) 40 (K 40)))))), gW cI o K]) rfl dX0_become_105 (fun H locs hW => ?_)
  refine lv_aload_n hx hb dX0_become_108 rfl (lv_at hl 0 rfl) ?_
  refine lv_aload_n hx hb dX0_become_109 rfl (lv_at hl 1 rfl) ?_
  refine sg_get (ci := 0) (C := RX0) (T := TX0) (N := 14) (v := .int (nI (K 48))) hx hb hts (fun _ h => List.mem_cons_of_mem _ (List.mem_append_right _ h)) hown hK hW 1 0 rfl rfl rfl 10 (by decide) (hts _ (List.mem_of_getElem? (i := 15) rfl)) rfl dX0_become_110 ?_
  refine sg_put (ci := 0) (C := RX0) (T := TX0) (N := 14) hx hb hts (fun _ h => List.mem_cons_of_mem _ (List.mem_append_right _ h)) tyX0 tyX0_ok nmX0 hown hK hW 0 0 rfl rfl rfl 10 (by decide) (hts _ (List.mem_of_getElem? (i := 15) rfl)) rfl rfl rfl (Nat.le_of_ble_eq_true rfl) (gW_s48 cI g (selR 4 K (selR 3 K (selR 2 K (selR 1 K (up (up (up (up (up (up G 0 (K 0)) 8 (K 8)) 16 (K 16)) 24 (K 24)) 32 (K 32)) 40 (K 40)))))) (K 48)) (ss' := [gW cI g (up (selR 4 K (selR 3 K (selR 2 K (selR 1 K (up (up (up (up (up (up G 0 (K 0)) 8 (K 8)) 16 (K 16)) 24 (K 24)) 32 (K 32)) 40 (K 40)))))) 48 (K 48)), gW cI o K]) rfl dX0_become_113 (fun H locs hW => ?_)
  refine lv_aload_n hx hb dX0_become_116 rfl (lv_at hl 1 rfl) ?_
  refine sg_get (ci := 0) (C := RX0) (T := TX0) (N := 14) (v := .ref (o 5)) hx hb hts (fun _ h => List.mem_cons_of_mem _ (List.mem_append_right _ h)) hown hK hW 1 0 rfl rfl rfl 11 (by decide) (hts _ (List.mem_of_getElem? (i := 16) rfl)) rfl dX0_become_117 ?_
  refine lv_iconst (v := nI 0) hx hb dX0_become_120 (by decide +kernel) ?_
  refine lv_aload_n hx hb dX0_become_121 rfl (lv_at hl 0 rfl) ?_
  refine sg_get (ci := 0) (C := RX0) (T := TX0) (N := 14) (v := .ref (g 5)) hx hb hts (fun _ h => List.mem_cons_of_mem _ (List.mem_append_right _ h)) hown hK hW 0 0 rfl rfl rfl 11 (by decide) (hts _ (List.mem_of_getElem? (i := 16) rfl)) rfl dX0_become_122 ?_
  refine lv_iconst (v := nI 0) hx hb dX0_become_125 (by decide +kernel) ?_
  refine lv_bipush (v := nI 6) hx hb dX0_become_126 (by decide +kernel) ?_
  refine sg_cpyi (g' := fun i => nI (K (8 * i + 5))) hx hb (hml.trans hl.1.symm) hown (hts _ (List.mem_of_getElem? (i := 8) rfl)) (hts _ (List.mem_of_getElem? (i := 9) rfl)) (hts _ (List.mem_of_getElem? (i := 10) rfl)) (hts _ (List.mem_of_getElem? (i := 11) rfl)) hK hW 1 5 0 5 0 rfl rfl rfl rfl rfl (by decide) (by decide) (by decide) (by decide) (Nat.le_of_ble_eq_true rfl) (Nat.le_of_ble_eq_true rfl) (fun q hq => (pk_cpy_in (Nat.zero_le _) (by omega)).trans (by rw [Nat.zero_add, Nat.sub_zero])) (gW_sel5 cI g K (up (selR 4 K (selR 3 K (selR 2 K (selR 1 K (up (up (up (up (up (up G 0 (K 0)) 8 (K 8)) 16 (K 16)) 24 (K 24)) 32 (K 32)) 40 (K 40)))))) 48 (K 48))) (ss' := [gW cI g (selR 5 K (up (selR 4 K (selR 3 K (selR 2 K (selR 1 K (up (up (up (up (up (up G 0 (K 0)) 8 (K 8)) 16 (K 16)) 24 (K 24)) 32 (K 32)) 40 (K 40)))))) 48 (K 48))), gW cI o K]) rfl dX0_become_128 (fun H locs hW => ?_)
  refine lv_aload_n hx hb dX0_become_131 rfl (lv_at hl 1 rfl) ?_
  refine sg_get (ci := 0) (C := RX0) (T := TX0) (N := 14) (v := .ref (o 6)) hx hb hts (fun _ h => List.mem_cons_of_mem _ (List.mem_append_right _ h)) hown hK hW 1 0 rfl rfl rfl 12 (by decide) (hts _ (List.mem_of_getElem? (i := 17) rfl)) rfl dX0_become_132 ?_
  refine lv_iconst (v := nI 0) hx hb dX0_become_135 (by decide +kernel) ?_
  refine lv_aload_n hx hb dX0_become_136 rfl (lv_at hl 0 rfl) ?_
  refine sg_get (ci := 0) (C := RX0) (T := TX0) (N := 14) (v := .ref (g 6)) hx hb hts (fun _ h => List.mem_cons_of_mem _ (List.mem_append_right _ h)) hown hK hW 0 0 rfl rfl rfl 12 (by decide) (hts _ (List.mem_of_getElem? (i := 17) rfl)) rfl dX0_become_137 ?_
  refine lv_iconst (v := nI 0) hx hb dX0_become_140 (by decide +kernel) ?_
  refine lv_bipush (v := nI 6) hx hb dX0_become_141 (by decide +kernel) ?_
  refine sg_cpyi (g' := fun i => nI (K (8 * i + 6))) hx hb (hml.trans hl.1.symm) hown (hts _ (List.mem_of_getElem? (i := 8) rfl)) (hts _ (List.mem_of_getElem? (i := 9) rfl)) (hts _ (List.mem_of_getElem? (i := 10) rfl)) (hts _ (List.mem_of_getElem? (i := 11) rfl)) hK hW 1 6 0 6 0 rfl rfl rfl rfl rfl (by decide) (by decide) (by decide) (by decide) (Nat.le_of_ble_eq_true rfl) (Nat.le_of_ble_eq_true rfl) (fun q hq => (pk_cpy_in (Nat.zero_le _) (by omega)).trans (by rw [Nat.zero_add, Nat.sub_zero])) (gW_sel6 cI g K (selR 5 K (up (selR 4 K (selR 3 K (selR 2 K (selR 1 K (up (up (up (up (up (up G 0 (K 0)) 8 (K 8)) 16 (K 16)) 24 (K 24)) 32 (K 32)) 40 (K 40)))))) 48 (K 48)))) (ss' := [gW cI g (selR 6 K (selR 5 K (up (selR 4 K (selR 3 K (selR 2 K (selR 1 K (up (up (up (up (up (up G 0 (K 0)) 8 (K 8)) 16 (K 16)) 24 (K 24)) 32 (K 32)) 40 (K 40)))))) 48 (K 48)))), gW cI o K]) rfl dX0_become_143 (fun H locs hW => ?_)
  refine lv_aload_n hx hb dX0_become_146 rfl (lv_at hl 1 rfl) ?_
  refine sg_get (ci := 0) (C := RX0) (T := TX0) (N := 14) (v := .ref (o 7)) hx hb hts (fun _ h => List.mem_cons_of_mem _ (List.mem_append_right _ h)) hown hK hW 1 0 rfl rfl rfl 13 (by decide) (hts _ (List.mem_of_getElem? (i := 18) rfl)) rfl dX0_become_147 ?_
  refine lv_iconst (v := nI 0) hx hb dX0_become_150 (by decide +kernel) ?_
  refine lv_aload_n hx hb dX0_become_151 rfl (lv_at hl 0 rfl) ?_
  refine sg_get (ci := 0) (C := RX0) (T := TX0) (N := 14) (v := .ref (g 7)) hx hb hts (fun _ h => List.mem_cons_of_mem _ (List.mem_append_right _ h)) hown hK hW 0 0 rfl rfl rfl 13 (by decide) (hts _ (List.mem_of_getElem? (i := 18) rfl)) rfl dX0_become_152 ?_
  refine lv_iconst (v := nI 0) hx hb dX0_become_155 (by decide +kernel) ?_
  refine lv_bipush (v := nI 6) hx hb dX0_become_156 (by decide +kernel) ?_
  refine sg_cpyi (g' := fun i => nI (K (8 * i + 7))) hx hb (hml.trans hl.1.symm) hown (hts _ (List.mem_of_getElem? (i := 8) rfl)) (hts _ (List.mem_of_getElem? (i := 9) rfl)) (hts _ (List.mem_of_getElem? (i := 10) rfl)) (hts _ (List.mem_of_getElem? (i := 11) rfl)) hK hW 1 7 0 7 0 rfl rfl rfl rfl rfl (by decide) (by decide) (by decide) (by decide) (Nat.le_of_ble_eq_true rfl) (Nat.le_of_ble_eq_true rfl) (fun q hq => (pk_cpy_in (Nat.zero_le _) (by omega)).trans (by rw [Nat.zero_add, Nat.sub_zero])) (gW_sel7 cI g K (selR 6 K (selR 5 K (up (selR 4 K (selR 3 K (selR 2 K (selR 1 K (up (up (up (up (up (up G 0 (K 0)) 8 (K 8)) 16 (K 16)) 24 (K 24)) 32 (K 32)) 40 (K 40)))))) 48 (K 48))))) (ss' := [gW cI g (selR 7 K (selR 6 K (selR 5 K (up (selR 4 K (selR 3 K (selR 2 K (selR 1 K (up (up (up (up (up (up G 0 (K 0)) 8 (K 8)) 16 (K 16)) 24 (K 24)) 32 (K 32)) 40 (K 40)))))) 48 (K 48))))), gW cI o K]) rfl dX0_become_158 (fun H locs hW => ?_)
  exact rt_v hQ hx hb hr hlocks hW dX0_become_161 () rfl trivial (congrArg (fun z => [z, gW cI o K]) (gW_ext cI g _ K (by simp [selR, up]) (by simp [selR, up]) (by simp [selR, up]) (by simp [selR, up]) (by simp [selR, up]) (by simp [selR, up]) (by simp [selR, up]) (fun i => by rw [selR_out (by omega), selR_out (by omega), selR_out (by omega), up_ne (by omega), selR_out (by omega), selR_out (by omega), selR_out (by omega), selR_in (by omega)]) (fun i => by rw [selR_out (by omega), selR_out (by omega), selR_out (by omega), up_ne (by omega), selR_out (by omega), selR_out (by omega), selR_in (by omega)]) (fun i => by rw [selR_out (by omega), selR_out (by omega), selR_out (by omega), up_ne (by omega), selR_out (by omega), selR_in (by omega)]) (fun i => by rw [selR_out (by omega), selR_out (by omega), selR_out (by omega), up_ne (by omega), selR_in (by omega)]) (fun i => by rw [selR_out (by omega), selR_out (by omega), selR_in (by omega)]) (fun i => by rw [selR_out (by omega), selR_in (by omega)]) (fun i => by rw [selR_in (by omega)])))
set_option maxRecDepth 100000 in
set_option maxHeartbeats 4000000 in
/-- become: all numbers of the other -/
theorem M_X0_become2 (l : Launch) (D : va_G) (cI cJ : ClassId) (g o G K : Nat → Nat) : CE E0 l D vwCl [(cI, .int), (cJ, .long)] yX0_become wsX0_become rmX0_become [.ref (g 0), .ref (o 0)] [gW cI o K, gW cI g G] (S := Unit) none (fun _ => True) (fun _ : Unit => [gW cI o K, gW cI g K]) 0 0 := by
  refine CE.ofW (cc := cX0_become) (maxL := 2) (ret := none) (lv := [(0, .ref (g 0)), (1, .ref (o 0))]) (by decide) rfl (Nat.le_of_ble_eq_true rfl) rfl ?_
  intro p e s m args below meth c ls A Q hQ hx hb hml hr hlocks hnm hown hts hK hA hE hW hl
  have hown : s.vm.findClass RX0 = some m.cls := hown
  refine lv_aload_n hx hb dX0_become_0 rfl (lv_at hl 0 rfl) ?_
  refine lv_aload_n hx hb dX0_become_1 rfl (lv_at hl 1 rfl) ?_
  refine sg_get (ci := 0) (C := RX0) (T := TX0) (N := 14) (v := .int (nI (K 0))) hx hb hts (fun _ h => List.mem_cons_of_mem _ (List.mem_append_right _ h)) hown hK hW 0 0 rfl rfl rfl 0 (by decide) (hts _ (List.mem_of_getElem? (i := 1) rfl)) rfl dX0_become_2 ?_
  refine sg_put (ci := 0) (C := RX0) (T := TX0) (N := 14) hx hb hts (fun _ h => List.mem_cons_of_mem _ (List.mem_append_right _ h)) tyX0 tyX0_ok nmX0 hown hK hW 1 0 rfl rfl rfl 0 (by decide) (hts _ (List.mem_of_getElem? (i := 1) rfl)) rfl rfl rfl (Nat.le_of_ble_eq_true rfl) (gW_s0 cI g G (K 0)) (ss' := [gW cI o K, gW cI g (up G 0 (K 0))]) rfl dX0_become_5 (fun H locs hW => ?_)
  refine lv_aload_n hx hb dX0_become_8 rfl (lv_at hl 0 rfl) ?_
  refine lv_aload_n hx hb dX0_become_9 rfl (lv_at hl 1 rfl) ?_
  refine sg_get (ci := 0) (C := RX0) (T := TX0) (N := 14) (v := .int (nI (K 8))) hx hb hts (fun _ h => List.mem_cons_of_mem _ (List.mem_append_right _ h)) hown hK hW 0 0 rfl rfl rfl 1 (by decide) (hts _ (List.mem_of_getElem? (i := 2) rfl)) rfl dX0_become_10 ?_
  refine sg_put (ci := 0) (C := RX0) (T := TX0) (N := 14) hx hb hts (fun _ h => List.mem_cons_of_mem _ (List.mem_append_right _ h)) tyX0 tyX0_ok nmX0 hown hK hW 1 0 rfl rfl rfl 1 (by decide) (hts _ (List.mem_of_getElem? (i := 2) rfl)) rfl rfl rfl (Nat.le_of_ble_eq_true rfl) (gW_s8 cI g (up G 0 (K 0)) (K 8)) (ss' := [gW cI o K, gW cI g (up (up G 0 (K 0)) 8 (K 8))]) rfl dX0_become_13 (fun H locs hW => ?_)
  refine lv_aload_n hx hb dX0_become_16 rfl (lv_at hl 0 rfl) ?_
  refine lv_aload_n hx hb dX0_become_17 rfl (lv_at hl 1 rfl) ?_
  refine sg_get (ci := 0) (C := RX0) (T := TX0) (N := 14) (v := .int (nI (K 16))) hx hb hts (fun _ h => List.mem_cons_of_mem _ (List.mem_append_right _ h)) hown hK hW 0 0 rfl rfl rfl 2 (by decide) (hts _ (List.mem_of_getElem? (i := 3) rfl)) rfl dX0_become_18 ?_
  refine sg_put (ci := 0) (C := RX0) (T := TX0) (N := 14) hx hb hts (fun _ h => List.mem_cons_of_mem _ (List.mem_append_right _ h)) tyX0 tyX0_ok nmX0 hown hK hW 1 0 rfl rfl rfl 2 (by decide) (hts _ (List.mem_of_getElem? (i := 3) rfl)) rfl rfl rfl (Nat.le_of_ble_eq_true rfl) (gW_s16 cI g (up (up G 0 (K 0)) 8 (K 8)) (K 16)) (ss' := [gW cI o K, gW cI g (up (up (up G 0 (K 0)) 8 (K 8)) 16 (K 16))]) rfl dX0_become_21 (fun H locs hW => ?_)
  refine lv_aload_n hx hb dX0_become_24 rfl (lv_at hl 0 rfl) ?_
  refine lv_aload_n hx hb dX0_become_25 rfl (lv_at hl 1 rfl) ?_
  refine sg_get (ci := 0) (C := RX0) (T := TX0) (N := 14) (v := .int (nI (K 24))) hx hb hts (fun _ h => List.mem_cons_of_mem _ (List.mem_append_right _ h)) hown hK hW 0 0 rfl rfl rfl 3 (by decide) (hts _ (List.mem_of_getElem? (i := 4) rfl)) rfl dX0_become_26 ?_
  refine sg_put (ci := 0) (C := RX0) (T := TX0) (N := 14) hx hb hts (fun _ h => List.mem_cons_of_mem _ (List.mem_append_right _ h)) tyX0 tyX0_ok nmX0 hown hK hW 1 0 rfl rfl rfl 3 (by decide) (hts _ (List.mem_of_getElem? (i := 4) rfl)) rfl rfl rfl (Nat.le_of_ble_eq_true rfl) (gW_s24 cI g (up (up (up G 0 (K 0)) 8 (K 8)) 16 (K 16)) (K 24)) (ss' := [gW cI o K, gW cI g (up (up (up (up G 0 (K 0)) 8 (K 8)) 16 (K 16)) 24 (K 24))]) rfl dX0_become_29 (fun H locs hW => ?_)
  refine lv_aload_n hx hb dX0_become_32 rfl (lv_at hl 0 rfl) ?_
  refine lv_aload_n hx hb dX0_become_33 rfl (lv_at hl 1 rfl) ?_
  refine sg_get (ci := 0) (C := RX0) (T := TX0) (N := 14) (v := .int (nI (K 32))) hx hb hts (fun _ h => List.mem_cons_of_mem _ (List.mem_append_right _ h)) hown hK hW 0 0 rfl rfl rfl 4 (by decide) (hts _ (List.mem_of_getElem? (i := 5) rfl)) rfl dX0_become_34 ?_
  refine sg_put (ci := 0) (C := RX0) (T := TX0) (N := 14) hx hb hts (fun _ h => List.mem_cons_of_mem _ (List.mem_append_right _ h)) tyX0 tyX0_ok nmX0 hown hK hW 1 0 rfl rfl rfl 4 (by decide) (hts _ (List.mem_of_getElem? (i := 5) rfl)) rfl rfl rfl (Nat.le_of_ble_eq_true rfl) (gW_s32 cI g (up (up (up (up G 0 (K 0)) 8 (K 8)) 16 (K 16)) 24 (K 24)) (K 32)) (ss' := [gW cI o K, gW cI g (up (up (up (up (up G 0 (K 0)) 8 (K 8)) 16 (K 16)) 24 (K 24)) 32 (K 32))]) rfl dX0_become_37 (fun H locs hW => ?_)
  refine lv_aload_n hx hb dX0_become_40 rfl (lv_at hl 0 rfl) ?_
  refine lv_aload_n hx hb dX0_become_41 rfl (lv_at hl 1 rfl) ?_
  refine sg_get (ci := 0) (C := RX0) (T := TX0) (N := 14) (v := .int (nI (K 40))) hx hb hts (fun _ h => List.mem_cons_of_mem _ (List.mem_append_right _ h)) hown hK hW 0 0 rfl rfl rfl 5 (by decide) (hts _ (List.mem_of_getElem? (i := 6) rfl)) rfl dX0_become_42 ?_
  refine sg_put (ci := 0) (C := RX0) (T := TX0) (N := 14) hx hb hts (fun _ h => List.mem_cons_of_mem _ (List.mem_append_right _ h)) tyX0 tyX0_ok nmX0 hown hK hW 1 0 rfl rfl rfl 5 (by decide) (hts _ (List.mem_of_getElem? (i := 6) rfl)) rfl rfl rfl (Nat.le_of_ble_eq_true rfl) (gW_s40 cI g (up (up (up (up (up G 0 (K 0)) 8 (K 8)) 16 (K 16)) 24 (K 24)) 32 (K 32)) (K 40)) (ss' := [gW cI o K, gW cI g (up (up (up (up (up (up G 0 (K 0)) 8 (K 8)) 16 (K 16)) 24 (K 24)) 32 (K 32)) 40 (K 40))]) rfl dX0_become_45 (fun H locs hW => ?_)
  refine lv_aload_n hx hb dX0_become_48 rfl (lv_at hl 1 rfl) ?_
  refine sg_get (ci := 0) (C := RX0) (T := TX0) (N := 14) (v := .ref (o 1)) hx hb hts (fun _ h => List.mem_cons_of_mem _ (List.mem_append_right _ h)) hown hK hW 0 0 rfl rfl rfl 6 (by decide) (hts _ (List.mem_of_getElem? (i := 7) rfl)) rfl dX0_become_49 ?_
  refine lv_iconst (v := nI 0) hx hb dX0_become_52 (by decide +kernel) ?_
  refine lv_aload_n hx hb dX0_become_53 rfl (lv_at hl 0 rfl) ?_
  refine sg_get (ci := 0) (C := RX0) (T := TX0) (N := 14) (v := .ref (g 1)) hx hb hts (fun _ h => List.mem_cons_of_mem _ (List.mem_append_right _ h)) hown hK hW 1 0 rfl rfl rfl 6 (by decide) (hts _ (List.mem_of_getElem? (i := 7) rfl)) rfl dX0_become_54 ?_
  refine lv_iconst (v := nI 0) hx hb dX0_become_57 (by decide +kernel) ?_
  refine lv_bipush (v := nI 8) hx hb dX0_become_58 (by decide +kernel) ?_
  refine sg_cpyi (g' := fun i => nI (K (8 * i + 1))) hx hb (hml.trans hl.1.symm) hown (hts _ (List.mem_of_getElem? (i := 8) rfl)) (hts _ (List.mem_of_getElem? (i := 9) rfl)) (hts _ (List.mem_of_getElem? (i := 10) rfl)) (hts _ (List.mem_of_getElem? (i := 11) rfl)) hK hW 0 1 1 1 0 rfl rfl rfl rfl rfl (by decide) (by decide) (by decide) (by decide) (Nat.le_of_ble_eq_true rfl) (Nat.le_of_ble_eq_true rfl) (fun q hq => (pk_cpy_in (Nat.zero_le _) (by omega)).trans (by rw [Nat.zero_add, Nat.sub_zero])) (gW_sel1 cI g K (up (up (up (up (up (up G 0 (K 0)) 8 (K 8)) 16 (K 16)) 24 (K 24)) 32 (K 32)) 40 (K 40))) (ss' := [gW cI o K, gW cI g (selR 1 K (up (up (up (up (up (up G 0 (K 0)) 8 (K 8)) 16 (K 16)) 24 (K 24)) 32 (K 32)) 40 (K 40)))]) rfl dX0_become_60 (fun H locs hW => ?_)
  refine lv_aload_n hx hb dX0_become_63 rfl (lv_at hl 1 rfl) ?_
  refine sg_get (ci := 0) (C := RX0) (T := TX0) (N := 14) (v := .ref (o 2)) hx hb hts (fun _ h => List.mem_cons_of_mem _ (List.mem_append_right _ h)) hown hK hW 0 0 rfl rfl rfl 7 (by decide) (hts _ (List.mem_of_getElem? (i := 12) rfl)) rfl dX0_become_64 ?_
  refine lv_iconst (v := nI 0) hx hb dX0_become_67 (by decide +kernel) ?_
  refine lv_aload_n hx hb dX0_become_68 rfl (lv_at hl 0 rfl) ?_
  refine sg_get (ci := 0) (C := RX0) (T := TX0) (N := 14) (v := .ref (g 2)) hx hb hts (fun _ h => List.mem_cons_of_mem _ (List.mem_append_right _ h)) hown hK hW 1 0 rfl rfl rfl 7 (by decide) (hts _ (List.mem_of_getElem? (i := 12) rfl)) rfl dX0_become_69 ?_
  refine lv_iconst (v := nI 0) hx hb dX0_become_72 (by decide +kernel) ?_
  refine lv_bipush (v := nI 8) hx hb dX0_become_73 (by decide +kernel) ?_
  refine sg_cpyi (g' := fun i => nI (K (8 * i + 2))) hx hb (hml.trans hl.1.symm) hown (hts _ (List.mem_of_getElem? (i := 8) rfl)) (hts _ (List.mem_of_getElem? (i := 9) rfl)) (hts _ (List.mem_of_getElem? (i := 10) rfl)) (hts _ (List.mem_of_getElem? (i := 11) rfl)) hK hW 0 2 1 2 0 rfl rfl rfl rfl rfl (by decide) (by decide) (by decide) (by decide) (Nat.le_of_ble_eq_true rfl) (Nat.le_of_ble_eq_true rfl) (fun q hq => (pk_cpy_in (Nat.zero_le _) (by omega)).trans (by rw [Nat.zero_add, Nat.sub_zero])) (gW_sel2 cI g K (selR 1 K (up (up (up (up (up (up G 0 (K 0)) 8 (K 8)) 16 (K 16)) 24 (K 24)) 32 (K 32)) 40 (K 40)))) (ss' := [gW cI o K, gW cI g (selR 2 K (selR 1 K (up (up (up (up (up (up G 0 (K 0)) 8 (K 8)) 16 (K 16)) 24 (K 24)) 32 (K 32)) 40 (K 40))))]) rfl dX0_become_75 (fun H locs hW => ?_)
  refine lv_aload_n hx hb dX0_become_78 rfl (lv_at hl 1 rfl) ?_
  refine sg_get (ci := 0) (C := RX0) (T := TX0) (N := 14) (v := .ref (o 3)) hx hb hts (fun _ h => List.mem_cons_of_mem _ (List.mem_append_right _ h)) hown hK hW 0 0 rfl rfl rfl 8 (by decide) (hts _ (List.mem_of_getElem? (i := 13) rfl)) rfl dX0_become_79 ?_
  refine lv_iconst (v := nI 0) hx hb dX0_become_82 (by decide +kernel) ?_
  refine lv_aload_n hx hb dX0_become_83 rfl (lv_at hl 0 rfl) ?_
  refine sg_get (ci := 0) (C := RX0) (T := TX0) (N := 14) (v := .ref (g 3)) hx hb hts (fun _ h => List.mem_cons_of_mem _ (List.mem_append_right _ h)) hown hK hW 1 0 rfl rfl rfl 8 (by decide) (hts _ (List.mem_of_getElem? (i := 13) rfl)) rfl dX0_become_84 ?_
  refine lv_iconst (v := nI 0) hx hb dX0_become_87 (by decide +kernel) ?_
  refine lv_bipush (v := nI 8) hx hb dX0_become_88 (by decide +kernel) ?_
  refine sg_cpyi (g' := fun i => nI (K (8 * i + 3))) hx hb (hml.trans hl.1.symm) hown (hts _ (List.mem_of_getElem? (i := 8) rfl)) (hts _ (List.mem_of_getElem? (i := 9) rfl)) (hts _ (List.mem_of_getElem? (i := 10) rfl)) (hts _ (List.mem_of_getElem? (i := 11) rfl)) hK hW 0 3 1 3 0 rfl rfl rfl rfl rfl (by decide) (by decide) (by decide) (by decide) (Nat.le_of_ble_eq_true rfl) (Nat.le_of_ble_eq_true rfl) (fun q hq => (pk_cpy_in (Nat.zero_le _) (by omega)).trans (by rw [Nat.zero_add, Nat.sub_zero])) (gW_sel3 cI g K (selR 2 K (selR 1 K (up (up (up (up (up (up G 0 (K 0)) 8 (K 8)) 16 (K 16)) 24 (K 24)) 32 (K 32)) 40 (K 40))))) (ss' := [gW cI o K, gW cI g (selR 3 K (selR 2 K (selR 1 K (up (up (up (up (up (up G 0 (K 0)) 8 (K 8)) 16 (K 16)) 24 (K 24)) 32 (K 32)) 40 (K 40)))))]) rfl dX0_become_90 (fun H locs hW => ?_)
  refine lv_aload_n hx hb dX0_become_93 rfl (lv_at hl 1 rfl) ?_
  refine sg_get (ci := 0) (C := RX0) (T := TX0) (N := 14) (v := .ref (o 4)) hx hb hts (fun _ h => List.mem_cons_of_mem _ (List.mem_append_right _ h)) hown hK hW 0 0 rfl rfl rfl 9 (by decide) (hts _ (List.mem_of_getElem? (i := 14) rfl)) rfl dX0_become_94 ?_
  refine lv_iconst (v := nI 0) hx hb dX0_become_97 (by decide +kernel) ?_
  refine lv_aload_n hx hb dX0_become_98 rfl (lv_at hl 0 rfl) ?_
  refine sg_get (ci := 0) (C := RX0) (T := TX0) (N := 14) (v := .ref (g 4)) hx hb hts (fun _ h => List.mem_cons_of_mem _ (List.mem_append_right _ h)) hown hK hW 1 0 rfl rfl rfl 9 (by decide) (hts _ (List.mem_of_getElem? (i := 14) rfl)) rfl dX0_become_99 ?_
  refine lv_iconst (v := nI 0) hx hb dX0_become_102 (by decide +kernel) ?_
  refine lv_bipush (v := nI 8) hx hb dX0_become_103 (by decide +kernel) ?_
  refine sg_cpyi (g' := fun i => nI (K (8 * i + 4))) hx hb (hml.trans hl.1.symm) hown (hts _ (List.mem_of_getElem? (i := 8) rfl)) (hts _ (List.mem_of_getElem? (i := 9) rfl)) (hts _ (List.mem_of_getElem? (i := 10) rfl)) (hts _ (List.mem_of_getElem? (i := 11) rfl)) hK hW 0 4 1 4 0 rfl rfl rfl rfl rfl (by decide) (by decide) (by decide) (by decide) (Nat.le_of_ble_eq_true rfl) (Nat.le_of_ble_eq_true rfl) (fun q hq => (pk_cpy_in (Nat.zero_le _) (by omega)).trans (by rw [Nat.zero_add, Nat.sub_zero])) (gW_sel4 cI g K (selR 3 K (selR 2 K (selR 1 K (up (up (up (up (up (up G 0 (K 0)) 8 (K 8)) 16 (K 16)) 24 (K 24)) 32 (K 32)) 40 (K 40)))))) (ss' := [gW cI o K, gW cI g (selR 4 K (selR 3 K (selR 2 K (selR 1 K (up (up (up (up (up (up G 0 (K 0)) 8 (K 8)) 16 (K 16)) 24 (K 24)) 32 (K 32)) 40 (K 40))))))]) rfl dX0_become_105 (fun H locs hW => ?_)
  refine lv_aload_n hx hb dX0_become_108 rfl (lv_at hl 0 rfl) ?_
  refine lv_aload_n hx hb dX0_become_109 rfl (lv_at hl 1 rfl) ?_
  refine sg_get (ci := 0) (C := RX0) (T := TX0) (N := 14) (v := .int (nI (K 48))) hx hb hts (fun _ h => List.mem_cons_of_mem _ (List.mem_append_right _ h)) hown hK hW 0 0 rfl rfl rfl 10 (by decide) (hts _ (List.mem_of_getElem? (i := 15) rfl)) rfl dX0_become_110 ?_
  refine sg_put (ci := 0) (C := RX0) (T := TX0) (N := 14) hx hb hts (fun _ h => List.mem_cons_of_mem _ (List.mem_append_right _ h)) tyX0 tyX0_ok nmX0 hown hK hW 1 0 rfl rfl rfl 10 (by decide) (hts _ (List.mem_of_getElem? (i := 15) rfl)) rfl rfl rfl (Nat.le_of_ble_eq_true rfl) (gW_s48 cI g (selR 4 K (selR 3 K (selR 2 K (selR 1 K (up (up (up (up (up (up G 0 (K 0)) 8 (K 8)) 16 (K 16)) 24 (K 24)) 32 (K 32)) 40 (K 40)))))) (K 48)) (ss' := [gW cI o K, gW cI g (up (selR 4 K (selR 3 K (selR 2 K (selR 1 K (up (up (up (up (up (up G 0 (K 0)) 8 (K 8)) 16 (K 16)) 24 (K 24)) 32 (K 32)) 40 (K 40)))))) 48 (K 48))]) rfl dX0_become_113 (fun H locs hW => ?_)
  refine lv_aload_n hx hb dX0_become_116 rfl (lv_at hl 1 rfl) ?_
  refine sg_get (ci := 0) (C := RX0) (T := TX0) (N := 14) (v := .ref (o 5)) hx hb hts (fun _ h => List.mem_cons_of_mem _ (List.mem_append_right _ h)) hown hK hW 0 0 rfl rfl rfl 11 (by decide) (hts _ (List.mem_of_getElem? (i := 16) rfl)) rfl dX0_become_117 ?_
  refine lv_iconst (v := nI 0) hx hb dX0_become_120 (by decide +kernel) ?_
  refine lv_aload_n hx hb dX0_become_121 rfl (lv_at hl 0 rfl) ?_
  refine sg_get (ci := 0) (C := RX0) (T := TX0) (N := 14) (v := .ref (g 5)) hx hb hts (fun _ h => List.mem_cons_of_mem _ (List.mem_append_right _ h)) hown hK hW 1 0 rfl rfl rfl 11 (by decide) (hts _ (List.mem_of_getElem? (i := 16) rfl)) rfl dX0_become_122 ?_
  refine lv_iconst (v := nI 0) hx hb dX0_become_125 (by decide +kernel) ?_
  refine lv_bipush (v := nI 6) hx hb dX0_become_126 (by decide +kernel) ?_
  refine sg_cpyi (g' := fun i => nI (K (8 * i + 5))) hx hb (hml.trans hl.1.symm) hown (hts _ (List.mem_of_getElem? (i := 8) rfl)) (hts _ (List.mem_of_getElem? (i := 9) rfl)) (hts _ (List.mem_of_getElem? (i := 10) rfl)) (hts _ (List.mem_of_getElem? (i := 11) rfl)) hK hW 0 5 1 5 0 rfl rfl rfl rfl rfl (by decide) (by decide) (by decide) (by decide) (Nat.le_of_ble_eq_true rfl) (Nat.le_of_ble_eq_true rfl) (fun q hq => (pk_cpy_in (Nat.zero_le _) (by omega)).trans (by rw [Nat.zero_add, Nat.sub_zero])) (gW_sel5 cI g K (up (selR 4 K (selR 3 K (selR 2 K (selR 1 K (up (up (up (up (up (up G 0 (K 0)) 8 (K 8)) 16 (K 16)) 24 (K 24)) 32 (K 32)) 40 (K 40)))))) 48 (K 48))) (ss' := [gW cI o K, gW cI g (selR 5 K (up (selR 4 K (selR 3 K (selR 2 K (selR 1 K (up (up (up (up (up (up G 0 (K 0)) 8 (K 8)) 16 (K 16)) 24 (K 24)) 32 (K 32)) 40 (K 40)))))) 48 (K 48)))]) rfl dX0_become_128 (fun H locs hW => ?_)
  refine lv_aload_n hx hb dX0_become_131 rfl (lv_at hl 1 rfl) ?_
  refine sg_get (ci := 0) (C := RX0) (T := TX0) (N := 14) (v := .ref (o 6)) hx hb hts (fun _ h => List.mem_cons_of_mem _ (List.mem_append_right _ h)) hown hK hW 0 0 rfl rfl rfl 12 (by decide) (hts _ (List.mem_of_getElem? (i := 17) rfl)) rfl dX0_become_132 ?_
  refine lv_iconst (v := nI 0) hx hb dX0_become_135 (by decide +kernel) ?_
  refine lv_aload_n hx hb dX0_become_136 rfl (lv_at hl 0 rfl) ?_
  refine sg_get (ci := 0) (C := RX0) (T := TX0) (N := 14) (v := .ref (g 6)) hx hb hts (fun _ h => List.mem_cons_of_mem _ (List.mem_append_right _ h)) hown hK hW 1 0 rfl rfl rfl 12 (by decide) (hts _ (List.mem_of_getElem? (i := 17) rfl)) rfl dX0_become_137 ?_
  refine lv_iconst (v := nI 0) hx hb dX0_become_140 (by decide +kernel) ?_
  refine lv_bipush (v := nI 6) hx hb dX0_become_141 (by decide +kernel) ?_
  refine sg_cpyi (g' := fun i => nI (K (8 * i + 6))) hx hb (hml.trans hl.1.symm) hown (hts _ (List.mem_of_getElem? (i := 8) rfl)) (hts _ (List.mem_of_getElem? (i := 9) rfl)) (hts _ (List.mem_of_getElem? (i := 10) rfl)) (hts _ (List.mem_of_getElem? (i := 11) rfl)) hK hW 0 6 1 6 0 rfl rfl rfl rfl rfl (by decide) (by decide) (by decide) (by decide) (Nat.le_of_ble_eq_true rfl) (Nat.le_of_ble_eq_true rfl) (fun q hq => (pk_cpy_in (Nat.zero_le _) (by omega)).trans (by rw [Nat.zero_add, Nat.sub_zero])) (gW_sel6 cI g K (selR 5 K (up (selR 4 K (selR 3 K (selR 2 K (selR 1 K (up (up (up (up (up (up G 0 (K 0)) 8 (K 8)) 16 (K 16)) 24 (K 24)) 32 (K 32)) 40 (K 40)))))) 48 (K 48)))) (ss' := [gW cI o K, gW cI g (selR 6 K (selR 5 K (up (selR 4 K (selR 3 K (selR 2 K (selR 1 K (up (up (up (up (up (up G 0 (K 0)) 8 (K 8)) 16 (K 16)) 24 (K 24)) 32 (K 32)) 40 (K 40)))))) 48 (K 48))))]) rfl dX0_become_143 (fun H locs hW => ?_)
  refine lv_aload_n hx hb dX0_become_146 rfl (lv_at hl 1 rfl) ?_
  refine sg_get (ci := 0) (C := RX0) (T := TX0) (N := 14) (v := .ref (o 7)) hx hb hts (fun _ h => List.mem_cons_of_mem _ (List.mem_append_right _ h)) hown hK hW 0 0 rfl rfl rfl 13 (by decide) (hts _ (List.mem_of_getElem? (i := 18) rfl)) rfl dX0_become_147 ?_
  refine lv_iconst (v := nI 0) hx hb dX0_become_150 (by decide +kernel) ?_
  refine lv_aload_n hx hb dX0_become_151 rfl (lv_at hl 0 rfl) ?_
  refine sg_get (ci := 0) (C := RX0) (T := TX0) (N := 14) (v := .ref (g 7)) hx hb hts (fun _ h => List.mem_cons_of_mem _ (List.mem_append_right _ h)) hown hK hW 1 0 rfl rfl rfl 13 (by decide) (hts _ (List.mem_of_getElem? (i := 18) rfl)) rfl dX0_become_152 ?_
  refine lv_iconst (v := nI 0) hx hb dX0_become_155 (by decide +kernel) ?_
  refine lv_bipush (v := nI 6) hx hb dX0_become_156 (by decide +kernel) ?_
  refine sg_cpyi (g' := fun i => nI (K (8 * i + 7))) hx hb (hml.trans hl.1.symm) hown (hts _ (List.mem_of_getElem? (i := 8) rfl)) (hts _ (List.mem_of_getElem? (i := 9) rfl)) (hts _ (List.mem_of_getElem? (i := 10) rfl)) (hts _ (List.mem_of_getElem? (i := 11) rfl)) hK hW 0 7 1 7 0 rfl rfl rfl rfl rfl (by decide) (by decide) (by decide) (by decide) (Nat.le_of_ble_eq_true rfl) (Nat.le_of_ble_eq_true rfl) (fun q hq => (pk_cpy_in (Nat.zero_le _) (by omega)).trans (by rw [Nat.zero_add, Nat.sub_zero])) (gW_sel7 cI g K (selR 6 K (selR 5 K (up (selR 4 K (selR 3 K (selR 2 K (selR 1 K (up (up (up (up (up (up G 0 (K 0)) 8 (K 8)) 16 (K 16)) 24 (K 24)) 32 (K 32)) 40 (K 40)))))) 48 (K 48))))) (ss' := [gW cI o K, gW cI g (selR 7 K (selR 6 K (selR 5 K (up (selR 4 K (selR 3 K (selR 2 K (selR 1 K (up (up (up (up (up (up G 0 (K 0)) 8 (K 8)) 16 (K 16)) 24 (K 24)) 32 (K 32)) 40 (K 40)))))) 48 (K 48)))))]) rfl dX0_become_158 (fun H locs hW => ?_)
  exact rt_v hQ hx hb hr hlocks hW dX0_become_161 () rfl trivial (congrArg (fun z => [gW cI o K, z]) (gW_ext cI g _ K (by simp [selR, up]) (by simp [selR, up]) (by simp [selR, up]) (by simp [selR, up]) (by simp [selR, up]) (by simp [selR, up]) (by simp [selR, up]) (fun i => by rw [selR_out (by omega), selR_out (by omega), selR_out (by omega), up_ne (by omega), selR_out (by omega), selR_out (by omega), selR_out (by omega), selR_in (by omega)]) (fun i => by rw [selR_out (by omega), selR_out (by omega), selR_out (by omega), up_ne (by omega), selR_out (by omega), selR_out (by omega), selR_in (by omega)]) (fun i => by rw [selR_out (by omega), selR_out (by omega), selR_out (by omega), up_ne (by omega), selR_out (by omega), selR_in (by omega)]) (fun i => by rw [selR_out (by omega), selR_out (by omega), selR_out (by omega), up_ne (by omega), selR_in (by omega)]) (fun i => by rw [selR_out (by omega), selR_out (by omega), selR_in (by omega)]) (fun i => by rw [selR_out (by omega), selR_in (by omega)]) (fun i => by rw [selR_in (by omega)])))
def addM (G : Nat → Nat) (k sc o : Nat) : Nat → Nat := up (up (up (up (up G (8 * G 40 + 1) k) (8 * G 40 + 2) o) (8 * G 40 + 3) sc) (8 * G 40 + 4) 0) 40 (G 40 + 1)
def addC (G : Nat → Nat) (gr o : Nat) : Nat → Nat := up (up (up (up G (8 * G 48 + 5) gr) (8 * G 48 + 6) o) (8 * G 48 + 7) 0) 48 (G 48 + 1)
def moveM (G : Nat → Nat) (a o : Nat) : Nat → Nat := up (up G (8 * a + 2) o) (8 * a + 4) 0
theorem addM_ok {b : Nat} {G : Nat → Nat} (h : OkG b G) {k sc o : Nat} (h8 : G 40 < 8) (hk : k ≤ 5) (hs : sc ≤ 99) (ho : o ≤ 1) : OkG b (addM G k sc o) := ((((h.r1 hk).r2 ho).r3 hs).r4 (Nat.zero_le _)).s40 h8
theorem addC_ok {b : Nat} {G : Nat → Nat} (h : OkG b G) {gr o : Nat} (h6 : G 48 < 6) (hg : gr ≤ 200) (ho : o ≤ 1) : OkG b (addC G gr o) := (((h.r5 hg).r6 ho).r7 (Nat.zero_le _)).s48 h6
theorem moveM_ok {b : Nat} {G : Nat → Nat} (h : OkG b G) {a o : Nat} (ho : o ≤ 1) : OkG b (moveM G a o) := (h.r2 ho).r4 (Nat.zero_le _)
abbrev rmX0_addMother : Room := { frames := 0, cells := 0, slots := 0, locals := 0 }
set_option maxRecDepth 100000 in
set_option maxHeartbeats 4000000 in
theorem M_X0_addMother (l : Launch) (D : va_G) (cI cJ : ClassId) (g G : Nat → Nat) (b : Nat) (hb30 : b < 2 ^ 30) (hG : OkG b G) (k sc o : Nat) (h8 : G 40 < 8) : CE E0 l D vwCl [(cI, .int), (cJ, .long)] yX0_addMother wsX0_addMother rmX0_addMother [.ref (g 0), .int (nI k), .int (nI sc), .int (nI o)] [gW cI g G] (S := Unit) (some (.int (nI (G 40)))) (fun _ => True) (fun _ : Unit => [gW cI g (addM G k sc o)]) 0 0 := by
  refine CE.ofW (cc := cX0_addMother) (maxL := 5) (ret := (some .int)) (lv := [(0, .ref (g 0)), (1, .int (nI k)), (2, .int (nI sc)), (3, .int (nI o))]) (by decide) rfl (Nat.le_of_ble_eq_true rfl) rfl ?_
  intro p e s m args below meth c ls A Q hQ hx hb hml hr hlocks hnm hown hts hK hA hE hW hl
  have hown : s.vm.findClass RX0 = some m.cls := hown
  obtain ⟨hg0, hg8, hg16, hg16b, hg24, hg32, hg40, hg48⟩ := hG.s
  refine lv_aload_n hx hb dX0_addMother_0 rfl (lv_at hl 0 rfl) ?_
  refine sg_get (ci := 0) (C := RX0) (T := TX0) (N := 14) (v := .int (nI (G 40))) hx hb hts (fun _ h => List.mem_cons_of_mem _ (List.mem_append_right _ h)) hown hK hW 0 0 rfl rfl rfl 5 (by decide) (hts _ (List.mem_of_getElem? (i := 1) rfl)) rfl dX0_addMother_1 ?_
  refine lv_istore (lv' := [(4, .int (nI (G 40))), (0, .ref (g 0)), (1, .int (nI k)), (2, .int (nI sc)), (3, .int (nI o))]) hx hb dX0_addMother_4 hl (by decide) rfl (fun ls hl => ?_)
  refine lv_iload hx hb dX0_addMother_6 (lv_at hl 0 rfl) ?_
  refine nn_zlt (tgt := 18) hx hb dX0_addMother_8 (by decide) (by omega) (fun c8 => ?_) (fun c8 => ?_)
  · exfalso; omega
  · refine lv_iload hx hb dX0_addMother_11 (lv_at hl 0 rfl) ?_
    refine lv_bipush (v := nI 8) hx hb dX0_addMother_13 (by decide +kernel) ?_
    refine nn_clt (tgt := 20) hx hb dX0_addMother_15 (by decide) (by omega) (by decide) (fun c15 => ?_) (fun c15 => ?_)
    · refine lv_aload_n hx hb dX0_addMother_20 rfl (lv_at hl 1 rfl) ?_
      refine sg_get (ci := 0) (C := RX0) (T := TX0) (N := 14) (v := .ref (g 1)) hx hb hts (fun _ h => List.mem_cons_of_mem _ (List.mem_append_right _ h)) hown hK hW 0 0 rfl rfl rfl 6 (by decide) (hts _ (List.mem_of_getElem? (i := 2) rfl)) rfl dX0_addMother_21 ?_
      refine lv_iload hx hb dX0_addMother_24 (lv_at hl 0 rfl) ?_
      refine lv_iload_n hx hb dX0_addMother_26 rfl (lv_at hl 2 rfl) ?_
      refine sg_ist hx hb hK hW 0 1 0 rfl rfl rfl (by omega) (by decide) (gW_r1 cI g G (G 40) k) (ss' := [gW cI g (up G (8 * (G 40) + 1) k)]) rfl dX0_addMother_27 (fun H locs hW => ?_)
      refine lv_aload_n hx hb dX0_addMother_28 rfl (lv_at hl 1 rfl) ?_
      refine sg_get (ci := 0) (C := RX0) (T := TX0) (N := 14) (v := .ref (g 2)) hx hb hts (fun _ h => List.mem_cons_of_mem _ (List.mem_append_right _ h)) hown hK hW 0 0 rfl rfl rfl 7 (by decide) (hts _ (List.mem_of_getElem? (i := 3) rfl)) rfl dX0_addMother_29 ?_
      refine lv_iload hx hb dX0_addMother_32 (lv_at hl 0 rfl) ?_
      refine lv_iload_n hx hb dX0_addMother_34 rfl (lv_at hl 4 rfl) ?_
      refine sg_ist hx hb hK hW 0 2 0 rfl rfl rfl (by omega) (by decide) (gW_r2 cI g (up G (8 * (G 40) + 1) k) (G 40) o) (ss' := [gW cI g (up (up G (8 * (G 40) + 1) k) (8 * (G 40) + 2) o)]) rfl dX0_addMother_35 (fun H locs hW => ?_)
      refine lv_aload_n hx hb dX0_addMother_36 rfl (lv_at hl 1 rfl) ?_
      refine sg_get (ci := 0) (C := RX0) (T := TX0) (N := 14) (v := .ref (g 3)) hx hb hts (fun _ h => List.mem_cons_of_mem _ (List.mem_append_right _ h)) hown hK hW 0 0 rfl rfl rfl 8 (by decide) (hts _ (List.mem_of_getElem? (i := 4) rfl)) rfl dX0_addMother_37 ?_
      refine lv_iload hx hb dX0_addMother_40 (lv_at hl 0 rfl) ?_
      refine lv_iload_n hx hb dX0_addMother_42 rfl (lv_at hl 3 rfl) ?_
      refine sg_ist hx hb hK hW 0 3 0 rfl rfl rfl (by omega) (by decide) (gW_r3 cI g (up (up G (8 * (G 40) + 1) k) (8 * (G 40) + 2) o) (G 40) sc) (ss' := [gW cI g (up (up (up G (8 * (G 40) + 1) k) (8 * (G 40) + 2) o) (8 * (G 40) + 3) sc)]) rfl dX0_addMother_43 (fun H locs hW => ?_)
      refine lv_aload_n hx hb dX0_addMother_44 rfl (lv_at hl 1 rfl) ?_
      refine sg_get (ci := 0) (C := RX0) (T := TX0) (N := 14) (v := .ref (g 4)) hx hb hts (fun _ h => List.mem_cons_of_mem _ (List.mem_append_right _ h)) hown hK hW 0 0 rfl rfl rfl 9 (by decide) (hts _ (List.mem_of_getElem? (i := 5) rfl)) rfl dX0_addMother_45 ?_
      refine lv_iload hx hb dX0_addMother_48 (lv_at hl 0 rfl) ?_
      refine lv_iconst (v := nI 0) hx hb dX0_addMother_50 (by decide +kernel) ?_
      refine sg_ist hx hb hK hW 0 4 0 rfl rfl rfl (by omega) (by decide) (gW_r4 cI g (up (up (up G (8 * (G 40) + 1) k) (8 * (G 40) + 2) o) (8 * (G 40) + 3) sc) (G 40) 0) (ss' := [gW cI g (up (up (up (up G (8 * (G 40) + 1) k) (8 * (G 40) + 2) o) (8 * (G 40) + 3) sc) (8 * (G 40) + 4) 0)]) rfl dX0_addMother_51 (fun H locs hW => ?_)
      refine lv_aload_n hx hb dX0_addMother_52 rfl (lv_at hl 1 rfl) ?_
      refine lv_iload hx hb dX0_addMother_53 (lv_at hl 0 rfl) ?_
      refine lv_iconst (v := nI 1) hx hb dX0_addMother_55 (by decide +kernel) ?_
      refine nn_add hx hb dX0_addMother_56 ?_
      refine sg_put (ci := 0) (C := RX0) (T := TX0) (N := 14) hx hb hts (fun _ h => List.mem_cons_of_mem _ (List.mem_append_right _ h)) tyX0 tyX0_ok nmX0 hown hK hW 0 0 rfl rfl rfl 5 (by decide) (hts _ (List.mem_of_getElem? (i := 1) rfl)) rfl rfl rfl (Nat.le_of_ble_eq_true rfl) (gW_s40 cI g (up (up (up (up G (8 * (G 40) + 1) k) (8 * (G 40) + 2) o) (8 * (G 40) + 3) sc) (8 * (G 40) + 4) 0) ((G 40) + 1)) (ss' := [gW cI g (up (up (up (up (up G (8 * (G 40) + 1) k) (8 * (G 40) + 2) o) (8 * (G 40) + 3) sc) (8 * (G 40) + 4) 0) 40 ((G 40) + 1))]) rfl dX0_addMother_57 (fun H locs hW => ?_)
      refine lv_iload hx hb dX0_addMother_60 (lv_at hl 0 rfl) ?_
      exact rt_i hQ hx hb hr hlocks hW dX0_addMother_62 () rfl trivial rfl
    · exfalso; omega
abbrev rmX0_addChild : Room := { frames := 0, cells := 0, slots := 0, locals := 0 }
set_option maxRecDepth 100000 in
set_option maxHeartbeats 4000000 in
theorem M_X0_addChild (l : Launch) (D : va_G) (cI cJ : ClassId) (g G : Nat → Nat) (b : Nat) (hb30 : b < 2 ^ 30) (hG : OkG b G) (gr o : Nat) (h6 : G 48 < 6) : CE E0 l D vwCl [(cI, .int), (cJ, .long)] yX0_addChild wsX0_addChild rmX0_addChild [.ref (g 0), .int (nI gr), .int (nI o)] [gW cI g G] (S := Unit) (some (.int (nI (G 48)))) (fun _ => True) (fun _ : Unit => [gW cI g (addC G gr o)]) 0 0 := by
  refine CE.ofW (cc := cX0_addChild) (maxL := 4) (ret := (some .int)) (lv := [(0, .ref (g 0)), (1, .int (nI gr)), (2, .int (nI o))]) (by decide) rfl (Nat.le_of_ble_eq_true rfl) rfl ?_
  intro p e s m args below meth c ls A Q hQ hx hb hml hr hlocks hnm hown hts hK hA hE hW hl
  have hown : s.vm.findClass RX0 = some m.cls := hown
  obtain ⟨hg0, hg8, hg16, hg16b, hg24, hg32, hg40, hg48⟩ := hG.s
  refine lv_aload_n hx hb dX0_addChild_0 rfl (lv_at hl 0 rfl) ?_
  refine sg_get (ci := 0) (C := RX0) (T := TX0) (N := 14) (v := .int (nI (G 48))) hx hb hts (fun _ h => List.mem_cons_of_mem _ (List.mem_append_right _ h)) hown hK hW 0 0 rfl rfl rfl 10 (by decide) (hts _ (List.mem_of_getElem? (i := 1) rfl)) rfl dX0_addChild_1 ?_
  refine lv_istore_n (lv' := [(3, .int (nI (G 48))), (0, .ref (g 0)), (1, .int (nI gr)), (2, .int (nI o))]) hx hb dX0_addChild_4 rfl hl (by decide) rfl (fun ls hl => ?_)
  refine lv_iload_n hx hb dX0_addChild_5 rfl (lv_at hl 0 rfl) ?_
  refine nn_zlt (tgt := 15) hx hb dX0_addChild_6 (by decide) (by omega) (fun c6 => ?_) (fun c6 => ?_)
  · exfalso; omega
  · refine lv_iload_n hx hb dX0_addChild_9 rfl (lv_at hl 0 rfl) ?_
    refine lv_bipush (v := nI 6) hx hb dX0_addChild_10 (by decide +kernel) ?_
    refine nn_clt (tgt := 17) hx hb dX0_addChild_12 (by decide) (by omega) (by decide) (fun c12 => ?_) (fun c12 => ?_)
    · refine lv_aload_n hx hb dX0_addChild_17 rfl (lv_at hl 1 rfl) ?_
      refine sg_get (ci := 0) (C := RX0) (T := TX0) (N := 14) (v := .ref (g 5)) hx hb hts (fun _ h => List.mem_cons_of_mem _ (List.mem_append_right _ h)) hown hK hW 0 0 rfl rfl rfl 11 (by decide) (hts _ (List.mem_of_getElem? (i := 2) rfl)) rfl dX0_addChild_18 ?_
      refine lv_iload_n hx hb dX0_addChild_21 rfl (lv_at hl 0 rfl) ?_
      refine lv_iload_n hx hb dX0_addChild_22 rfl (lv_at hl 2 rfl) ?_
      refine sg_ist hx hb hK hW 0 5 0 rfl rfl rfl (by omega) (by decide) (gW_r5 cI g G (G 48) gr) (ss' := [gW cI g (up G (8 * (G 48) + 5) gr)]) rfl dX0_addChild_23 (fun H locs hW => ?_)
      refine lv_aload_n hx hb dX0_addChild_24 rfl (lv_at hl 1 rfl) ?_
      refine sg_get (ci := 0) (C := RX0) (T := TX0) (N := 14) (v := .ref (g 6)) hx hb hts (fun _ h => List.mem_cons_of_mem _ (List.mem_append_right _ h)) hown hK hW 0 0 rfl rfl rfl 12 (by decide) (hts _ (List.mem_of_getElem? (i := 3) rfl)) rfl dX0_addChild_25 ?_
      refine lv_iload_n hx hb dX0_addChild_28 rfl (lv_at hl 0 rfl) ?_
      refine lv_iload_n hx hb dX0_addChild_29 rfl (lv_at hl 3 rfl) ?_
      refine sg_ist hx hb hK hW 0 6 0 rfl rfl rfl (by omega) (by decide) (gW_r6 cI g (up G (8 * (G 48) + 5) gr) (G 48) o) (ss' := [gW cI g (up (up G (8 * (G 48) + 5) gr) (8 * (G 48) + 6) o)]) rfl dX0_addChild_30 (fun H locs hW => ?_)
      refine lv_aload_n hx hb dX0_addChild_31 rfl (lv_at hl 1 rfl) ?_
      refine sg_get (ci := 0) (C := RX0) (T := TX0) (N := 14) (v := .ref (g 7)) hx hb hts (fun _ h => List.mem_cons_of_mem _ (List.mem_append_right _ h)) hown hK hW 0 0 rfl rfl rfl 13 (by decide) (hts _ (List.mem_of_getElem? (i := 4) rfl)) rfl dX0_addChild_32 ?_
      refine lv_iload_n hx hb dX0_addChild_35 rfl (lv_at hl 0 rfl) ?_
      refine lv_iconst (v := nI 0) hx hb dX0_addChild_36 (by decide +kernel) ?_
      refine sg_ist hx hb hK hW 0 7 0 rfl rfl rfl (by omega) (by decide) (gW_r7 cI g (up (up G (8 * (G 48) + 5) gr) (8 * (G 48) + 6) o) (G 48) 0) (ss' := [gW cI g (up (up (up G (8 * (G 48) + 5) gr) (8 * (G 48) + 6) o) (8 * (G 48) + 7) 0)]) rfl dX0_addChild_37 (fun H locs hW => ?_)
      refine lv_aload_n hx hb dX0_addChild_38 rfl (lv_at hl 1 rfl) ?_
      refine lv_iload_n hx hb dX0_addChild_39 rfl (lv_at hl 0 rfl) ?_
      refine lv_iconst (v := nI 1) hx hb dX0_addChild_40 (by decide +kernel) ?_
      refine nn_add hx hb dX0_addChild_41 ?_
      refine sg_put (ci := 0) (C := RX0) (T := TX0) (N := 14) hx hb hts (fun _ h => List.mem_cons_of_mem _ (List.mem_append_right _ h)) tyX0 tyX0_ok nmX0 hown hK hW 0 0 rfl rfl rfl 10 (by decide) (hts _ (List.mem_of_getElem? (i := 1) rfl)) rfl rfl rfl (Nat.le_of_ble_eq_true rfl) (gW_s48 cI g (up (up (up G (8 * (G 48) + 5) gr) (8 * (G 48) + 6) o) (8 * (G 48) + 7) 0) ((G 48) + 1)) (ss' := [gW cI g (up (up (up (up G (8 * (G 48) + 5) gr) (8 * (G 48) + 6) o) (8 * (G 48) + 7) 0) 48 ((G 48) + 1))]) rfl dX0_addChild_42 (fun H locs hW => ?_)
      refine lv_iload_n hx hb dX0_addChild_45 rfl (lv_at hl 0 rfl) ?_
      exact rt_i hQ hx hb hr hlocks hW dX0_addChild_46 () rfl trivial rfl
    · exfalso; omega
abbrev rmX0_moveMother : Room := { frames := 0, cells := 0, slots := 0, locals := 0 }
set_option maxRecDepth 100000 in
set_option maxHeartbeats 4000000 in
theorem M_X0_moveMother (l : Launch) (D : va_G) (cI cJ : ClassId) (g G : Nat → Nat) (b : Nat) (hb30 : b < 2 ^ 30) (hG : OkG b G) (a o : Nat) (ha : a < G 40) : CE E0 l D vwCl [(cI, .int), (cJ, .long)] yX0_moveMother wsX0_moveMother rmX0_moveMother [.ref (g 0), .int (nI a), .int (nI o)] [gW cI g G] (S := Unit) none (fun _ => True) (fun _ : Unit => [gW cI g (moveM G a o)]) 0 0 := by
  refine CE.ofW (cc := cX0_moveMother) (maxL := 3) (ret := none) (lv := [(0, .ref (g 0)), (1, .int (nI a)), (2, .int (nI o))]) (by decide) rfl (Nat.le_of_ble_eq_true rfl) rfl ?_
  intro p e s m args below meth c ls A Q hQ hx hb hml hr hlocks hnm hown hts hK hA hE hW hl
  have hown : s.vm.findClass RX0 = some m.cls := hown
  obtain ⟨hg0, hg8, hg16, hg16b, hg24, hg32, hg40, hg48⟩ := hG.s
  refine lv_aload_n hx hb dX0_moveMother_0 rfl (lv_at hl 0 rfl) ?_
  refine sg_get (ci := 0) (C := RX0) (T := TX0) (N := 14) (v := .ref (g 2)) hx hb hts (fun _ h => List.mem_cons_of_mem _ (List.mem_append_right _ h)) hown hK hW 0 0 rfl rfl rfl 7 (by decide) (hts _ (List.mem_of_getElem? (i := 1) rfl)) rfl dX0_moveMother_1 ?_
  refine lv_iload_n hx hb dX0_moveMother_4 rfl (lv_at hl 1 rfl) ?_
  refine lv_iload_n hx hb dX0_moveMother_5 rfl (lv_at hl 2 rfl) ?_
  refine sg_ist hx hb hK hW 0 2 0 rfl rfl rfl (by omega) (by decide) (gW_r2 cI g G a o) (ss' := [gW cI g (up G (8 * a + 2) o)]) rfl dX0_moveMother_6 (fun H locs hW => ?_)
  refine lv_aload_n hx hb dX0_moveMother_7 rfl (lv_at hl 0 rfl) ?_
  refine sg_get (ci := 0) (C := RX0) (T := TX0) (N := 14) (v := .ref (g 4)) hx hb hts (fun _ h => List.mem_cons_of_mem _ (List.mem_append_right _ h)) hown hK hW 0 0 rfl rfl rfl 9 (by decide) (hts _ (List.mem_of_getElem? (i := 2) rfl)) rfl dX0_moveMother_8 ?_
  refine lv_iload_n hx hb dX0_moveMother_11 rfl (lv_at hl 1 rfl) ?_
  refine lv_iconst (v := nI 0) hx hb dX0_moveMother_12 (by decide +kernel) ?_
  refine sg_ist hx hb hK hW 0 4 0 rfl rfl rfl (by omega) (by decide) (gW_r4 cI g (up G (8 * a + 2) o) a 0) (ss' := [gW cI g (up (up G (8 * a + 2) o) (8 * a + 4) 0)]) rfl dX0_moveMother_13 (fun H locs hW => ?_)
  exact rt_v hQ hx hb hr hlocks hW dX0_moveMother_14 () rfl trivial rfl
end
section
theorem zz_end : True := trivial
end

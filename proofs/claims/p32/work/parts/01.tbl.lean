/-- a private method of a class that the tables say can be made, by its rows of tables_1 -/
def lw_okq (q : MethodName × Nat) : Prop := (q.1.cls ≠ "java/lang/invoke/MethodHandle" ∧ q.1.cls ≠ "java/lang/invoke/VarHandle") ∧ Cond.instantiable q.1.cls q.2 ∈ tables_1 ∧ Cond.privateMethod q.1 ∈ tables_1 ∧ Cond.instanceMethod q.1 ∈ tables_1
theorem lw_p0 : lw_okq (⟨"HillTap", "refuse", "(I)I"⟩, 13) := ⟨⟨by decide +kernel, by decide +kernel⟩, List.mem_of_getElem? (i := 23) (by decide +kernel), List.mem_of_getElem? (i := 371) (by decide +kernel), List.mem_of_getElem? (i := 372) (by decide +kernel)⟩
theorem lw_p1 : lw_okq (⟨"HillTap$Tokens", "takeLetters", "()V"⟩, 6) := ⟨⟨by decide +kernel, by decide +kernel⟩, List.mem_of_getElem? (i := 54) (by decide +kernel), List.mem_of_getElem? (i := 401) (by decide +kernel), List.mem_of_getElem? (i := 402) (by decide +kernel)⟩
theorem lw_p2 : lw_okq (⟨"HillTap$Tokens", "takeDigits", "()V"⟩, 6) := ⟨⟨by decide +kernel, by decide +kernel⟩, List.mem_of_getElem? (i := 54) (by decide +kernel), List.mem_of_getElem? (i := 405) (by decide +kernel), List.mem_of_getElem? (i := 406) (by decide +kernel)⟩
theorem lw_p3 : lw_okq (⟨"HillTap$Teller", "takeLine", "(LHillTap$Hill;)Z"⟩, 7) := ⟨⟨by decide +kernel, by decide +kernel⟩, List.mem_of_getElem? (i := 48) (by decide +kernel), List.mem_of_getElem? (i := 410) (by decide +kernel), List.mem_of_getElem? (i := 411) (by decide +kernel)⟩
theorem lw_p4 : lw_okq (⟨"HillTap$Teller", "takeLake", "(LHillTap$Lake;)Z"⟩, 7) := ⟨⟨by decide +kernel, by decide +kernel⟩, List.mem_of_getElem? (i := 48) (by decide +kernel), List.mem_of_getElem? (i := 467) (by decide +kernel), List.mem_of_getElem? (i := 468) (by decide +kernel)⟩
theorem lw_p5 : lw_okq (⟨"HillTap$Teller", "faulty", "(I)Z"⟩, 7) := ⟨⟨by decide +kernel, by decide +kernel⟩, List.mem_of_getElem? (i := 48) (by decide +kernel), List.mem_of_getElem? (i := 471) (by decide +kernel), List.mem_of_getElem? (i := 472) (by decide +kernel)⟩
theorem lw_p6 : lw_okq (⟨"HillTap$Teller", "takeNumber", "(Ljava/lang/String;II)Z"⟩, 7) := ⟨⟨by decide +kernel, by decide +kernel⟩, List.mem_of_getElem? (i := 48) (by decide +kernel), List.mem_of_getElem? (i := 477) (by decide +kernel), List.mem_of_getElem? (i := 478) (by decide +kernel)⟩
theorem lw_p7 : lw_okq (⟨"HillTap$Teller", "takeWhole", "(II)Z"⟩, 7) := ⟨⟨by decide +kernel, by decide +kernel⟩, List.mem_of_getElem? (i := 48) (by decide +kernel), List.mem_of_getElem? (i := 481) (by decide +kernel), List.mem_of_getElem? (i := 482) (by decide +kernel)⟩
theorem lw_p8 : lw_okq (⟨"HillTap$Teller", "takePeg", "(LHillTap$Hill;)Z"⟩, 7) := ⟨⟨by decide +kernel, by decide +kernel⟩, List.mem_of_getElem? (i := 48) (by decide +kernel), List.mem_of_getElem? (i := 495) (by decide +kernel), List.mem_of_getElem? (i := 496) (by decide +kernel)⟩
theorem lw_p9 : lw_okq (⟨"HillTap$Teller", "takeNewName", "()Z"⟩, 7) := ⟨⟨by decide +kernel, by decide +kernel⟩, List.mem_of_getElem? (i := 48) (by decide +kernel), List.mem_of_getElem? (i := 499) (by decide +kernel), List.mem_of_getElem? (i := 500) (by decide +kernel)⟩
theorem lw_p10 : lw_okq (⟨"HillTap$Teller", "isName", "()Z"⟩, 7) := ⟨⟨by decide +kernel, by decide +kernel⟩, List.mem_of_getElem? (i := 48) (by decide +kernel), List.mem_of_getElem? (i := 503) (by decide +kernel), List.mem_of_getElem? (i := 504) (by decide +kernel)⟩
theorem lw_p11 : lw_okq (⟨"HillTap$Teller", "takeFrom", "(LHillTap$Lake;)Z"⟩, 7) := ⟨⟨by decide +kernel, by decide +kernel⟩, List.mem_of_getElem? (i := 48) (by decide +kernel), List.mem_of_getElem? (i := 518) (by decide +kernel), List.mem_of_getElem? (i := 519) (by decide +kernel)⟩
theorem lw_p12 : lw_okq (⟨"HillTap$Teller", "takeRain", "(LHillTap$Hill;)Z"⟩, 7) := ⟨⟨by decide +kernel, by decide +kernel⟩, List.mem_of_getElem? (i := 48) (by decide +kernel), List.mem_of_getElem? (i := 527) (by decide +kernel), List.mem_of_getElem? (i := 528) (by decide +kernel)⟩
theorem lw_p13 : lw_okq (⟨"HillTap$Teller", "takeStory", "(LHillTap$Hill;)Z"⟩, 7) := ⟨⟨by decide +kernel, by decide +kernel⟩, List.mem_of_getElem? (i := 48) (by decide +kernel), List.mem_of_getElem? (i := 532) (by decide +kernel), List.mem_of_getElem? (i := 533) (by decide +kernel)⟩
theorem lw_p14 : lw_okq (⟨"HillTap$Teller", "kindHere", "()I"⟩, 7) := ⟨⟨by decide +kernel, by decide +kernel⟩, List.mem_of_getElem? (i := 48) (by decide +kernel), List.mem_of_getElem? (i := 537) (by decide +kernel), List.mem_of_getElem? (i := 538) (by decide +kernel)⟩
theorem lw_p15 : lw_okq (⟨"HillTap$Teller", "takeVillage", "(LHillTap$Hill;)Z"⟩, 7) := ⟨⟨by decide +kernel, by decide +kernel⟩, List.mem_of_getElem? (i := 48) (by decide +kernel), List.mem_of_getElem? (i := 550) (by decide +kernel), List.mem_of_getElem? (i := 551) (by decide +kernel)⟩
def lw_privs_1 : List (MethodName × Nat) := [(⟨"HillTap", "refuse", "(I)I"⟩, 13), (⟨"HillTap$Tokens", "takeLetters", "()V"⟩, 6), (⟨"HillTap$Tokens", "takeDigits", "()V"⟩, 6), (⟨"HillTap$Teller", "takeLine", "(LHillTap$Hill;)Z"⟩, 7), (⟨"HillTap$Teller", "takeLake", "(LHillTap$Lake;)Z"⟩, 7), (⟨"HillTap$Teller", "faulty", "(I)Z"⟩, 7), (⟨"HillTap$Teller", "takeNumber", "(Ljava/lang/String;II)Z"⟩, 7), (⟨"HillTap$Teller", "takeWhole", "(II)Z"⟩, 7), (⟨"HillTap$Teller", "takePeg", "(LHillTap$Hill;)Z"⟩, 7), (⟨"HillTap$Teller", "takeNewName", "()Z"⟩, 7), (⟨"HillTap$Teller", "isName", "()Z"⟩, 7), (⟨"HillTap$Teller", "takeFrom", "(LHillTap$Lake;)Z"⟩, 7), (⟨"HillTap$Teller", "takeRain", "(LHillTap$Hill;)Z"⟩, 7), (⟨"HillTap$Teller", "takeStory", "(LHillTap$Hill;)Z"⟩, 7), (⟨"HillTap$Teller", "kindHere", "()I"⟩, 7), (⟨"HillTap$Teller", "takeVillage", "(LHillTap$Hill;)Z"⟩, 7)]
theorem lw_r1 : ∀ q ∈ lw_privs_1, lw_okq q := List.forall_mem_cons.mpr ⟨lw_p0, List.forall_mem_cons.mpr ⟨lw_p1, List.forall_mem_cons.mpr ⟨lw_p2, List.forall_mem_cons.mpr ⟨lw_p3, List.forall_mem_cons.mpr ⟨lw_p4, List.forall_mem_cons.mpr ⟨lw_p5, List.forall_mem_cons.mpr ⟨lw_p6, List.forall_mem_cons.mpr ⟨lw_p7, List.forall_mem_cons.mpr ⟨lw_p8, List.forall_mem_cons.mpr ⟨lw_p9, List.forall_mem_cons.mpr ⟨lw_p10, List.forall_mem_cons.mpr ⟨lw_p11, List.forall_mem_cons.mpr ⟨lw_p12, List.forall_mem_cons.mpr ⟨lw_p13, List.forall_mem_cons.mpr ⟨lw_p14, List.forall_mem_cons.mpr ⟨lw_p15, fun _ h => absurd h List.not_mem_nil⟩⟩⟩⟩⟩⟩⟩⟩⟩⟩⟩⟩⟩⟩⟩⟩
theorem lw_p16 : lw_okq (⟨"HillTap$Teller", "takeKnower", "(LHillTap$Hill;)Z"⟩, 7) := ⟨⟨by decide +kernel, by decide +kernel⟩, List.mem_of_getElem? (i := 48) (by decide +kernel), List.mem_of_getElem? (i := 557) (by decide +kernel), List.mem_of_getElem? (i := 558) (by decide +kernel)⟩
theorem lw_p17 : lw_okq (⟨"HillTap$Teller", "pegNamed", "(JI)I"⟩, 7) := ⟨⟨by decide +kernel, by decide +kernel⟩, List.mem_of_getElem? (i := 48) (by decide +kernel), List.mem_of_getElem? (i := 562) (by decide +kernel), List.mem_of_getElem? (i := 563) (by decide +kernel)⟩
theorem lw_p18 : lw_okq (⟨"HillTap", "planAnew", "()V"⟩, 13) := ⟨⟨by decide +kernel, by decide +kernel⟩, List.mem_of_getElem? (i := 23) (by decide +kernel), List.mem_of_getElem? (i := 575) (by decide +kernel), List.mem_of_getElem? (i := 576) (by decide +kernel)⟩
theorem lw_p19 : lw_okq (⟨"HillTap$Lake", "goalOf", "(I)I"⟩, 8) := ⟨⟨by decide +kernel, by decide +kernel⟩, List.mem_of_getElem? (i := 112) (by decide +kernel), List.mem_of_getElem? (i := 583) (by decide +kernel), List.mem_of_getElem? (i := 584) (by decide +kernel)⟩
theorem lw_p20 : lw_okq (⟨"HillTap$Lake", "towards", "(II)I"⟩, 8) := ⟨⟨by decide +kernel, by decide +kernel⟩, List.mem_of_getElem? (i := 112) (by decide +kernel), List.mem_of_getElem? (i := 588) (by decide +kernel), List.mem_of_getElem? (i := 589) (by decide +kernel)⟩
theorem lw_p21 : lw_okq (⟨"HillTap", "answer", "(I)I"⟩, 13) := ⟨⟨by decide +kernel, by decide +kernel⟩, List.mem_of_getElem? (i := 23) (by decide +kernel), List.mem_of_getElem? (i := 593) (by decide +kernel), List.mem_of_getElem? (i := 594) (by decide +kernel)⟩
theorem lw_p22 : lw_okq (⟨"HillTap", "noHill", "()Z"⟩, 13) := ⟨⟨by decide +kernel, by decide +kernel⟩, List.mem_of_getElem? (i := 23) (by decide +kernel), List.mem_of_getElem? (i := 609) (by decide +kernel), List.mem_of_getElem? (i := 610) (by decide +kernel)⟩
theorem lw_p23 : lw_okq (⟨"HillTap", "isPegDay", "(III)Z"⟩, 13) := ⟨⟨by decide +kernel, by decide +kernel⟩, List.mem_of_getElem? (i := 23) (by decide +kernel), List.mem_of_getElem? (i := 629) (by decide +kernel), List.mem_of_getElem? (i := 630) (by decide +kernel)⟩
theorem lw_p24 : lw_okq (⟨"HillTap", "isStory", "(I)Z"⟩, 13) := ⟨⟨by decide +kernel, by decide +kernel⟩, List.mem_of_getElem? (i := 23) (by decide +kernel), List.mem_of_getElem? (i := 633) (by decide +kernel), List.mem_of_getElem? (i := 634) (by decide +kernel)⟩
theorem lw_p25 : lw_okq (⟨"HillTap", "isPeg", "(I)Z"⟩, 13) := ⟨⟨by decide +kernel, by decide +kernel⟩, List.mem_of_getElem? (i := 23) (by decide +kernel), List.mem_of_getElem? (i := 637) (by decide +kernel), List.mem_of_getElem? (i := 638) (by decide +kernel)⟩
theorem lw_p26 : lw_okq (⟨"HillTap", "courseOf", "(I)LHillTap$Course;"⟩, 13) := ⟨⟨by decide +kernel, by decide +kernel⟩, List.mem_of_getElem? (i := 23) (by decide +kernel), List.mem_of_getElem? (i := 641) (by decide +kernel), List.mem_of_getElem? (i := 642) (by decide +kernel)⟩
theorem lw_p27 : lw_okq (⟨"HillTap$Course", "fillAdds", "(LHillTap$Hill;LHillTap$Story;[IZ)V"⟩, 7) := ⟨⟨by decide +kernel, by decide +kernel⟩, List.mem_of_getElem? (i := 260) (by decide +kernel), List.mem_of_getElem? (i := 649) (by decide +kernel), List.mem_of_getElem? (i := 650) (by decide +kernel)⟩
theorem lw_p28 : lw_okq (⟨"HillTap$Course", "fillByRise", "(II[I)V"⟩, 7) := ⟨⟨by decide +kernel, by decide +kernel⟩, List.mem_of_getElem? (i := 260) (by decide +kernel), List.mem_of_getElem? (i := 653) (by decide +kernel), List.mem_of_getElem? (i := 654) (by decide +kernel)⟩
theorem lw_p29 : lw_okq (⟨"HillTap$Course", "fillByMean", "(II[I)V"⟩, 7) := ⟨⟨by decide +kernel, by decide +kernel⟩, List.mem_of_getElem? (i := 260) (by decide +kernel), List.mem_of_getElem? (i := 658) (by decide +kernel), List.mem_of_getElem? (i := 659) (by decide +kernel)⟩
theorem lw_p30 : lw_okq (⟨"HillTap$Course", "fillByRain", "(I[I)V"⟩, 7) := ⟨⟨by decide +kernel, by decide +kernel⟩, List.mem_of_getElem? (i := 260) (by decide +kernel), List.mem_of_getElem? (i := 663) (by decide +kernel), List.mem_of_getElem? (i := 664) (by decide +kernel)⟩
theorem lw_p31 : lw_okq (⟨"HillTap$Course", "speedOf", "(LHillTap$Hill;LHillTap$Story;II)I"⟩, 7) := ⟨⟨by decide +kernel, by decide +kernel⟩, List.mem_of_getElem? (i := 260) (by decide +kernel), List.mem_of_getElem? (i := 667) (by decide +kernel), List.mem_of_getElem? (i := 668) (by decide +kernel)⟩
def lw_privs_2 : List (MethodName × Nat) := [(⟨"HillTap$Teller", "takeKnower", "(LHillTap$Hill;)Z"⟩, 7), (⟨"HillTap$Teller", "pegNamed", "(JI)I"⟩, 7), (⟨"HillTap", "planAnew", "()V"⟩, 13), (⟨"HillTap$Lake", "goalOf", "(I)I"⟩, 8), (⟨"HillTap$Lake", "towards", "(II)I"⟩, 8), (⟨"HillTap", "answer", "(I)I"⟩, 13), (⟨"HillTap", "noHill", "()Z"⟩, 13), (⟨"HillTap", "isPegDay", "(III)Z"⟩, 13), (⟨"HillTap", "isStory", "(I)Z"⟩, 13), (⟨"HillTap", "isPeg", "(I)Z"⟩, 13), (⟨"HillTap", "courseOf", "(I)LHillTap$Course;"⟩, 13), (⟨"HillTap$Course", "fillAdds", "(LHillTap$Hill;LHillTap$Story;[IZ)V"⟩, 7), (⟨"HillTap$Course", "fillByRise", "(II[I)V"⟩, 7), (⟨"HillTap$Course", "fillByMean", "(II[I)V"⟩, 7), (⟨"HillTap$Course", "fillByRain", "(I[I)V"⟩, 7), (⟨"HillTap$Course", "speedOf", "(LHillTap$Hill;LHillTap$Story;II)I"⟩, 7)]
theorem lw_r2 : ∀ q ∈ lw_privs_2, lw_okq q := List.forall_mem_cons.mpr ⟨lw_p16, List.forall_mem_cons.mpr ⟨lw_p17, List.forall_mem_cons.mpr ⟨lw_p18, List.forall_mem_cons.mpr ⟨lw_p19, List.forall_mem_cons.mpr ⟨lw_p20, List.forall_mem_cons.mpr ⟨lw_p21, List.forall_mem_cons.mpr ⟨lw_p22, List.forall_mem_cons.mpr ⟨lw_p23, List.forall_mem_cons.mpr ⟨lw_p24, List.forall_mem_cons.mpr ⟨lw_p25, List.forall_mem_cons.mpr ⟨lw_p26, List.forall_mem_cons.mpr ⟨lw_p27, List.forall_mem_cons.mpr ⟨lw_p28, List.forall_mem_cons.mpr ⟨lw_p29, List.forall_mem_cons.mpr ⟨lw_p30, List.forall_mem_cons.mpr ⟨lw_p31, fun _ h => absurd h List.not_mem_nil⟩⟩⟩⟩⟩⟩⟩⟩⟩⟩⟩⟩⟩⟩⟩⟩
theorem lw_p32 : lw_okq (⟨"HillTap$Course", "creepBy", "(ILHillTap$Story;II)V"⟩, 7) := ⟨⟨by decide +kernel, by decide +kernel⟩, List.mem_of_getElem? (i := 260) (by decide +kernel), List.mem_of_getElem? (i := 674) (by decide +kernel), List.mem_of_getElem? (i := 675) (by decide +kernel)⟩
theorem lw_p33 : lw_okq (⟨"HillTap", "findFits", "()V"⟩, 13) := ⟨⟨by decide +kernel, by decide +kernel⟩, List.mem_of_getElem? (i := 23) (by decide +kernel), List.mem_of_getElem? (i := 704) (by decide +kernel), List.mem_of_getElem? (i := 705) (by decide +kernel)⟩
theorem lw_p34 : lw_okq (⟨"HillTap", "countFitsUpTo", "(I)I"⟩, 13) := ⟨⟨by decide +kernel, by decide +kernel⟩, List.mem_of_getElem? (i := 23) (by decide +kernel), List.mem_of_getElem? (i := 717) (by decide +kernel), List.mem_of_getElem? (i := 718) (by decide +kernel)⟩
theorem lw_p35 : lw_okq (⟨"HillTap", "isFit", "(I)Z"⟩, 13) := ⟨⟨by decide +kernel, by decide +kernel⟩, List.mem_of_getElem? (i := 23) (by decide +kernel), List.mem_of_getElem? (i := 725) (by decide +kernel), List.mem_of_getElem? (i := 726) (by decide +kernel)⟩
theorem lw_p36 : lw_okq (⟨"HillTap", "weightOfFits", "()I"⟩, 13) := ⟨⟨by decide +kernel, by decide +kernel⟩, List.mem_of_getElem? (i := 23) (by decide +kernel), List.mem_of_getElem? (i := 733) (by decide +kernel), List.mem_of_getElem? (i := 734) (by decide +kernel)⟩
theorem lw_p37 : lw_okq (⟨"HillTap", "countLettings", "()I"⟩, 13) := ⟨⟨by decide +kernel, by decide +kernel⟩, List.mem_of_getElem? (i := 23) (by decide +kernel), List.mem_of_getElem? (i := 745) (by decide +kernel), List.mem_of_getElem? (i := 746) (by decide +kernel)⟩
theorem lw_p38 : lw_okq (⟨"HillTap", "isLetting", "(I)Z"⟩, 13) := ⟨⟨by decide +kernel, by decide +kernel⟩, List.mem_of_getElem? (i := 23) (by decide +kernel), List.mem_of_getElem? (i := 749) (by decide +kernel), List.mem_of_getElem? (i := 750) (by decide +kernel)⟩
theorem lw_p39 : lw_okq (⟨"HillTap", "falls", "(I)Z"⟩, 13) := ⟨⟨by decide +kernel, by decide +kernel⟩, List.mem_of_getElem? (i := 23) (by decide +kernel), List.mem_of_getElem? (i := 753) (by decide +kernel), List.mem_of_getElem? (i := 754) (by decide +kernel)⟩
theorem lw_p40 : lw_okq (⟨"HillTap", "tapOf", "(I)I"⟩, 13) := ⟨⟨by decide +kernel, by decide +kernel⟩, List.mem_of_getElem? (i := 23) (by decide +kernel), List.mem_of_getElem? (i := 761) (by decide +kernel), List.mem_of_getElem? (i := 762) (by decide +kernel)⟩
theorem lw_p41 : lw_okq (⟨"HillTap", "staysIfDownFrom", "(II)Z"⟩, 13) := ⟨⟨by decide +kernel, by decide +kernel⟩, List.mem_of_getElem? (i := 23) (by decide +kernel), List.mem_of_getElem? (i := 792) (by decide +kernel), List.mem_of_getElem? (i := 793) (by decide +kernel)⟩
theorem lw_p42 : lw_okq (⟨"HillTap", "staysIfSteady", "(II)Z"⟩, 13) := ⟨⟨by decide +kernel, by decide +kernel⟩, List.mem_of_getElem? (i := 23) (by decide +kernel), List.mem_of_getElem? (i := 804) (by decide +kernel), List.mem_of_getElem? (i := 805) (by decide +kernel)⟩
theorem lw_p43 : lw_okq (⟨"HillTap", "greatestAlike", "(I)I"⟩, 13) := ⟨⟨by decide +kernel, by decide +kernel⟩, List.mem_of_getElem? (i := 23) (by decide +kernel), List.mem_of_getElem? (i := 824) (by decide +kernel), List.mem_of_getElem? (i := 825) (by decide +kernel)⟩
theorem lw_p44 : lw_okq (⟨"HillTap", "weightFinding", "(I)I"⟩, 13) := ⟨⟨by decide +kernel, by decide +kernel⟩, List.mem_of_getElem? (i := 23) (by decide +kernel), List.mem_of_getElem? (i := 828) (by decide +kernel), List.mem_of_getElem? (i := 829) (by decide +kernel)⟩
theorem lw_p45 : lw_okq (⟨"HillTap", "isVillage", "(I)Z"⟩, 13) := ⟨⟨by decide +kernel, by decide +kernel⟩, List.mem_of_getElem? (i := 23) (by decide +kernel), List.mem_of_getElem? (i := 837) (by decide +kernel), List.mem_of_getElem? (i := 838) (by decide +kernel)⟩
theorem lw_p46 : lw_okq (⟨"HillTap", "strikes", "(II)Z"⟩, 13) := ⟨⟨by decide +kernel, by decide +kernel⟩, List.mem_of_getElem? (i := 23) (by decide +kernel), List.mem_of_getElem? (i := 841) (by decide +kernel), List.mem_of_getElem? (i := 842) (by decide +kernel)⟩
theorem lw_p47 : lw_okq (⟨"java/lang/Throwable", "fillInStackTrace", "(I)Ljava/lang/Throwable;"⟩, 6) := ⟨⟨by decide +kernel, by decide +kernel⟩, List.mem_of_getElem? (i := 919) (by decide +kernel), List.mem_of_getElem? (i := 917) (by decide +kernel), List.mem_of_getElem? (i := 918) (by decide +kernel)⟩
def lw_privs_3 : List (MethodName × Nat) := [(⟨"HillTap$Course", "creepBy", "(ILHillTap$Story;II)V"⟩, 7), (⟨"HillTap", "findFits", "()V"⟩, 13), (⟨"HillTap", "countFitsUpTo", "(I)I"⟩, 13), (⟨"HillTap", "isFit", "(I)Z"⟩, 13), (⟨"HillTap", "weightOfFits", "()I"⟩, 13), (⟨"HillTap", "countLettings", "()I"⟩, 13), (⟨"HillTap", "isLetting", "(I)Z"⟩, 13), (⟨"HillTap", "falls", "(I)Z"⟩, 13), (⟨"HillTap", "tapOf", "(I)I"⟩, 13), (⟨"HillTap", "staysIfDownFrom", "(II)Z"⟩, 13), (⟨"HillTap", "staysIfSteady", "(II)Z"⟩, 13), (⟨"HillTap", "greatestAlike", "(I)I"⟩, 13), (⟨"HillTap", "weightFinding", "(I)I"⟩, 13), (⟨"HillTap", "isVillage", "(I)Z"⟩, 13), (⟨"HillTap", "strikes", "(II)Z"⟩, 13), (⟨"java/lang/Throwable", "fillInStackTrace", "(I)Ljava/lang/Throwable;"⟩, 6)]
theorem lw_r3 : ∀ q ∈ lw_privs_3, lw_okq q := List.forall_mem_cons.mpr ⟨lw_p32, List.forall_mem_cons.mpr ⟨lw_p33, List.forall_mem_cons.mpr ⟨lw_p34, List.forall_mem_cons.mpr ⟨lw_p35, List.forall_mem_cons.mpr ⟨lw_p36, List.forall_mem_cons.mpr ⟨lw_p37, List.forall_mem_cons.mpr ⟨lw_p38, List.forall_mem_cons.mpr ⟨lw_p39, List.forall_mem_cons.mpr ⟨lw_p40, List.forall_mem_cons.mpr ⟨lw_p41, List.forall_mem_cons.mpr ⟨lw_p42, List.forall_mem_cons.mpr ⟨lw_p43, List.forall_mem_cons.mpr ⟨lw_p44, List.forall_mem_cons.mpr ⟨lw_p45, List.forall_mem_cons.mpr ⟨lw_p46, List.forall_mem_cons.mpr ⟨lw_p47, fun _ h => absurd h List.not_mem_nil⟩⟩⟩⟩⟩⟩⟩⟩⟩⟩⟩⟩⟩⟩⟩⟩
theorem lw_p48 : lw_okq (⟨"HillTapModel", "refused", "(I)I"⟩, 26) := ⟨⟨by decide +kernel, by decide +kernel⟩, List.mem_of_getElem? (i := 950) (by decide +kernel), List.mem_of_getElem? (i := 1043) (by decide +kernel), List.mem_of_getElem? (i := 1044) (by decide +kernel)⟩
theorem lw_p49 : lw_okq (⟨"HillTapModel", "goesOn", "()V"⟩, 26) := ⟨⟨by decide +kernel, by decide +kernel⟩, List.mem_of_getElem? (i := 950) (by decide +kernel), List.mem_of_getElem? (i := 1157) (by decide +kernel), List.mem_of_getElem? (i := 1158) (by decide +kernel)⟩
theorem lw_p50 : lw_okq (⟨"HillTapModel", "byteAt", "(I)I"⟩, 26) := ⟨⟨by decide +kernel, by decide +kernel⟩, List.mem_of_getElem? (i := 950) (by decide +kernel), List.mem_of_getElem? (i := 1161) (by decide +kernel), List.mem_of_getElem? (i := 1162) (by decide +kernel)⟩
theorem lw_p51 : lw_okq (⟨"HillTapModel", "readHill", "()V"⟩, 26) := ⟨⟨by decide +kernel, by decide +kernel⟩, List.mem_of_getElem? (i := 950) (by decide +kernel), List.mem_of_getElem? (i := 1172) (by decide +kernel), List.mem_of_getElem? (i := 1173) (by decide +kernel)⟩
theorem lw_p52 : lw_okq (⟨"HillTapModel", "readLine", "()V"⟩, 26) := ⟨⟨by decide +kernel, by decide +kernel⟩, List.mem_of_getElem? (i := 950) (by decide +kernel), List.mem_of_getElem? (i := 1176) (by decide +kernel), List.mem_of_getElem? (i := 1177) (by decide +kernel)⟩
theorem lw_p53 : lw_okq (⟨"HillTapModel", "isWord", "(Ljava/lang/String;)Z"⟩, 26) := ⟨⟨by decide +kernel, by decide +kernel⟩, List.mem_of_getElem? (i := 950) (by decide +kernel), List.mem_of_getElem? (i := 1181) (by decide +kernel), List.mem_of_getElem? (i := 1182) (by decide +kernel)⟩
theorem lw_p54 : lw_okq (⟨"HillTapModel", "readLake", "()V"⟩, 26) := ⟨⟨by decide +kernel, by decide +kernel⟩, List.mem_of_getElem? (i := 950) (by decide +kernel), List.mem_of_getElem? (i := 1190) (by decide +kernel), List.mem_of_getElem? (i := 1191) (by decide +kernel)⟩
theorem lw_p55 : lw_okq (⟨"HillTapModel", "wrong", "(I)V"⟩, 26) := ⟨⟨by decide +kernel, by decide +kernel⟩, List.mem_of_getElem? (i := 950) (by decide +kernel), List.mem_of_getElem? (i := 1194) (by decide +kernel), List.mem_of_getElem? (i := 1195) (by decide +kernel)⟩
theorem lw_p56 : lw_okq (⟨"HillTapModel", "readPart", "(Ljava/lang/String;II)I"⟩, 26) := ⟨⟨by decide +kernel, by decide +kernel⟩, List.mem_of_getElem? (i := 950) (by decide +kernel), List.mem_of_getElem? (i := 1199) (by decide +kernel), List.mem_of_getElem? (i := 1200) (by decide +kernel)⟩
theorem lw_p57 : lw_okq (⟨"HillTapModel", "readWhole", "(II)I"⟩, 26) := ⟨⟨by decide +kernel, by decide +kernel⟩, List.mem_of_getElem? (i := 950) (by decide +kernel), List.mem_of_getElem? (i := 1203) (by decide +kernel), List.mem_of_getElem? (i := 1204) (by decide +kernel)⟩
theorem lw_p58 : lw_okq (⟨"HillTapModel", "readPeg", "()V"⟩, 26) := ⟨⟨by decide +kernel, by decide +kernel⟩, List.mem_of_getElem? (i := 950) (by decide +kernel), List.mem_of_getElem? (i := 1213) (by decide +kernel), List.mem_of_getElem? (i := 1214) (by decide +kernel)⟩
theorem lw_p59 : lw_okq (⟨"HillTapModel", "begins", "(II)V"⟩, 26) := ⟨⟨by decide +kernel, by decide +kernel⟩, List.mem_of_getElem? (i := 950) (by decide +kernel), List.mem_of_getElem? (i := 1217) (by decide +kernel), List.mem_of_getElem? (i := 1218) (by decide +kernel)⟩
theorem lw_p60 : lw_okq (⟨"HillTapModel", "readFresh", "(II)V"⟩, 26) := ⟨⟨by decide +kernel, by decide +kernel⟩, List.mem_of_getElem? (i := 950) (by decide +kernel), List.mem_of_getElem? (i := 1221) (by decide +kernel), List.mem_of_getElem? (i := 1222) (by decide +kernel)⟩
theorem lw_p61 : lw_okq (⟨"HillTapModel", "isName", "()Z"⟩, 26) := ⟨⟨by decide +kernel, by decide +kernel⟩, List.mem_of_getElem? (i := 950) (by decide +kernel), List.mem_of_getElem? (i := 1225) (by decide +kernel), List.mem_of_getElem? (i := 1226) (by decide +kernel)⟩
theorem lw_p62 : lw_okq (⟨"HillTapModel", "readFrom", "()V"⟩, 26) := ⟨⟨by decide +kernel, by decide +kernel⟩, List.mem_of_getElem? (i := 950) (by decide +kernel), List.mem_of_getElem? (i := 1240) (by decide +kernel), List.mem_of_getElem? (i := 1241) (by decide +kernel)⟩
theorem lw_p63 : lw_okq (⟨"HillTapModel", "readRain", "()V"⟩, 26) := ⟨⟨by decide +kernel, by decide +kernel⟩, List.mem_of_getElem? (i := 950) (by decide +kernel), List.mem_of_getElem? (i := 1245) (by decide +kernel), List.mem_of_getElem? (i := 1246) (by decide +kernel)⟩
def lw_privs_4 : List (MethodName × Nat) := [(⟨"HillTapModel", "refused", "(I)I"⟩, 26), (⟨"HillTapModel", "goesOn", "()V"⟩, 26), (⟨"HillTapModel", "byteAt", "(I)I"⟩, 26), (⟨"HillTapModel", "readHill", "()V"⟩, 26), (⟨"HillTapModel", "readLine", "()V"⟩, 26), (⟨"HillTapModel", "isWord", "(Ljava/lang/String;)Z"⟩, 26), (⟨"HillTapModel", "readLake", "()V"⟩, 26), (⟨"HillTapModel", "wrong", "(I)V"⟩, 26), (⟨"HillTapModel", "readPart", "(Ljava/lang/String;II)I"⟩, 26), (⟨"HillTapModel", "readWhole", "(II)I"⟩, 26), (⟨"HillTapModel", "readPeg", "()V"⟩, 26), (⟨"HillTapModel", "begins", "(II)V"⟩, 26), (⟨"HillTapModel", "readFresh", "(II)V"⟩, 26), (⟨"HillTapModel", "isName", "()Z"⟩, 26), (⟨"HillTapModel", "readFrom", "()V"⟩, 26), (⟨"HillTapModel", "readRain", "()V"⟩, 26)]
theorem lw_r4 : ∀ q ∈ lw_privs_4, lw_okq q := List.forall_mem_cons.mpr ⟨lw_p48, List.forall_mem_cons.mpr ⟨lw_p49, List.forall_mem_cons.mpr ⟨lw_p50, List.forall_mem_cons.mpr ⟨lw_p51, List.forall_mem_cons.mpr ⟨lw_p52, List.forall_mem_cons.mpr ⟨lw_p53, List.forall_mem_cons.mpr ⟨lw_p54, List.forall_mem_cons.mpr ⟨lw_p55, List.forall_mem_cons.mpr ⟨lw_p56, List.forall_mem_cons.mpr ⟨lw_p57, List.forall_mem_cons.mpr ⟨lw_p58, List.forall_mem_cons.mpr ⟨lw_p59, List.forall_mem_cons.mpr ⟨lw_p60, List.forall_mem_cons.mpr ⟨lw_p61, List.forall_mem_cons.mpr ⟨lw_p62, List.forall_mem_cons.mpr ⟨lw_p63, fun _ h => absurd h List.not_mem_nil⟩⟩⟩⟩⟩⟩⟩⟩⟩⟩⟩⟩⟩⟩⟩⟩
theorem lw_p64 : lw_okq (⟨"HillTapModel", "readStory", "()V"⟩, 26) := ⟨⟨by decide +kernel, by decide +kernel⟩, List.mem_of_getElem? (i := 950) (by decide +kernel), List.mem_of_getElem? (i := 1250) (by decide +kernel), List.mem_of_getElem? (i := 1251) (by decide +kernel)⟩
theorem lw_p65 : lw_okq (⟨"HillTapModel", "readVillage", "()V"⟩, 26) := ⟨⟨by decide +kernel, by decide +kernel⟩, List.mem_of_getElem? (i := 950) (by decide +kernel), List.mem_of_getElem? (i := 1264) (by decide +kernel), List.mem_of_getElem? (i := 1265) (by decide +kernel)⟩
theorem lw_p66 : lw_okq (⟨"HillTapModel", "readKnower", "()V"⟩, 26) := ⟨⟨by decide +kernel, by decide +kernel⟩, List.mem_of_getElem? (i := 950) (by decide +kernel), List.mem_of_getElem? (i := 1271) (by decide +kernel), List.mem_of_getElem? (i := 1272) (by decide +kernel)⟩
theorem lw_p67 : lw_okq (⟨"HillTapModel", "done", "(I)I"⟩, 26) := ⟨⟨by decide +kernel, by decide +kernel⟩, List.mem_of_getElem? (i := 950) (by decide +kernel), List.mem_of_getElem? (i := 1277) (by decide +kernel), List.mem_of_getElem? (i := 1278) (by decide +kernel)⟩
theorem lw_p68 : lw_okq (⟨"HillTapModel", "isDay", "(I)Z"⟩, 26) := ⟨⟨by decide +kernel, by decide +kernel⟩, List.mem_of_getElem? (i := 950) (by decide +kernel), List.mem_of_getElem? (i := 1293) (by decide +kernel), List.mem_of_getElem? (i := 1294) (by decide +kernel)⟩
theorem lw_p69 : lw_okq (⟨"HillTapModel", "fills", "(II)V"⟩, 26) := ⟨⟨by decide +kernel, by decide +kernel⟩, List.mem_of_getElem? (i := 950) (by decide +kernel), List.mem_of_getElem? (i := 1297) (by decide +kernel), List.mem_of_getElem? (i := 1298) (by decide +kernel)⟩
theorem lw_p70 : lw_okq (⟨"HillTapModel", "goalOf", "(I)I"⟩, 26) := ⟨⟨by decide +kernel, by decide +kernel⟩, List.mem_of_getElem? (i := 950) (by decide +kernel), List.mem_of_getElem? (i := 1301) (by decide +kernel), List.mem_of_getElem? (i := 1302) (by decide +kernel)⟩
theorem lw_p71 : lw_okq (⟨"HillTapModel", "isStory", "(I)Z"⟩, 26) := ⟨⟨by decide +kernel, by decide +kernel⟩, List.mem_of_getElem? (i := 950) (by decide +kernel), List.mem_of_getElem? (i := 1317) (by decide +kernel), List.mem_of_getElem? (i := 1318) (by decide +kernel)⟩
theorem lw_p72 : lw_okq (⟨"HillTapModel", "isPeg", "(I)Z"⟩, 26) := ⟨⟨by decide +kernel, by decide +kernel⟩, List.mem_of_getElem? (i := 950) (by decide +kernel), List.mem_of_getElem? (i := 1321) (by decide +kernel), List.mem_of_getElem? (i := 1322) (by decide +kernel)⟩
theorem lw_p73 : lw_okq (⟨"HillTapModel", "runsAsTold", "(I)V"⟩, 26) := ⟨⟨by decide +kernel, by decide +kernel⟩, List.mem_of_getElem? (i := 950) (by decide +kernel), List.mem_of_getElem? (i := 1325) (by decide +kernel), List.mem_of_getElem? (i := 1326) (by decide +kernel)⟩
theorem lw_p74 : lw_okq (⟨"HillTapModel", "runs", "(IZ)V"⟩, 26) := ⟨⟨by decide +kernel, by decide +kernel⟩, List.mem_of_getElem? (i := 950) (by decide +kernel), List.mem_of_getElem? (i := 1329) (by decide +kernel), List.mem_of_getElem? (i := 1330) (by decide +kernel)⟩
theorem lw_p75 : lw_okq (⟨"HillTapModel", "addOf", "(IIZ)I"⟩, 26) := ⟨⟨by decide +kernel, by decide +kernel⟩, List.mem_of_getElem? (i := 950) (by decide +kernel), List.mem_of_getElem? (i := 1333) (by decide +kernel), List.mem_of_getElem? (i := 1334) (by decide +kernel)⟩
theorem lw_p76 : lw_okq (⟨"HillTapModel", "newOf", "(II)I"⟩, 26) := ⟨⟨by decide +kernel, by decide +kernel⟩, List.mem_of_getElem? (i := 950) (by decide +kernel), List.mem_of_getElem? (i := 1337) (by decide +kernel), List.mem_of_getElem? (i := 1338) (by decide +kernel)⟩
theorem lw_p77 : lw_okq (⟨"HillTapModel", "meanOf", "(II)I"⟩, 26) := ⟨⟨by decide +kernel, by decide +kernel⟩, List.mem_of_getElem? (i := 950) (by decide +kernel), List.mem_of_getElem? (i := 1341) (by decide +kernel), List.mem_of_getElem? (i := 1342) (by decide +kernel)⟩
theorem lw_p78 : lw_okq (⟨"HillTapModel", "rainOf", "(I)I"⟩, 26) := ⟨⟨by decide +kernel, by decide +kernel⟩, List.mem_of_getElem? (i := 950) (by decide +kernel), List.mem_of_getElem? (i := 1345) (by decide +kernel), List.mem_of_getElem? (i := 1346) (by decide +kernel)⟩
theorem lw_p79 : lw_okq (⟨"HillTapModel", "speedOf", "(IIII)I"⟩, 26) := ⟨⟨by decide +kernel, by decide +kernel⟩, List.mem_of_getElem? (i := 950) (by decide +kernel), List.mem_of_getElem? (i := 1349) (by decide +kernel), List.mem_of_getElem? (i := 1350) (by decide +kernel)⟩
def lw_privs_5 : List (MethodName × Nat) := [(⟨"HillTapModel", "readStory", "()V"⟩, 26), (⟨"HillTapModel", "readVillage", "()V"⟩, 26), (⟨"HillTapModel", "readKnower", "()V"⟩, 26), (⟨"HillTapModel", "done", "(I)I"⟩, 26), (⟨"HillTapModel", "isDay", "(I)Z"⟩, 26), (⟨"HillTapModel", "fills", "(II)V"⟩, 26), (⟨"HillTapModel", "goalOf", "(I)I"⟩, 26), (⟨"HillTapModel", "isStory", "(I)Z"⟩, 26), (⟨"HillTapModel", "isPeg", "(I)Z"⟩, 26), (⟨"HillTapModel", "runsAsTold", "(I)V"⟩, 26), (⟨"HillTapModel", "runs", "(IZ)V"⟩, 26), (⟨"HillTapModel", "addOf", "(IIZ)I"⟩, 26), (⟨"HillTapModel", "newOf", "(II)I"⟩, 26), (⟨"HillTapModel", "meanOf", "(II)I"⟩, 26), (⟨"HillTapModel", "rainOf", "(I)I"⟩, 26), (⟨"HillTapModel", "speedOf", "(IIII)I"⟩, 26)]
theorem lw_r5 : ∀ q ∈ lw_privs_5, lw_okq q := List.forall_mem_cons.mpr ⟨lw_p64, List.forall_mem_cons.mpr ⟨lw_p65, List.forall_mem_cons.mpr ⟨lw_p66, List.forall_mem_cons.mpr ⟨lw_p67, List.forall_mem_cons.mpr ⟨lw_p68, List.forall_mem_cons.mpr ⟨lw_p69, List.forall_mem_cons.mpr ⟨lw_p70, List.forall_mem_cons.mpr ⟨lw_p71, List.forall_mem_cons.mpr ⟨lw_p72, List.forall_mem_cons.mpr ⟨lw_p73, List.forall_mem_cons.mpr ⟨lw_p74, List.forall_mem_cons.mpr ⟨lw_p75, List.forall_mem_cons.mpr ⟨lw_p76, List.forall_mem_cons.mpr ⟨lw_p77, List.forall_mem_cons.mpr ⟨lw_p78, List.forall_mem_cons.mpr ⟨lw_p79, fun _ h => absurd h List.not_mem_nil⟩⟩⟩⟩⟩⟩⟩⟩⟩⟩⟩⟩⟩⟩⟩⟩
theorem lw_p80 : lw_okq (⟨"HillTapModel", "waveOf", "()I"⟩, 26) := ⟨⟨by decide +kernel, by decide +kernel⟩, List.mem_of_getElem? (i := 950) (by decide +kernel), List.mem_of_getElem? (i := 1361) (by decide +kernel), List.mem_of_getElem? (i := 1362) (by decide +kernel)⟩
theorem lw_p81 : lw_okq (⟨"HillTapModel", "speeds", "(I)I"⟩, 26) := ⟨⟨by decide +kernel, by decide +kernel⟩, List.mem_of_getElem? (i := 950) (by decide +kernel), List.mem_of_getElem? (i := 1365) (by decide +kernel), List.mem_of_getElem? (i := 1366) (by decide +kernel)⟩
theorem lw_p82 : lw_okq (⟨"HillTapModel", "fitsUpTo", "(I)I"⟩, 26) := ⟨⟨by decide +kernel, by decide +kernel⟩, List.mem_of_getElem? (i := 950) (by decide +kernel), List.mem_of_getElem? (i := 1382) (by decide +kernel), List.mem_of_getElem? (i := 1383) (by decide +kernel)⟩
theorem lw_p83 : lw_okq (⟨"HillTapModel", "agrees", "(II)Z"⟩, 26) := ⟨⟨by decide +kernel, by decide +kernel⟩, List.mem_of_getElem? (i := 950) (by decide +kernel), List.mem_of_getElem? (i := 1386) (by decide +kernel), List.mem_of_getElem? (i := 1387) (by decide +kernel)⟩
theorem lw_p84 : lw_okq (⟨"HillTapModel", "weighs", "()I"⟩, 26) := ⟨⟨by decide +kernel, by decide +kernel⟩, List.mem_of_getElem? (i := 950) (by decide +kernel), List.mem_of_getElem? (i := 1398) (by decide +kernel), List.mem_of_getElem? (i := 1399) (by decide +kernel)⟩
theorem lw_p85 : lw_okq (⟨"HillTapModel", "lettingsOf", "()I"⟩, 26) := ⟨⟨by decide +kernel, by decide +kernel⟩, List.mem_of_getElem? (i := 950) (by decide +kernel), List.mem_of_getElem? (i := 1410) (by decide +kernel), List.mem_of_getElem? (i := 1411) (by decide +kernel)⟩
theorem lw_p86 : lw_okq (⟨"HillTapModel", "isLetting", "(I)Z"⟩, 26) := ⟨⟨by decide +kernel, by decide +kernel⟩, List.mem_of_getElem? (i := 950) (by decide +kernel), List.mem_of_getElem? (i := 1414) (by decide +kernel), List.mem_of_getElem? (i := 1415) (by decide +kernel)⟩
theorem lw_p87 : lw_okq (⟨"HillTapModel", "levelAt", "(I)I"⟩, 26) := ⟨⟨by decide +kernel, by decide +kernel⟩, List.mem_of_getElem? (i := 950) (by decide +kernel), List.mem_of_getElem? (i := 1418) (by decide +kernel), List.mem_of_getElem? (i := 1419) (by decide +kernel)⟩
theorem lw_p88 : lw_okq (⟨"HillTapModel", "tapOf", "(I)I"⟩, 26) := ⟨⟨by decide +kernel, by decide +kernel⟩, List.mem_of_getElem? (i := 950) (by decide +kernel), List.mem_of_getElem? (i := 1426) (by decide +kernel), List.mem_of_getElem? (i := 1427) (by decide +kernel)⟩
theorem lw_p89 : lw_okq (⟨"HillTapModel", "isHeld", "(I)Z"⟩, 26) := ⟨⟨by decide +kernel, by decide +kernel⟩, List.mem_of_getElem? (i := 950) (by decide +kernel), List.mem_of_getElem? (i := 1430) (by decide +kernel), List.mem_of_getElem? (i := 1431) (by decide +kernel)⟩
theorem lw_p90 : lw_okq (⟨"HillTapModel", "isLine", "(III)Z"⟩, 26) := ⟨⟨by decide +kernel, by decide +kernel⟩, List.mem_of_getElem? (i := 950) (by decide +kernel), List.mem_of_getElem? (i := 1442) (by decide +kernel), List.mem_of_getElem? (i := 1443) (by decide +kernel)⟩
theorem lw_p91 : lw_okq (⟨"HillTapModel", "isHelp", "(II)Z"⟩, 26) := ⟨⟨by decide +kernel, by decide +kernel⟩, List.mem_of_getElem? (i := 950) (by decide +kernel), List.mem_of_getElem? (i := 1457) (by decide +kernel), List.mem_of_getElem? (i := 1458) (by decide +kernel)⟩
theorem lw_p92 : lw_okq (⟨"HillTapModel", "foundBy", "(II)I"⟩, 26) := ⟨⟨by decide +kernel, by decide +kernel⟩, List.mem_of_getElem? (i := 950) (by decide +kernel), List.mem_of_getElem? (i := 1473) (by decide +kernel), List.mem_of_getElem? (i := 1474) (by decide +kernel)⟩
theorem lw_p93 : lw_okq (⟨"HillTapModel", "alikeAt", "(I)I"⟩, 26) := ⟨⟨by decide +kernel, by decide +kernel⟩, List.mem_of_getElem? (i := 950) (by decide +kernel), List.mem_of_getElem? (i := 1481) (by decide +kernel), List.mem_of_getElem? (i := 1482) (by decide +kernel)⟩
theorem lw_p94 : lw_okq (⟨"HillTapModel", "isVillage", "(I)Z"⟩, 26) := ⟨⟨by decide +kernel, by decide +kernel⟩, List.mem_of_getElem? (i := 950) (by decide +kernel), List.mem_of_getElem? (i := 1489) (by decide +kernel), List.mem_of_getElem? (i := 1490) (by decide +kernel)⟩
theorem lw_p95 : lw_okq (⟨"HillTapModel", "isStruck", "(I)Z"⟩, 26) := ⟨⟨by decide +kernel, by decide +kernel⟩, List.mem_of_getElem? (i := 950) (by decide +kernel), List.mem_of_getElem? (i := 1493) (by decide +kernel), List.mem_of_getElem? (i := 1494) (by decide +kernel)⟩
def lw_privs_6 : List (MethodName × Nat) := [(⟨"HillTapModel", "waveOf", "()I"⟩, 26), (⟨"HillTapModel", "speeds", "(I)I"⟩, 26), (⟨"HillTapModel", "fitsUpTo", "(I)I"⟩, 26), (⟨"HillTapModel", "agrees", "(II)Z"⟩, 26), (⟨"HillTapModel", "weighs", "()I"⟩, 26), (⟨"HillTapModel", "lettingsOf", "()I"⟩, 26), (⟨"HillTapModel", "isLetting", "(I)Z"⟩, 26), (⟨"HillTapModel", "levelAt", "(I)I"⟩, 26), (⟨"HillTapModel", "tapOf", "(I)I"⟩, 26), (⟨"HillTapModel", "isHeld", "(I)Z"⟩, 26), (⟨"HillTapModel", "isLine", "(III)Z"⟩, 26), (⟨"HillTapModel", "isHelp", "(II)Z"⟩, 26), (⟨"HillTapModel", "foundBy", "(II)I"⟩, 26), (⟨"HillTapModel", "alikeAt", "(I)I"⟩, 26), (⟨"HillTapModel", "isVillage", "(I)Z"⟩, 26), (⟨"HillTapModel", "isStruck", "(I)Z"⟩, 26)]
theorem lw_r6 : ∀ q ∈ lw_privs_6, lw_okq q := List.forall_mem_cons.mpr ⟨lw_p80, List.forall_mem_cons.mpr ⟨lw_p81, List.forall_mem_cons.mpr ⟨lw_p82, List.forall_mem_cons.mpr ⟨lw_p83, List.forall_mem_cons.mpr ⟨lw_p84, List.forall_mem_cons.mpr ⟨lw_p85, List.forall_mem_cons.mpr ⟨lw_p86, List.forall_mem_cons.mpr ⟨lw_p87, List.forall_mem_cons.mpr ⟨lw_p88, List.forall_mem_cons.mpr ⟨lw_p89, List.forall_mem_cons.mpr ⟨lw_p90, List.forall_mem_cons.mpr ⟨lw_p91, List.forall_mem_cons.mpr ⟨lw_p92, List.forall_mem_cons.mpr ⟨lw_p93, List.forall_mem_cons.mpr ⟨lw_p94, List.forall_mem_cons.mpr ⟨lw_p95, fun _ h => absurd h List.not_mem_nil⟩⟩⟩⟩⟩⟩⟩⟩⟩⟩⟩⟩⟩⟩⟩⟩
def lw_privs : List (MethodName × Nat) := lw_privs_1 ++ (lw_privs_2 ++ (lw_privs_3 ++ (lw_privs_4 ++ (lw_privs_5 ++ (lw_privs_6)))))
def lw_tbl : List Cond := k2_sels lw_privs ++ tables_1
theorem lw_privs_ok : ∀ q ∈ lw_privs, lw_okq q := by
  show ∀ q ∈ lw_privs_1 ++ (lw_privs_2 ++ (lw_privs_3 ++ (lw_privs_4 ++ (lw_privs_5 ++ (lw_privs_6))))), lw_okq q
  exact List.forall_mem_append.mpr ⟨lw_r1, List.forall_mem_append.mpr ⟨lw_r2, List.forall_mem_append.mpr ⟨lw_r3, List.forall_mem_append.mpr ⟨lw_r4, List.forall_mem_append.mpr ⟨lw_r5, lw_r6⟩⟩⟩⟩⟩
def tb : List Cond := lw_tbl.filter goodWord
theorem tb_of {w : Cond} (h : w ∈ lw_tbl) (hg : goodWord w = true) : w ∈ tb := List.mem_filter.mpr ⟨h, hg⟩
theorem tb_in {w : Cond} (h : w ∈ tb) : w ∈ lw_tbl := (List.mem_filter.mp h).1
theorem tb_good {w : Cond} (h : w ∈ tb) : goodWord w = true := (List.mem_filter.mp h).2
theorem tbm_1 {w : Cond} (i : Nat) (h : tables_1_1[i]? = some w) (hg : goodWord w = true) : w ∈ tb := tb_of (List.mem_append_right _ (show w ∈ tables_1 from List.mem_append_left _ (List.mem_of_getElem? h))) hg
theorem tbm_2 {w : Cond} (i : Nat) (h : tables_1_2[i]? = some w) (hg : goodWord w = true) : w ∈ tb := tb_of (List.mem_append_right _ (show w ∈ tables_1 from List.mem_append_right _ (List.mem_append_left _ (List.mem_of_getElem? h)))) hg
theorem tbm_3 {w : Cond} (i : Nat) (h : tables_1_3[i]? = some w) (hg : goodWord w = true) : w ∈ tb := tb_of (List.mem_append_right _ (show w ∈ tables_1 from List.mem_append_right _ (List.mem_append_right _ (List.mem_append_left _ (List.mem_of_getElem? h))))) hg
theorem tbm_4 {w : Cond} (i : Nat) (h : tables_1_4[i]? = some w) (hg : goodWord w = true) : w ∈ tb := tb_of (List.mem_append_right _ (show w ∈ tables_1 from List.mem_append_right _ (List.mem_append_right _ (List.mem_append_right _ (List.mem_append_left _ (List.mem_of_getElem? h)))))) hg
theorem tbm_5 {w : Cond} (i : Nat) (h : tables_1_5[i]? = some w) (hg : goodWord w = true) : w ∈ tb := tb_of (List.mem_append_right _ (show w ∈ tables_1 from List.mem_append_right _ (List.mem_append_right _ (List.mem_append_right _ (List.mem_append_right _ (List.mem_append_left _ (List.mem_of_getElem? h))))))) hg
theorem tbm_6 {w : Cond} (i : Nat) (h : tables_1_6[i]? = some w) (hg : goodWord w = true) : w ∈ tb := tb_of (List.mem_append_right _ (show w ∈ tables_1 from List.mem_append_right _ (List.mem_append_right _ (List.mem_append_right _ (List.mem_append_right _ (List.mem_append_right _ (List.mem_append_left _ (List.mem_of_getElem? h)))))))) hg
theorem tbm_7 {w : Cond} (i : Nat) (h : tables_1_7[i]? = some w) (hg : goodWord w = true) : w ∈ tb := tb_of (List.mem_append_right _ (show w ∈ tables_1 from List.mem_append_right _ (List.mem_append_right _ (List.mem_append_right _ (List.mem_append_right _ (List.mem_append_right _ (List.mem_append_right _ (List.mem_of_getElem? h)))))))) hg
theorem tbm_p {w : Cond} (i : Nat) (h : (k2_sels lw_privs)[i]? = some w) (hg : goodWord w = true) : w ∈ tb := tb_of (List.mem_append_left _ (List.mem_of_getElem? h)) hg
theorem mT_1_0 : (Jvm.Cond.initialized "HillTapLaw") ∈ tb := tbm_1 0 rfl rfl
theorem mT_1_1 : (Jvm.Cond.initialized "HillTap") ∈ tb := tbm_1 1 rfl rfl
theorem mT_1_2 : (Jvm.Cond.initialized "HillTap$Tape") ∈ tb := tbm_1 2 rfl rfl
theorem mT_1_3 : (Jvm.Cond.initialized "HillTap$Teller") ∈ tb := tbm_1 3 rfl rfl
theorem mT_1_4 : (Jvm.Cond.initialized "HillTap$Tokens") ∈ tb := tbm_1 4 rfl rfl
theorem mT_1_5 : (Jvm.Cond.initialized "HillTap$Hill") ∈ tb := tbm_1 5 rfl rfl
theorem mT_1_6 : (Jvm.Cond.initialized "HillTap$Lake") ∈ tb := tbm_1 6 rfl rfl
theorem mT_1_7 : (Jvm.Cond.initialized "HillTap$Story") ∈ tb := tbm_1 7 rfl rfl
theorem mT_1_8 : (Jvm.Cond.initialized "HillTap$Course") ∈ tb := tbm_1 8 rfl rfl
theorem mT_1_9 : (Jvm.Cond.initialized "HillTap$Readings") ∈ tb := tbm_1 9 rfl rfl
theorem mT_1_10 : (Jvm.Cond.initialized "HillTapModel") ∈ tb := tbm_1 10 rfl rfl
theorem mT_1_11 : (Jvm.Cond.initialized "java/util/Arrays") ∈ tb := tbm_1 11 rfl rfl
theorem mT_1_12 : (Jvm.Cond.initialized "java/lang/Math") ∈ tb := tbm_1 12 rfl rfl
theorem mT_1_13 : (Jvm.Cond.initialized "java/lang/String") ∈ tb := tbm_1 13 rfl rfl
theorem mT_1_14 : (Jvm.Cond.initialized "java/lang/StringLatin1") ∈ tb := tbm_1 14 rfl rfl
theorem mT_1_15 : (Jvm.Cond.initialized "jdk/internal/util/Preconditions") ∈ tb := tbm_1 15 rfl rfl
theorem mT_1_17 : (Jvm.Cond.initialized "HillTapModel$Hill") ∈ tb := tbm_1 17 rfl rfl
theorem mT_1_22 : (Jvm.Cond.classLink "HillTapLaw" (8 : Nat) "HillTap") ∈ tb := tbm_1 22 rfl rfl
theorem mT_1_23 : (Jvm.Cond.instantiable "HillTap" (13 : Nat)) ∈ tb := tbm_1 23 rfl rfl
theorem mT_1_24 : (Jvm.Cond.methodLink "HillTapLaw" (15 : Nat) ({ cls := "HillTap", name := "<init>", desc := "()V" } : Jvm.MethodName)) ∈ tb := tbm_1 24 rfl rfl
theorem mT_1_25 : (Jvm.Cond.instanceMethod ({ cls := "HillTap", name := "<init>", desc := "()V" } : Jvm.MethodName)) ∈ tb := tbm_1 25 rfl rfl
theorem mT_1_26 : (Jvm.Cond.code ({ cls := "HillTap", name := "<init>", desc := "()V" } : Jvm.MethodName) prog_1_method_1_code (2 : Nat) (Option.none : Option Jvm.ClassFile.FieldType)) ∈ tb := tbm_1 26 rfl rfl
theorem mT_1_27 : (Jvm.Cond.methodLink "HillTap" (1 : Nat) ({ cls := "java/lang/Object", name := "<init>", desc := "()V" } : Jvm.MethodName)) ∈ tb := tbm_1 27 rfl rfl
theorem mT_1_28 : (Jvm.Cond.instanceMethod ({ cls := "java/lang/Object", name := "<init>", desc := "()V" } : Jvm.MethodName)) ∈ tb := tbm_1 28 rfl rfl
theorem mT_1_29 : (Jvm.Cond.code ({ cls := "java/lang/Object", name := "<init>", desc := "()V" } : Jvm.MethodName) object_method_1_code (1 : Nat) (Option.none : Option Jvm.ClassFile.FieldType)) ∈ tb := tbm_1 29 rfl rfl
theorem mT_1_30 : (Jvm.Cond.classLink "HillTap" (7 : Nat) "HillTap$Tape") ∈ tb := tbm_1 30 rfl rfl
theorem mT_1_31 : (Jvm.Cond.instantiable "HillTap$Tape" (2 : Nat)) ∈ tb := tbm_1 31 rfl rfl
theorem mT_1_33 : (Jvm.Cond.instanceMethod ({ cls := "HillTap$Tape", name := "<init>", desc := "()V" } : Jvm.MethodName)) ∈ tb := tbm_1 33 rfl rfl
theorem mT_1_34 : (Jvm.Cond.code ({ cls := "HillTap$Tape", name := "<init>", desc := "()V" } : Jvm.MethodName) prog_7_method_1_code (1 : Nat) (Option.none : Option Jvm.ClassFile.FieldType)) ∈ tb := tbm_1 34 rfl rfl
theorem mT_1_35 : (Jvm.Cond.methodLink "HillTap$Tape" (3 : Nat) ({ cls := "java/lang/Object", name := "<init>", desc := "()V" } : Jvm.MethodName)) ∈ tb := tbm_1 35 rfl rfl
theorem mT_1_36 : (Jvm.Cond.fieldLink "HillTap$Tape" (9 : Nat) "HillTap$Tape" "bytes" "[B") ∈ tb := tbm_1 36 rfl rfl
theorem mT_1_37 : (Jvm.Cond.fieldLink "HillTap$Tokens" (39 : Nat) "HillTap$Tape" "bytes" "[B") ∈ tb := tbm_1 37 rfl rfl
theorem mT_1_38 : (Jvm.Cond.fieldLink "HillTap" (74 : Nat) "HillTap$Tape" "length" "I") ∈ tb := tbm_1 38 rfl rfl
theorem mT_1_39 : (Jvm.Cond.fieldLink "HillTap$Tokens" (15 : Nat) "HillTap$Tape" "length" "I") ∈ tb := tbm_1 39 rfl rfl
theorem mT_1_40 : (Jvm.Cond.fieldLink "HillTap$Tape" (15 : Nat) "HillTap$Tape" "length" "I") ∈ tb := tbm_1 40 rfl rfl
theorem mT_1_46 : (Jvm.Cond.arrayClass Jvm.ClassFile.FieldType.byte) ∈ tb := tbm_1 46 rfl rfl
theorem mT_1_47 : (Jvm.Cond.classLink "HillTap" (16 : Nat) "HillTap$Teller") ∈ tb := tbm_1 47 rfl rfl
theorem mT_1_48 : (Jvm.Cond.instantiable "HillTap$Teller" (7 : Nat)) ∈ tb := tbm_1 48 rfl rfl
theorem mT_1_49 : (Jvm.Cond.methodLink "HillTap" (18 : Nat) ({ cls := "HillTap$Teller", name := "<init>", desc := "(LHillTap$Tape;)V" } : Jvm.MethodName)) ∈ tb := tbm_1 49 rfl rfl
theorem mT_1_50 : (Jvm.Cond.instanceMethod ({ cls := "HillTap$Teller", name := "<init>", desc := "(LHillTap$Tape;)V" } : Jvm.MethodName)) ∈ tb := tbm_1 50 rfl rfl
theorem mT_1_51 : (Jvm.Cond.code ({ cls := "HillTap$Teller", name := "<init>", desc := "(LHillTap$Tape;)V" } : Jvm.MethodName) prog_8_method_1_code (2 : Nat) (Option.none : Option Jvm.ClassFile.FieldType)) ∈ tb := tbm_1 51 rfl rfl
theorem mT_1_52 : (Jvm.Cond.methodLink "HillTap$Teller" (3 : Nat) ({ cls := "java/lang/Object", name := "<init>", desc := "()V" } : Jvm.MethodName)) ∈ tb := tbm_1 52 rfl rfl
theorem mT_1_53 : (Jvm.Cond.classLink "HillTap$Teller" (18 : Nat) "HillTap$Tokens") ∈ tb := tbm_1 53 rfl rfl
theorem mT_1_54 : (Jvm.Cond.instantiable "HillTap$Tokens" (6 : Nat)) ∈ tb := tbm_1 54 rfl rfl
theorem mT_1_55 : (Jvm.Cond.methodLink "HillTap$Teller" (20 : Nat) ({ cls := "HillTap$Tokens", name := "<init>", desc := "(LHillTap$Tape;)V" } : Jvm.MethodName)) ∈ tb := tbm_1 55 rfl rfl
theorem mT_1_56 : (Jvm.Cond.instanceMethod ({ cls := "HillTap$Tokens", name := "<init>", desc := "(LHillTap$Tape;)V" } : Jvm.MethodName)) ∈ tb := tbm_1 56 rfl rfl
theorem mT_1_57 : (Jvm.Cond.code ({ cls := "HillTap$Tokens", name := "<init>", desc := "(LHillTap$Tape;)V" } : Jvm.MethodName) prog_9_method_1_code (2 : Nat) (Option.none : Option Jvm.ClassFile.FieldType)) ∈ tb := tbm_1 57 rfl rfl
theorem mT_1_58 : (Jvm.Cond.methodLink "HillTap$Tokens" (3 : Nat) ({ cls := "java/lang/Object", name := "<init>", desc := "()V" } : Jvm.MethodName)) ∈ tb := tbm_1 58 rfl rfl
theorem mT_1_59 : (Jvm.Cond.fieldLink "HillTap$Tokens" (9 : Nat) "HillTap$Tokens" "tape" "LHillTap$Tape;") ∈ tb := tbm_1 59 rfl rfl
theorem mT_1_60 : (Jvm.Cond.fieldLink "HillTap$Tokens" (27 : Nat) "HillTap$Tokens" "end" "I") ∈ tb := tbm_1 60 rfl rfl
theorem mT_1_61 : (Jvm.Cond.fieldLink "HillTap$Tokens" (30 : Nat) "HillTap$Tokens" "behind" "I") ∈ tb := tbm_1 61 rfl rfl
theorem mT_1_62 : (Jvm.Cond.fieldLink "HillTap$Tokens" (47 : Nat) "HillTap$Tokens" "kind" "I") ∈ tb := tbm_1 62 rfl rfl
theorem mT_1_63 : (Jvm.Cond.fieldLink "HillTap$Tokens" (36 : Nat) "HillTap$Tokens" "place" "I") ∈ tb := tbm_1 63 rfl rfl
theorem mT_1_64 : (Jvm.Cond.fieldLink "HillTap$Teller" (261 : Nat) "HillTap$Tokens" "place" "I") ∈ tb := tbm_1 64 rfl rfl
theorem mT_1_65 : (Jvm.Cond.fieldLink "HillTap$Tokens" (43 : Nat) "HillTap$Tokens" "value" "J") ∈ tb := tbm_1 65 rfl rfl
theorem mT_1_66 : (Jvm.Cond.fieldLink "HillTap$Teller" (144 : Nat) "HillTap$Tokens" "value" "J") ∈ tb := tbm_1 66 rfl rfl
theorem mT_1_80 : (Jvm.Cond.arrayClass Jvm.ClassFile.FieldType.long) ∈ tb := tbm_1 80 rfl rfl
theorem mT_1_81 : (Jvm.Cond.fieldLink "HillTap$Teller" (23 : Nat) "HillTap$Teller" "tokens" "LHillTap$Tokens;") ∈ tb := tbm_1 81 rfl rfl
theorem mT_1_82 : (Jvm.Cond.fieldLink "HillTap$Teller" (11 : Nat) "HillTap$Teller" "names" "[J") ∈ tb := tbm_1 82 rfl rfl
theorem mT_1_83 : (Jvm.Cond.fieldLink "HillTap$Teller" (15 : Nat) "HillTap$Teller" "pegNames" "[J") ∈ tb := tbm_1 83 rfl rfl
theorem mT_1_84 : (Jvm.Cond.fieldLink "HillTap$Teller" (32 : Nat) "HillTap$Teller" "nameCount" "I") ∈ tb := tbm_1 84 rfl rfl
theorem mT_1_85 : (Jvm.Cond.fieldLink "HillTap$Teller" (125 : Nat) "HillTap$Teller" "whole" "I") ∈ tb := tbm_1 85 rfl rfl
theorem mT_1_86 : (Jvm.Cond.fieldLink "HillTap$Teller" (36 : Nat) "HillTap$Teller" "fault" "I") ∈ tb := tbm_1 86 rfl rfl
theorem mT_1_87 : (Jvm.Cond.fieldLink "HillTap" (101 : Nat) "HillTap$Teller" "fault" "I") ∈ tb := tbm_1 87 rfl rfl
theorem mT_1_88 : (Jvm.Cond.fieldLink "HillTap$Teller" (39 : Nat) "HillTap$Teller" "faultPlace" "I") ∈ tb := tbm_1 88 rfl rfl
theorem mT_1_89 : (Jvm.Cond.fieldLink "HillTap" (104 : Nat) "HillTap$Teller" "faultPlace" "I") ∈ tb := tbm_1 89 rfl rfl
theorem mT_1_105 : (Jvm.Cond.classLink "HillTap" (25 : Nat) "HillTap$Hill") ∈ tb := tbm_1 105 rfl rfl
theorem mT_1_106 : (Jvm.Cond.instantiable "HillTap$Hill" (15 : Nat)) ∈ tb := tbm_1 106 rfl rfl
theorem mT_1_107 : (Jvm.Cond.methodLink "HillTap" (27 : Nat) ({ cls := "HillTap$Hill", name := "<init>", desc := "()V" } : Jvm.MethodName)) ∈ tb := tbm_1 107 rfl rfl
theorem mT_1_108 : (Jvm.Cond.instanceMethod ({ cls := "HillTap$Hill", name := "<init>", desc := "()V" } : Jvm.MethodName)) ∈ tb := tbm_1 108 rfl rfl
theorem mT_1_109 : (Jvm.Cond.code ({ cls := "HillTap$Hill", name := "<init>", desc := "()V" } : Jvm.MethodName) prog_3_method_1_code (2 : Nat) (Option.none : Option Jvm.ClassFile.FieldType)) ∈ tb := tbm_1 109 rfl rfl
theorem mT_1_110 : (Jvm.Cond.methodLink "HillTap$Hill" (3 : Nat) ({ cls := "java/lang/Object", name := "<init>", desc := "()V" } : Jvm.MethodName)) ∈ tb := tbm_1 110 rfl rfl
theorem mT_1_111 : (Jvm.Cond.classLink "HillTap$Hill" (9 : Nat) "HillTap$Lake") ∈ tb := tbm_1 111 rfl rfl
theorem mT_1_112 : (Jvm.Cond.instantiable "HillTap$Lake" (8 : Nat)) ∈ tb := tbm_1 112 rfl rfl
theorem mT_1_114 : (Jvm.Cond.instanceMethod ({ cls := "HillTap$Lake", name := "<init>", desc := "()V" } : Jvm.MethodName)) ∈ tb := tbm_1 114 rfl rfl
theorem mT_1_115 : (Jvm.Cond.code ({ cls := "HillTap$Lake", name := "<init>", desc := "()V" } : Jvm.MethodName) prog_4_method_1_code (1 : Nat) (Option.none : Option Jvm.ClassFile.FieldType)) ∈ tb := tbm_1 115 rfl rfl
theorem mT_1_116 : (Jvm.Cond.methodLink "HillTap$Lake" (3 : Nat) ({ cls := "java/lang/Object", name := "<init>", desc := "()V" } : Jvm.MethodName)) ∈ tb := tbm_1 116 rfl rfl
theorem mT_1_117 : (Jvm.Cond.fieldLink "HillTap$Lake" (18 : Nat) "HillTap$Lake" "told" "Z") ∈ tb := tbm_1 117 rfl rfl
theorem mT_1_118 : (Jvm.Cond.fieldLink "HillTap$Teller" (68 : Nat) "HillTap$Lake" "told" "Z") ∈ tb := tbm_1 118 rfl rfl
theorem mT_1_119 : (Jvm.Cond.fieldLink "HillTap$Lake" (22 : Nat) "HillTap$Lake" "stands" "I") ∈ tb := tbm_1 119 rfl rfl
theorem mT_1_120 : (Jvm.Cond.fieldLink "HillTap$Teller" (128 : Nat) "HillTap$Lake" "stands" "I") ∈ tb := tbm_1 120 rfl rfl
theorem mT_1_121 : (Jvm.Cond.fieldLink "HillTap$Course" (88 : Nat) "HillTap$Lake" "stands" "I") ∈ tb := tbm_1 121 rfl rfl
theorem mT_1_122 : (Jvm.Cond.fieldLink "HillTap" (280 : Nat) "HillTap$Lake" "stands" "I") ∈ tb := tbm_1 122 rfl rfl
theorem mT_1_123 : (Jvm.Cond.fieldLink "HillTap$Lake" (26 : Nat) "HillTap$Lake" "moves" "I") ∈ tb := tbm_1 123 rfl rfl
theorem mT_1_124 : (Jvm.Cond.fieldLink "HillTap$Teller" (132 : Nat) "HillTap$Lake" "moves" "I") ∈ tb := tbm_1 124 rfl rfl
theorem mT_1_125 : (Jvm.Cond.fieldLink "HillTap$Lake" (29 : Nat) "HillTap$Lake" "to" "I") ∈ tb := tbm_1 125 rfl rfl
theorem mT_1_126 : (Jvm.Cond.fieldLink "HillTap$Teller" (142 : Nat) "HillTap$Lake" "to" "I") ∈ tb := tbm_1 126 rfl rfl
theorem mT_1_127 : (Jvm.Cond.fieldLink "HillTap" (204 : Nat) "HillTap$Lake" "to" "I") ∈ tb := tbm_1 127 rfl rfl
theorem mT_1_128 : (Jvm.Cond.fieldLink "HillTap$Lake" (32 : Nat) "HillTap$Lake" "froms" "I") ∈ tb := tbm_1 128 rfl rfl
theorem mT_1_129 : (Jvm.Cond.fieldLink "HillTap$Teller" (160 : Nat) "HillTap$Lake" "froms" "I") ∈ tb := tbm_1 129 rfl rfl
theorem mT_1_130 : (Jvm.Cond.fieldLink "HillTap" (119 : Nat) "HillTap$Lake" "froms" "I") ∈ tb := tbm_1 130 rfl rfl
theorem mT_1_131 : (Jvm.Cond.fieldLink "HillTap$Lake" (35 : Nat) "HillTap$Lake" "planned" "I") ∈ tb := tbm_1 131 rfl rfl
theorem mT_1_132 : (Jvm.Cond.fieldLink "HillTap" (128 : Nat) "HillTap$Lake" "planned" "I") ∈ tb := tbm_1 132 rfl rfl
theorem mT_1_133 : (Jvm.Cond.fieldLink "HillTap$Lake" (9 : Nat) "HillTap$Lake" "fromDay" "[I") ∈ tb := tbm_1 133 rfl rfl
theorem mT_1_134 : (Jvm.Cond.fieldLink "HillTap$Lake" (15 : Nat) "HillTap$Lake" "fromLevel" "[I") ∈ tb := tbm_1 134 rfl rfl
theorem mT_1_152 : (Jvm.Cond.arrayClass Jvm.ClassFile.FieldType.int) ∈ tb := tbm_1 152 rfl rfl
theorem mT_1_153 : (Jvm.Cond.classLink "HillTap$Hill" (28 : Nat) "HillTap$Story") ∈ tb := tbm_1 153 rfl rfl
theorem mT_1_155 : (Jvm.Cond.instantiable "HillTap$Story" (4 : Nat)) ∈ tb := tbm_1 155 rfl rfl
theorem mT_1_157 : (Jvm.Cond.instanceMethod ({ cls := "HillTap$Story", name := "<init>", desc := "()V" } : Jvm.MethodName)) ∈ tb := tbm_1 157 rfl rfl
theorem mT_1_158 : (Jvm.Cond.code ({ cls := "HillTap$Story", name := "<init>", desc := "()V" } : Jvm.MethodName) prog_6_method_1_code (1 : Nat) (Option.none : Option Jvm.ClassFile.FieldType)) ∈ tb := tbm_1 158 rfl rfl
theorem mT_1_159 : (Jvm.Cond.methodLink "HillTap$Story" (3 : Nat) ({ cls := "java/lang/Object", name := "<init>", desc := "()V" } : Jvm.MethodName)) ∈ tb := tbm_1 159 rfl rfl
theorem mT_1_160 : (Jvm.Cond.fieldLink "HillTap$Teller" (186 : Nat) "HillTap$Story" "weighs" "I") ∈ tb := tbm_1 160 rfl rfl
theorem mT_1_161 : (Jvm.Cond.fieldLink "HillTap" (185 : Nat) "HillTap$Story" "weighs" "I") ∈ tb := tbm_1 161 rfl rfl
theorem mT_1_162 : (Jvm.Cond.fieldLink "HillTap$Story" (9 : Nat) "HillTap$Story" "kind" "I") ∈ tb := tbm_1 162 rfl rfl
theorem mT_1_163 : (Jvm.Cond.fieldLink "HillTap$Course" (70 : Nat) "HillTap$Story" "kind" "I") ∈ tb := tbm_1 163 rfl rfl
theorem mT_1_164 : (Jvm.Cond.fieldLink "HillTap$Teller" (194 : Nat) "HillTap$Story" "kind" "I") ∈ tb := tbm_1 164 rfl rfl
theorem mT_1_165 : (Jvm.Cond.fieldLink "HillTap" (240 : Nat) "HillTap$Story" "kind" "I") ∈ tb := tbm_1 165 rfl rfl
theorem mT_1_166 : (Jvm.Cond.fieldLink "HillTap$Story" (15 : Nat) "HillTap$Story" "k" "I") ∈ tb := tbm_1 166 rfl rfl
theorem mT_1_167 : (Jvm.Cond.fieldLink "HillTap$Course" (81 : Nat) "HillTap$Story" "k" "I") ∈ tb := tbm_1 167 rfl rfl
theorem mT_1_168 : (Jvm.Cond.fieldLink "HillTap$Teller" (197 : Nat) "HillTap$Story" "k" "I") ∈ tb := tbm_1 168 rfl rfl
theorem mT_1_169 : (Jvm.Cond.fieldLink "HillTap$Course" (75 : Nat) "HillTap$Story" "more" "I") ∈ tb := tbm_1 169 rfl rfl
theorem mT_1_170 : (Jvm.Cond.fieldLink "HillTap$Teller" (206 : Nat) "HillTap$Story" "more" "I") ∈ tb := tbm_1 170 rfl rfl
theorem mT_1_180 : (Jvm.Cond.fieldLink "HillTap$Hill" (12 : Nat) "HillTap$Hill" "lake" "LHillTap$Lake;") ∈ tb := tbm_1 180 rfl rfl
theorem mT_1_181 : (Jvm.Cond.fieldLink "HillTap$Teller" (64 : Nat) "HillTap$Hill" "lake" "LHillTap$Lake;") ∈ tb := tbm_1 181 rfl rfl
theorem mT_1_182 : (Jvm.Cond.fieldLink "HillTap" (115 : Nat) "HillTap$Hill" "lake" "LHillTap$Lake;") ∈ tb := tbm_1 182 rfl rfl
theorem mT_1_183 : (Jvm.Cond.fieldLink "HillTap$Course" (84 : Nat) "HillTap$Hill" "lake" "LHillTap$Lake;") ∈ tb := tbm_1 183 rfl rfl
theorem mT_1_184 : (Jvm.Cond.fieldLink "HillTap$Hill" (53 : Nat) "HillTap$Hill" "pegs" "I") ∈ tb := tbm_1 184 rfl rfl
theorem mT_1_185 : (Jvm.Cond.fieldLink "HillTap$Course" (38 : Nat) "HillTap$Hill" "pegs" "I") ∈ tb := tbm_1 185 rfl rfl
theorem mT_1_186 : (Jvm.Cond.fieldLink "HillTap$Teller" (74 : Nat) "HillTap$Hill" "pegs" "I") ∈ tb := tbm_1 186 rfl rfl
theorem mT_1_187 : (Jvm.Cond.fieldLink "HillTap" (274 : Nat) "HillTap$Hill" "pegs" "I") ∈ tb := tbm_1 187 rfl rfl
theorem mT_1_188 : (Jvm.Cond.fieldLink "HillTap$Hill" (18 : Nat) "HillTap$Hill" "push" "[I") ∈ tb := tbm_1 188 rfl rfl
theorem mT_1_189 : (Jvm.Cond.fieldLink "HillTap$Teller" (153 : Nat) "HillTap$Hill" "push" "[I") ∈ tb := tbm_1 189 rfl rfl
theorem mT_1_190 : (Jvm.Cond.fieldLink "HillTap$Course" (78 : Nat) "HillTap$Hill" "push" "[I") ∈ tb := tbm_1 190 rfl rfl
theorem mT_1_191 : (Jvm.Cond.fieldLink "HillTap$Hill" (22 : Nat) "HillTap$Hill" "bed" "[I") ∈ tb := tbm_1 191 rfl rfl
theorem mT_1_192 : (Jvm.Cond.fieldLink "HillTap$Course" (64 : Nat) "HillTap$Hill" "bed" "[I") ∈ tb := tbm_1 192 rfl rfl
theorem mT_1_193 : (Jvm.Cond.fieldLink "HillTap$Teller" (158 : Nat) "HillTap$Hill" "bed" "[I") ∈ tb := tbm_1 193 rfl rfl
theorem mT_1_194 : (Jvm.Cond.fieldLink "HillTap$Hill" (57 : Nat) "HillTap$Hill" "rains" "I") ∈ tb := tbm_1 194 rfl rfl
theorem mT_1_195 : (Jvm.Cond.fieldLink "HillTap$Teller" (173 : Nat) "HillTap$Hill" "rains" "I") ∈ tb := tbm_1 195 rfl rfl
theorem mT_1_196 : (Jvm.Cond.fieldLink "HillTap" (277 : Nat) "HillTap$Hill" "rains" "I") ∈ tb := tbm_1 196 rfl rfl
theorem mT_1_197 : (Jvm.Cond.fieldLink "HillTap$Hill" (25 : Nat) "HillTap$Hill" "rainOn" "[I") ∈ tb := tbm_1 197 rfl rfl
theorem mT_1_198 : (Jvm.Cond.fieldLink "HillTap$Teller" (178 : Nat) "HillTap$Hill" "rainOn" "[I") ∈ tb := tbm_1 198 rfl rfl
theorem mT_1_199 : (Jvm.Cond.fieldLink "HillTap$Course" (100 : Nat) "HillTap$Hill" "rainOn" "[I") ∈ tb := tbm_1 199 rfl rfl
theorem mT_1_200 : (Jvm.Cond.fieldLink "HillTap$Hill" (66 : Nat) "HillTap$Hill" "stories" "I") ∈ tb := tbm_1 200 rfl rfl
theorem mT_1_201 : (Jvm.Cond.fieldLink "HillTap$Teller" (77 : Nat) "HillTap$Hill" "stories" "I") ∈ tb := tbm_1 201 rfl rfl
theorem mT_1_202 : (Jvm.Cond.fieldLink "HillTap" (95 : Nat) "HillTap$Hill" "stories" "I") ∈ tb := tbm_1 202 rfl rfl
theorem mT_1_203 : (Jvm.Cond.fieldLink "HillTap$Hill" (30 : Nat) "HillTap$Hill" "story" "[LHillTap$Story;") ∈ tb := tbm_1 203 rfl rfl
theorem mT_1_204 : (Jvm.Cond.fieldLink "HillTap$Teller" (181 : Nat) "HillTap$Hill" "story" "[LHillTap$Story;") ∈ tb := tbm_1 204 rfl rfl
theorem mT_1_205 : (Jvm.Cond.fieldLink "HillTap" (181 : Nat) "HillTap$Hill" "story" "[LHillTap$Story;") ∈ tb := tbm_1 205 rfl rfl
theorem mT_1_206 : (Jvm.Cond.fieldLink "HillTap$Hill" (69 : Nat) "HillTap$Hill" "villages" "I") ∈ tb := tbm_1 206 rfl rfl
theorem mT_1_207 : (Jvm.Cond.fieldLink "HillTap$Teller" (220 : Nat) "HillTap$Hill" "villages" "I") ∈ tb := tbm_1 207 rfl rfl
theorem mT_1_208 : (Jvm.Cond.fieldLink "HillTap" (222 : Nat) "HillTap$Hill" "villages" "I") ∈ tb := tbm_1 208 rfl rfl
theorem mT_1_209 : (Jvm.Cond.fieldLink "HillTap$Hill" (34 : Nat) "HillTap$Hill" "high" "[I") ∈ tb := tbm_1 209 rfl rfl
theorem mT_1_210 : (Jvm.Cond.fieldLink "HillTap$Teller" (225 : Nat) "HillTap$Hill" "high" "[I") ∈ tb := tbm_1 210 rfl rfl
theorem mT_1_211 : (Jvm.Cond.fieldLink "HillTap" (294 : Nat) "HillTap$Hill" "high" "[I") ∈ tb := tbm_1 211 rfl rfl
theorem mT_1_212 : (Jvm.Cond.fieldLink "HillTap$Hill" (37 : Nat) "HillTap$Hill" "people" "[I") ∈ tb := tbm_1 212 rfl rfl
theorem mT_1_213 : (Jvm.Cond.fieldLink "HillTap$Teller" (229 : Nat) "HillTap$Hill" "people" "[I") ∈ tb := tbm_1 213 rfl rfl
theorem mT_1_214 : (Jvm.Cond.fieldLink "HillTap" (228 : Nat) "HillTap$Hill" "people" "[I") ∈ tb := tbm_1 214 rfl rfl
theorem mT_1_215 : (Jvm.Cond.fieldLink "HillTap$Hill" (40 : Nat) "HillTap$Hill" "needs" "[I") ∈ tb := tbm_1 215 rfl rfl
theorem mT_1_216 : (Jvm.Cond.fieldLink "HillTap$Teller" (233 : Nat) "HillTap$Hill" "needs" "[I") ∈ tb := tbm_1 216 rfl rfl
theorem mT_1_217 : (Jvm.Cond.fieldLink "HillTap" (225 : Nat) "HillTap$Hill" "needs" "[I") ∈ tb := tbm_1 217 rfl rfl
theorem mT_1_218 : (Jvm.Cond.fieldLink "HillTap$Hill" (72 : Nat) "HillTap$Hill" "knowers" "I") ∈ tb := tbm_1 218 rfl rfl
theorem mT_1_219 : (Jvm.Cond.fieldLink "HillTap$Teller" (235 : Nat) "HillTap$Hill" "knowers" "I") ∈ tb := tbm_1 219 rfl rfl
theorem mT_1_220 : (Jvm.Cond.fieldLink "HillTap" (247 : Nat) "HillTap$Hill" "knowers" "I") ∈ tb := tbm_1 220 rfl rfl
theorem mT_1_221 : (Jvm.Cond.fieldLink "HillTap$Hill" (43 : Nat) "HillTap$Hill" "knowerPeg" "[I") ∈ tb := tbm_1 221 rfl rfl
theorem mT_1_222 : (Jvm.Cond.fieldLink "HillTap$Teller" (247 : Nat) "HillTap$Hill" "knowerPeg" "[I") ∈ tb := tbm_1 222 rfl rfl
theorem mT_1_223 : (Jvm.Cond.fieldLink "HillTap" (250 : Nat) "HillTap$Hill" "knowerPeg" "[I") ∈ tb := tbm_1 223 rfl rfl
theorem mT_1_224 : (Jvm.Cond.fieldLink "HillTap$Hill" (46 : Nat) "HillTap$Hill" "knowerReads" "[I") ∈ tb := tbm_1 224 rfl rfl
theorem mT_1_225 : (Jvm.Cond.fieldLink "HillTap$Teller" (252 : Nat) "HillTap$Hill" "knowerReads" "[I") ∈ tb := tbm_1 225 rfl rfl
theorem mT_1_226 : (Jvm.Cond.fieldLink "HillTap" (253 : Nat) "HillTap$Hill" "knowerReads" "[I") ∈ tb := tbm_1 226 rfl rfl
theorem mT_2_18 : (Jvm.Cond.classLink "HillTap" (39 : Nat) "HillTap$Course") ∈ tb := tbm_2 18 rfl rfl
theorem mT_2_20 : (Jvm.Cond.instantiable "HillTap$Course" (7 : Nat)) ∈ tb := tbm_2 20 rfl rfl
theorem mT_2_22 : (Jvm.Cond.instanceMethod ({ cls := "HillTap$Course", name := "<init>", desc := "()V" } : Jvm.MethodName)) ∈ tb := tbm_2 22 rfl rfl
theorem mT_2_23 : (Jvm.Cond.code ({ cls := "HillTap$Course", name := "<init>", desc := "()V" } : Jvm.MethodName) prog_2_method_1_code (1 : Nat) (Option.none : Option Jvm.ClassFile.FieldType)) ∈ tb := tbm_2 23 rfl rfl
theorem mT_2_24 : (Jvm.Cond.methodLink "HillTap$Course" (3 : Nat) ({ cls := "java/lang/Object", name := "<init>", desc := "()V" } : Jvm.MethodName)) ∈ tb := tbm_2 24 rfl rfl
theorem mT_2_25 : (Jvm.Cond.fieldLink "HillTap$Course" (9 : Nat) "HillTap$Course" "speeds" "[I") ∈ tb := tbm_2 25 rfl rfl
theorem mT_2_26 : (Jvm.Cond.fieldLink "HillTap" (146 : Nat) "HillTap$Course" "speeds" "[I") ∈ tb := tbm_2 26 rfl rfl
theorem mT_2_27 : (Jvm.Cond.fieldLink "HillTap$Course" (15 : Nat) "HillTap$Course" "inches" "[I") ∈ tb := tbm_2 27 rfl rfl
theorem mT_2_28 : (Jvm.Cond.fieldLink "HillTap$Readings" (28 : Nat) "HillTap$Course" "inches" "[I") ∈ tb := tbm_2 28 rfl rfl
theorem mT_2_29 : (Jvm.Cond.fieldLink "HillTap" (139 : Nat) "HillTap$Course" "inches" "[I") ∈ tb := tbm_2 29 rfl rfl
theorem mT_2_30 : (Jvm.Cond.fieldLink "HillTap$Course" (18 : Nat) "HillTap$Course" "worn" "[I") ∈ tb := tbm_2 30 rfl rfl
theorem mT_2_31 : (Jvm.Cond.fieldLink "HillTap" (149 : Nat) "HillTap$Course" "worn" "[I") ∈ tb := tbm_2 31 rfl rfl
theorem mT_2_32 : (Jvm.Cond.fieldLink "HillTap$Course" (21 : Nat) "HillTap$Course" "together" "[I") ∈ tb := tbm_2 32 rfl rfl
theorem mT_2_33 : (Jvm.Cond.fieldLink "HillTap" (266 : Nat) "HillTap$Course" "together" "[I") ∈ tb := tbm_2 33 rfl rfl
theorem mT_2_34 : (Jvm.Cond.fieldLink "HillTap$Course" (24 : Nat) "HillTap$Course" "adds" "[I") ∈ tb := tbm_2 34 rfl rfl
theorem mT_2_35 : (Jvm.Cond.fieldLink "HillTap$Course" (31 : Nat) "HillTap$Course" "gone" "I") ∈ tb := tbm_2 35 rfl rfl
theorem mT_2_36 : (Jvm.Cond.fieldLink "HillTap" (155 : Nat) "HillTap$Course" "gone" "I") ∈ tb := tbm_2 36 rfl rfl
theorem mT_2_37 : (Jvm.Cond.fieldLink "HillTap$Course" (35 : Nat) "HillTap$Course" "wave" "I") ∈ tb := tbm_2 37 rfl rfl
theorem mT_2_38 : (Jvm.Cond.fieldLink "HillTap" (158 : Nat) "HillTap$Course" "wave" "I") ∈ tb := tbm_2 38 rfl rfl
theorem mT_2_54 : (Jvm.Cond.classLink "HillTap" (57 : Nat) "HillTap$Readings") ∈ tb := tbm_2 54 rfl rfl
theorem mT_2_55 : (Jvm.Cond.instantiable "HillTap$Readings" (5 : Nat)) ∈ tb := tbm_2 55 rfl rfl
theorem mT_2_57 : (Jvm.Cond.instanceMethod ({ cls := "HillTap$Readings", name := "<init>", desc := "()V" } : Jvm.MethodName)) ∈ tb := tbm_2 57 rfl rfl
theorem mT_2_58 : (Jvm.Cond.code ({ cls := "HillTap$Readings", name := "<init>", desc := "()V" } : Jvm.MethodName) prog_5_method_1_code (1 : Nat) (Option.none : Option Jvm.ClassFile.FieldType)) ∈ tb := tbm_2 58 rfl rfl
theorem mT_2_59 : (Jvm.Cond.methodLink "HillTap$Readings" (3 : Nat) ({ cls := "java/lang/Object", name := "<init>", desc := "()V" } : Jvm.MethodName)) ∈ tb := tbm_2 59 rfl rfl
theorem mT_2_60 : (Jvm.Cond.fieldLink "HillTap$Readings" (24 : Nat) "HillTap$Readings" "count" "I") ∈ tb := tbm_2 60 rfl rfl
theorem mT_2_61 : (Jvm.Cond.fieldLink "HillTap" (89 : Nat) "HillTap$Readings" "count" "I") ∈ tb := tbm_2 61 rfl rfl
theorem mT_2_62 : (Jvm.Cond.fieldLink "HillTap$Readings" (9 : Nat) "HillTap$Readings" "peg" "[I") ∈ tb := tbm_2 62 rfl rfl
theorem mT_2_63 : (Jvm.Cond.fieldLink "HillTap$Readings" (15 : Nat) "HillTap$Readings" "day" "[I") ∈ tb := tbm_2 63 rfl rfl
theorem mT_2_64 : (Jvm.Cond.fieldLink "HillTap$Readings" (18 : Nat) "HillTap$Readings" "inches" "[I") ∈ tb := tbm_2 64 rfl rfl
theorem mT_2_65 : (Jvm.Cond.fieldLink "HillTap$Readings" (21 : Nat) "HillTap$Readings" "off" "[I") ∈ tb := tbm_2 65 rfl rfl
theorem mT_2_77 : (Jvm.Cond.arrayClass Jvm.ClassFile.FieldType.boolean) ∈ tb := tbm_2 77 rfl rfl
theorem mT_2_78 : (Jvm.Cond.fieldLink "HillTap" (10 : Nat) "HillTap" "tape" "LHillTap$Tape;") ∈ tb := tbm_2 78 rfl rfl
theorem mT_2_79 : (Jvm.Cond.fieldLink "HillTap" (21 : Nat) "HillTap" "teller" "LHillTap$Teller;") ∈ tb := tbm_2 79 rfl rfl
theorem mT_2_80 : (Jvm.Cond.fieldLink "HillTap" (28 : Nat) "HillTap" "hill" "LHillTap$Hill;") ∈ tb := tbm_2 80 rfl rfl
theorem mT_2_81 : (Jvm.Cond.fieldLink "HillTap" (32 : Nat) "HillTap" "spare" "LHillTap$Hill;") ∈ tb := tbm_2 81 rfl rfl
theorem mT_2_82 : (Jvm.Cond.fieldLink "HillTap" (35 : Nat) "HillTap" "levels" "[I") ∈ tb := tbm_2 82 rfl rfl
theorem mT_2_83 : (Jvm.Cond.fieldLink "HillTap" (41 : Nat) "HillTap" "courses" "[LHillTap$Course;") ∈ tb := tbm_2 83 rfl rfl
theorem mT_2_84 : (Jvm.Cond.fieldLink "HillTap" (46 : Nat) "HillTap" "known" "[Z") ∈ tb := tbm_2 84 rfl rfl
theorem mT_2_85 : (Jvm.Cond.fieldLink "HillTap" (50 : Nat) "HillTap" "tryLevels" "[I") ∈ tb := tbm_2 85 rfl rfl
theorem mT_2_86 : (Jvm.Cond.fieldLink "HillTap" (53 : Nat) "HillTap" "tryCourse" "LHillTap$Course;") ∈ tb := tbm_2 86 rfl rfl
theorem mT_2_87 : (Jvm.Cond.fieldLink "HillTap" (60 : Nat) "HillTap" "readings" "LHillTap$Readings;") ∈ tb := tbm_2 87 rfl rfl
theorem mT_2_88 : (Jvm.Cond.fieldLink "HillTap" (64 : Nat) "HillTap" "misfits" "[I") ∈ tb := tbm_2 88 rfl rfl
theorem mT_2_89 : (Jvm.Cond.fieldLink "HillTap" (67 : Nat) "HillTap" "finds" "[I") ∈ tb := tbm_2 89 rfl rfl
theorem mT_2_90 : (Jvm.Cond.fieldLink "HillTap" (70 : Nat) "HillTap" "trouble" "I") ∈ tb := tbm_2 90 rfl rfl
theorem mT_2_118 : (Jvm.Cond.methodLink "HillTapLaw" (19 : Nat) ({ cls := "HillTap", name := "feed", desc := "(IIIII)I" } : Jvm.MethodName)) ∈ tb := tbm_2 118 rfl rfl
theorem mT_2_119 : (Jvm.Cond.instanceMethod ({ cls := "HillTap", name := "feed", desc := "(IIIII)I" } : Jvm.MethodName)) ∈ tb := tbm_2 119 rfl rfl
theorem mT_2_120 : (Jvm.Cond.selects "HillTap" ({ cls := "HillTap", name := "feed", desc := "(IIIII)I" } : Jvm.MethodName) ({ cls := "HillTap", name := "feed", desc := "(IIIII)I" } : Jvm.MethodName)) ∈ tb := tbm_2 120 rfl rfl
theorem mT_2_121 : (Jvm.Cond.code ({ cls := "HillTap", name := "feed", desc := "(IIIII)I" } : Jvm.MethodName) prog_1_method_2_code (6 : Nat) (Option.some Jvm.ClassFile.FieldType.int)) ∈ tb := tbm_2 121 rfl rfl
theorem mT_2_122 : (Jvm.Cond.methodLink "HillTap" (77 : Nat) ({ cls := "HillTap$Tape", name := "add", desc := "(I)V" } : Jvm.MethodName)) ∈ tb := tbm_2 122 rfl rfl
theorem mT_2_123 : (Jvm.Cond.instanceMethod ({ cls := "HillTap$Tape", name := "add", desc := "(I)V" } : Jvm.MethodName)) ∈ tb := tbm_2 123 rfl rfl
theorem mT_2_124 : (Jvm.Cond.selects "HillTap$Tape" ({ cls := "HillTap$Tape", name := "add", desc := "(I)V" } : Jvm.MethodName) ({ cls := "HillTap$Tape", name := "add", desc := "(I)V" } : Jvm.MethodName)) ∈ tb := tbm_2 124 rfl rfl
theorem mT_2_125 : (Jvm.Cond.code ({ cls := "HillTap$Tape", name := "add", desc := "(I)V" } : Jvm.MethodName) prog_7_method_2_code (3 : Nat) (Option.none : Option Jvm.ClassFile.FieldType)) ∈ tb := tbm_2 125 rfl rfl
theorem mT_2_126 : (Jvm.Cond.methodLink "HillTapLaw" (24 : Nat) ({ cls := "HillTap", name := "hill", desc := "(I)I" } : Jvm.MethodName)) ∈ tb := tbm_2 126 rfl rfl
theorem mT_2_127 : (Jvm.Cond.instanceMethod ({ cls := "HillTap", name := "hill", desc := "(I)I" } : Jvm.MethodName)) ∈ tb := tbm_2 127 rfl rfl
theorem mT_2_128 : (Jvm.Cond.selects "HillTap" ({ cls := "HillTap", name := "hill", desc := "(I)I" } : Jvm.MethodName) ({ cls := "HillTap", name := "hill", desc := "(I)I" } : Jvm.MethodName)) ∈ tb := tbm_2 128 rfl rfl
theorem mT_2_129 : (Jvm.Cond.code ({ cls := "HillTap", name := "hill", desc := "(I)I" } : Jvm.MethodName) prog_1_method_3_code (4 : Nat) (Option.some Jvm.ClassFile.FieldType.int)) ∈ tb := tbm_2 129 rfl rfl
theorem mT_2_130 : (Jvm.Cond.methodLink "HillTap" (81 : Nat) ({ cls := "HillTap", name := "refuse", desc := "(I)I" } : Jvm.MethodName)) ∈ tb := tbm_2 130 rfl rfl
theorem mT_2_132 : (Jvm.Cond.instanceMethod ({ cls := "HillTap", name := "refuse", desc := "(I)I" } : Jvm.MethodName)) ∈ tb := tbm_2 132 rfl rfl
theorem mT_2_133 : (Jvm.Cond.code ({ cls := "HillTap", name := "refuse", desc := "(I)I" } : Jvm.MethodName) prog_1_method_36_code (2 : Nat) (Option.some Jvm.ClassFile.FieldType.int)) ∈ tb := tbm_2 133 rfl rfl
theorem mT_2_134 : (Jvm.Cond.methodLink "HillTap" (85 : Nat) ({ cls := "HillTap$Teller", name := "tellHill", desc := "(ILHillTap$Hill;)Z" } : Jvm.MethodName)) ∈ tb := tbm_2 134 rfl rfl
theorem mT_2_135 : (Jvm.Cond.instanceMethod ({ cls := "HillTap$Teller", name := "tellHill", desc := "(ILHillTap$Hill;)Z" } : Jvm.MethodName)) ∈ tb := tbm_2 135 rfl rfl
theorem mT_2_136 : (Jvm.Cond.selects "HillTap$Teller" ({ cls := "HillTap$Teller", name := "tellHill", desc := "(ILHillTap$Hill;)Z" } : Jvm.MethodName) ({ cls := "HillTap$Teller", name := "tellHill", desc := "(ILHillTap$Hill;)Z" } : Jvm.MethodName)) ∈ tb := tbm_2 136 rfl rfl
theorem mT_2_137 : (Jvm.Cond.code ({ cls := "HillTap$Teller", name := "tellHill", desc := "(ILHillTap$Hill;)Z" } : Jvm.MethodName) prog_8_method_2_code (5 : Nat) (Option.some Jvm.ClassFile.FieldType.boolean)) ∈ tb := tbm_2 137 rfl rfl
theorem mT_2_138 : (Jvm.Cond.methodLink "HillTap$Teller" (27 : Nat) ({ cls := "HillTap$Hill", name := "empty", desc := "()V" } : Jvm.MethodName)) ∈ tb := tbm_2 138 rfl rfl
theorem mT_2_139 : (Jvm.Cond.instanceMethod ({ cls := "HillTap$Hill", name := "empty", desc := "()V" } : Jvm.MethodName)) ∈ tb := tbm_2 139 rfl rfl
theorem mT_2_140 : (Jvm.Cond.selects "HillTap$Hill" ({ cls := "HillTap$Hill", name := "empty", desc := "()V" } : Jvm.MethodName) ({ cls := "HillTap$Hill", name := "empty", desc := "()V" } : Jvm.MethodName)) ∈ tb := tbm_2 140 rfl rfl
theorem mT_2_141 : (Jvm.Cond.code ({ cls := "HillTap$Hill", name := "empty", desc := "()V" } : Jvm.MethodName) prog_3_method_2_code (1 : Nat) (Option.none : Option Jvm.ClassFile.FieldType)) ∈ tb := tbm_2 141 rfl rfl
theorem mT_2_142 : (Jvm.Cond.methodLink "HillTap$Hill" (50 : Nat) ({ cls := "HillTap$Lake", name := "empty", desc := "()V" } : Jvm.MethodName)) ∈ tb := tbm_2 142 rfl rfl
theorem mT_2_143 : (Jvm.Cond.instanceMethod ({ cls := "HillTap$Lake", name := "empty", desc := "()V" } : Jvm.MethodName)) ∈ tb := tbm_2 143 rfl rfl
theorem mT_2_144 : (Jvm.Cond.selects "HillTap$Lake" ({ cls := "HillTap$Lake", name := "empty", desc := "()V" } : Jvm.MethodName) ({ cls := "HillTap$Lake", name := "empty", desc := "()V" } : Jvm.MethodName)) ∈ tb := tbm_2 144 rfl rfl
theorem mT_2_145 : (Jvm.Cond.code ({ cls := "HillTap$Lake", name := "empty", desc := "()V" } : Jvm.MethodName) prog_4_method_2_code (1 : Nat) (Option.none : Option Jvm.ClassFile.FieldType)) ∈ tb := tbm_2 145 rfl rfl
theorem mT_2_146 : (Jvm.Cond.methodLink "HillTap$Hill" (60 : Nat) ({ cls := "java/util/Arrays", name := "fill", desc := "([II)V" } : Jvm.MethodName)) ∈ tb := tbm_2 146 rfl rfl
theorem mT_2_147 : (Jvm.Cond.static ({ cls := "java/util/Arrays", name := "fill", desc := "([II)V" } : Jvm.MethodName)) ∈ tb := tbm_2 147 rfl rfl
theorem mT_2_148 : (Jvm.Cond.code ({ cls := "java/util/Arrays", name := "fill", desc := "([II)V" } : Jvm.MethodName) prog_25_method_103_code (4 : Nat) (Option.none : Option Jvm.ClassFile.FieldType)) ∈ tb := tbm_2 148 rfl rfl
theorem mT_2_149 : (Jvm.Cond.methodLink "HillTap$Teller" (42 : Nat) ({ cls := "HillTap$Tokens", name := "begin", desc := "(I)V" } : Jvm.MethodName)) ∈ tb := tbm_2 149 rfl rfl
theorem mT_2_150 : (Jvm.Cond.instanceMethod ({ cls := "HillTap$Tokens", name := "begin", desc := "(I)V" } : Jvm.MethodName)) ∈ tb := tbm_2 150 rfl rfl
theorem mT_2_151 : (Jvm.Cond.selects "HillTap$Tokens" ({ cls := "HillTap$Tokens", name := "begin", desc := "(I)V" } : Jvm.MethodName) ({ cls := "HillTap$Tokens", name := "begin", desc := "(I)V" } : Jvm.MethodName)) ∈ tb := tbm_2 151 rfl rfl
theorem mT_2_152 : (Jvm.Cond.code ({ cls := "HillTap$Tokens", name := "begin", desc := "(I)V" } : Jvm.MethodName) prog_9_method_2_code (2 : Nat) (Option.none : Option Jvm.ClassFile.FieldType)) ∈ tb := tbm_2 152 rfl rfl
theorem mT_2_153 : (Jvm.Cond.methodLink "HillTap$Tokens" (21 : Nat) ({ cls := "java/lang/Math", name := "min", desc := "(II)I" } : Jvm.MethodName)) ∈ tb := tbm_2 153 rfl rfl
theorem mT_2_154 : (Jvm.Cond.static ({ cls := "java/lang/Math", name := "min", desc := "(II)I" } : Jvm.MethodName)) ∈ tb := tbm_2 154 rfl rfl
theorem mT_2_155 : (Jvm.Cond.code ({ cls := "java/lang/Math", name := "min", desc := "(II)I" } : Jvm.MethodName) prog_17_method_69_code (2 : Nat) (Option.some Jvm.ClassFile.FieldType.int)) ∈ tb := tbm_2 155 rfl rfl
theorem mT_2_156 : (Jvm.Cond.methodLink "HillTap$Tokens" (33 : Nat) ({ cls := "HillTap$Tokens", name := "next", desc := "()V" } : Jvm.MethodName)) ∈ tb := tbm_2 156 rfl rfl
theorem mT_2_157 : (Jvm.Cond.instanceMethod ({ cls := "HillTap$Tokens", name := "next", desc := "()V" } : Jvm.MethodName)) ∈ tb := tbm_2 157 rfl rfl
theorem mT_2_158 : (Jvm.Cond.selects "HillTap$Tokens" ({ cls := "HillTap$Tokens", name := "next", desc := "()V" } : Jvm.MethodName) ({ cls := "HillTap$Tokens", name := "next", desc := "()V" } : Jvm.MethodName)) ∈ tb := tbm_2 158 rfl rfl
theorem mT_2_159 : (Jvm.Cond.code ({ cls := "HillTap$Tokens", name := "next", desc := "()V" } : Jvm.MethodName) prog_9_method_3_code (2 : Nat) (Option.none : Option Jvm.ClassFile.FieldType)) ∈ tb := tbm_2 159 rfl rfl
theorem mT_2_160 : (Jvm.Cond.methodLink "HillTap$Tokens" (50 : Nat) ({ cls := "HillTap$Tokens", name := "takeLetters", desc := "()V" } : Jvm.MethodName)) ∈ tb := tbm_2 160 rfl rfl
theorem mT_2_162 : (Jvm.Cond.instanceMethod ({ cls := "HillTap$Tokens", name := "takeLetters", desc := "()V" } : Jvm.MethodName)) ∈ tb := tbm_2 162 rfl rfl
theorem mT_2_163 : (Jvm.Cond.code ({ cls := "HillTap$Tokens", name := "takeLetters", desc := "()V" } : Jvm.MethodName) prog_9_method_9_code (2 : Nat) (Option.none : Option Jvm.ClassFile.FieldType)) ∈ tb := tbm_2 163 rfl rfl
theorem mT_2_164 : (Jvm.Cond.methodLink "HillTap$Tokens" (53 : Nat) ({ cls := "HillTap$Tokens", name := "takeDigits", desc := "()V" } : Jvm.MethodName)) ∈ tb := tbm_2 164 rfl rfl
theorem mT_2_166 : (Jvm.Cond.instanceMethod ({ cls := "HillTap$Tokens", name := "takeDigits", desc := "()V" } : Jvm.MethodName)) ∈ tb := tbm_2 166 rfl rfl
theorem mT_2_167 : (Jvm.Cond.code ({ cls := "HillTap$Tokens", name := "takeDigits", desc := "()V" } : Jvm.MethodName) prog_9_method_10_code (2 : Nat) (Option.none : Option Jvm.ClassFile.FieldType)) ∈ tb := tbm_2 167 rfl rfl
theorem mT_2_168 : (Jvm.Cond.constantLong "HillTap$Tokens" (65 : Nat) (10 : Int64)) ∈ tb := tbm_2 168 rfl rfl
theorem mT_2_169 : (Jvm.Cond.methodLink "HillTap$Teller" (46 : Nat) ({ cls := "HillTap$Teller", name := "takeLine", desc := "(LHillTap$Hill;)Z" } : Jvm.MethodName)) ∈ tb := tbm_2 169 rfl rfl
theorem mT_2_171 : (Jvm.Cond.instanceMethod ({ cls := "HillTap$Teller", name := "takeLine", desc := "(LHillTap$Hill;)Z" } : Jvm.MethodName)) ∈ tb := tbm_2 171 rfl rfl
theorem mT_2_172 : (Jvm.Cond.code ({ cls := "HillTap$Teller", name := "takeLine", desc := "(LHillTap$Hill;)Z" } : Jvm.MethodName) prog_8_method_3_code (2 : Nat) (Option.some Jvm.ClassFile.FieldType.boolean)) ∈ tb := tbm_2 172 rfl rfl
theorem mT_2_174 : (Jvm.Cond.methodLink "HillTap$Teller" (81 : Nat) ({ cls := "HillTap$Tokens", name := "isWord", desc := "(Ljava/lang/String;)Z" } : Jvm.MethodName)) ∈ tb := tbm_2 174 rfl rfl
theorem mT_2_175 : (Jvm.Cond.instanceMethod ({ cls := "HillTap$Tokens", name := "isWord", desc := "(Ljava/lang/String;)Z" } : Jvm.MethodName)) ∈ tb := tbm_2 175 rfl rfl
theorem mT_2_176 : (Jvm.Cond.selects "HillTap$Tokens" ({ cls := "HillTap$Tokens", name := "isWord", desc := "(Ljava/lang/String;)Z" } : Jvm.MethodName) ({ cls := "HillTap$Tokens", name := "isWord", desc := "(Ljava/lang/String;)Z" } : Jvm.MethodName)) ∈ tb := tbm_2 176 rfl rfl
theorem mT_2_177 : (Jvm.Cond.code ({ cls := "HillTap$Tokens", name := "isWord", desc := "(Ljava/lang/String;)Z" } : Jvm.MethodName) prog_9_method_8_code (4 : Nat) (Option.some Jvm.ClassFile.FieldType.boolean)) ∈ tb := tbm_2 177 rfl rfl
theorem mT_2_178 : (Jvm.Cond.methodLink "HillTap$Tokens" (56 : Nat) ({ cls := "java/lang/String", name := "length", desc := "()I" } : Jvm.MethodName)) ∈ tb := tbm_2 178 rfl rfl
theorem mT_2_179 : (Jvm.Cond.instanceMethod ({ cls := "java/lang/String", name := "length", desc := "()I" } : Jvm.MethodName)) ∈ tb := tbm_2 179 rfl rfl
theorem mT_2_180 : (Jvm.Cond.selects "java/lang/String" ({ cls := "java/lang/String", name := "length", desc := "()I" } : Jvm.MethodName) ({ cls := "java/lang/String", name := "length", desc := "()I" } : Jvm.MethodName)) ∈ tb := tbm_2 180 rfl rfl
theorem mT_2_181 : (Jvm.Cond.code ({ cls := "java/lang/String", name := "length", desc := "()I" } : Jvm.MethodName) prog_19_method_54_code (1 : Nat) (Option.some Jvm.ClassFile.FieldType.int)) ∈ tb := tbm_2 181 rfl rfl
theorem mT_2_182 : (Jvm.Cond.methodLink "java/lang/String" (335 : Nat) ({ cls := "java/lang/String", name := "coder", desc := "()B" } : Jvm.MethodName)) ∈ tb := tbm_2 182 rfl rfl
theorem mT_2_183 : (Jvm.Cond.instanceMethod ({ cls := "java/lang/String", name := "coder", desc := "()B" } : Jvm.MethodName)) ∈ tb := tbm_2 183 rfl rfl
theorem mT_2_184 : (Jvm.Cond.selects "java/lang/String" ({ cls := "java/lang/String", name := "coder", desc := "()B" } : Jvm.MethodName) ({ cls := "java/lang/String", name := "coder", desc := "()B" } : Jvm.MethodName)) ∈ tb := tbm_2 184 rfl rfl
theorem mT_2_185 : (Jvm.Cond.code ({ cls := "java/lang/String", name := "coder", desc := "()B" } : Jvm.MethodName) prog_19_method_152_code (1 : Nat) (Option.some Jvm.ClassFile.FieldType.byte)) ∈ tb := tbm_2 185 rfl rfl
theorem mT_2_186 : (Jvm.Cond.fieldLink "java/lang/String" (38 : Nat) "java/lang/String" "COMPACT_STRINGS" "Z") ∈ tb := tbm_2 186 rfl rfl
theorem mT_2_188 : (Jvm.Cond.methodLink "HillTap$Tokens" (61 : Nat) ({ cls := "java/lang/String", name := "charAt", desc := "(I)C" } : Jvm.MethodName)) ∈ tb := tbm_2 188 rfl rfl
theorem mT_2_189 : (Jvm.Cond.instanceMethod ({ cls := "java/lang/String", name := "charAt", desc := "(I)C" } : Jvm.MethodName)) ∈ tb := tbm_2 189 rfl rfl
theorem mT_2_190 : (Jvm.Cond.selects "java/lang/String" ({ cls := "java/lang/String", name := "charAt", desc := "(I)C" } : Jvm.MethodName) ({ cls := "java/lang/String", name := "charAt", desc := "(I)C" } : Jvm.MethodName)) ∈ tb := tbm_2 190 rfl rfl
theorem mT_2_191 : (Jvm.Cond.code ({ cls := "java/lang/String", name := "charAt", desc := "(I)C" } : Jvm.MethodName) prog_19_method_56_code (2 : Nat) (Option.some Jvm.ClassFile.FieldType.char)) ∈ tb := tbm_2 191 rfl rfl
theorem mT_2_192 : (Jvm.Cond.methodLink "java/lang/String" (492 : Nat) ({ cls := "java/lang/String", name := "isLatin1", desc := "()Z" } : Jvm.MethodName)) ∈ tb := tbm_2 192 rfl rfl
theorem mT_2_193 : (Jvm.Cond.instanceMethod ({ cls := "java/lang/String", name := "isLatin1", desc := "()Z" } : Jvm.MethodName)) ∈ tb := tbm_2 193 rfl rfl
theorem mT_2_194 : (Jvm.Cond.selects "java/lang/String" ({ cls := "java/lang/String", name := "isLatin1", desc := "()Z" } : Jvm.MethodName) ({ cls := "java/lang/String", name := "isLatin1", desc := "()Z" } : Jvm.MethodName)) ∈ tb := tbm_2 194 rfl rfl
theorem mT_2_195 : (Jvm.Cond.code ({ cls := "java/lang/String", name := "isLatin1", desc := "()Z" } : Jvm.MethodName) prog_19_method_154_code (1 : Nat) (Option.some Jvm.ClassFile.FieldType.boolean)) ∈ tb := tbm_2 195 rfl rfl
theorem mT_2_196 : (Jvm.Cond.methodLink "java/lang/String" (495 : Nat) ({ cls := "java/lang/StringLatin1", name := "charAt", desc := "([BI)C" } : Jvm.MethodName)) ∈ tb := tbm_2 196 rfl rfl
theorem mT_2_197 : (Jvm.Cond.static ({ cls := "java/lang/StringLatin1", name := "charAt", desc := "([BI)C" } : Jvm.MethodName)) ∈ tb := tbm_2 197 rfl rfl
theorem mT_2_198 : (Jvm.Cond.code ({ cls := "java/lang/StringLatin1", name := "charAt", desc := "([BI)C" } : Jvm.MethodName) prog_20_method_2_code (2 : Nat) (Option.some Jvm.ClassFile.FieldType.char)) ∈ tb := tbm_2 198 rfl rfl
theorem mT_2_199 : (Jvm.Cond.methodLink "java/lang/StringLatin1" (9 : Nat) ({ cls := "java/lang/String", name := "checkIndex", desc := "(II)V" } : Jvm.MethodName)) ∈ tb := tbm_2 199 rfl rfl
theorem mT_2_200 : (Jvm.Cond.static ({ cls := "java/lang/String", name := "checkIndex", desc := "(II)V" } : Jvm.MethodName)) ∈ tb := tbm_2 200 rfl rfl
theorem mT_2_201 : (Jvm.Cond.code ({ cls := "java/lang/String", name := "checkIndex", desc := "(II)V" } : Jvm.MethodName) prog_19_method_155_code (2 : Nat) (Option.none : Option Jvm.ClassFile.FieldType)) ∈ tb := tbm_2 201 rfl rfl
theorem mT_2_202 : (Jvm.Cond.fieldLink "java/lang/String" (1053 : Nat) "jdk/internal/util/Preconditions" "SIOOBE_FORMATTER" "Ljava/util/function/BiFunction;") ∈ tb := tbm_2 202 rfl rfl
theorem mT_2_204 : (Jvm.Cond.methodLink "java/lang/String" (1059 : Nat) ({ cls := "jdk/internal/util/Preconditions", name := "checkIndex", desc := "(IILjava/util/function/BiFunction;)I" } : Jvm.MethodName)) ∈ tb := tbm_2 204 rfl rfl
theorem mT_2_205 : (Jvm.Cond.static ({ cls := "jdk/internal/util/Preconditions", name := "checkIndex", desc := "(IILjava/util/function/BiFunction;)I" } : Jvm.MethodName)) ∈ tb := tbm_2 205 rfl rfl
theorem mT_2_206 : (Jvm.Cond.code ({ cls := "jdk/internal/util/Preconditions", name := "checkIndex", desc := "(IILjava/util/function/BiFunction;)I" } : Jvm.MethodName) prog_27_method_11_code (3 : Nat) (Option.some Jvm.ClassFile.FieldType.int)) ∈ tb := tbm_2 206 rfl rfl
theorem mT_2_226 : (Jvm.Cond.methodLink "HillTap$Teller" (85 : Nat) ({ cls := "HillTap$Teller", name := "takeLake", desc := "(LHillTap$Lake;)Z" } : Jvm.MethodName)) ∈ tb := tbm_2 226 rfl rfl
theorem mT_2_228 : (Jvm.Cond.instanceMethod ({ cls := "HillTap$Teller", name := "takeLake", desc := "(LHillTap$Lake;)Z" } : Jvm.MethodName)) ∈ tb := tbm_2 228 rfl rfl
theorem mT_2_229 : (Jvm.Cond.code ({ cls := "HillTap$Teller", name := "takeLake", desc := "(LHillTap$Lake;)Z" } : Jvm.MethodName) prog_8_method_4_code (2 : Nat) (Option.some Jvm.ClassFile.FieldType.boolean)) ∈ tb := tbm_2 229 rfl rfl
theorem mT_2_230 : (Jvm.Cond.methodLink "HillTap$Teller" (60 : Nat) ({ cls := "HillTap$Teller", name := "faulty", desc := "(I)Z" } : Jvm.MethodName)) ∈ tb := tbm_2 230 rfl rfl
theorem mT_2_232 : (Jvm.Cond.instanceMethod ({ cls := "HillTap$Teller", name := "faulty", desc := "(I)Z" } : Jvm.MethodName)) ∈ tb := tbm_2 232 rfl rfl
theorem mT_2_233 : (Jvm.Cond.code ({ cls := "HillTap$Teller", name := "faulty", desc := "(I)Z" } : Jvm.MethodName) prog_8_method_17_code (2 : Nat) (Option.some Jvm.ClassFile.FieldType.boolean)) ∈ tb := tbm_2 233 rfl rfl
theorem mT_2_234 : (Jvm.Cond.methodLink "HillTap$Teller" (54 : Nat) ({ cls := "HillTap$Tokens", name := "next", desc := "()V" } : Jvm.MethodName)) ∈ tb := tbm_2 234 rfl rfl
theorem mT_2_236 : (Jvm.Cond.methodLink "HillTap$Teller" (121 : Nat) ({ cls := "HillTap$Teller", name := "takeNumber", desc := "(Ljava/lang/String;II)Z" } : Jvm.MethodName)) ∈ tb := tbm_2 236 rfl rfl
theorem mT_2_238 : (Jvm.Cond.instanceMethod ({ cls := "HillTap$Teller", name := "takeNumber", desc := "(Ljava/lang/String;II)Z" } : Jvm.MethodName)) ∈ tb := tbm_2 238 rfl rfl
theorem mT_2_239 : (Jvm.Cond.code ({ cls := "HillTap$Teller", name := "takeNumber", desc := "(Ljava/lang/String;II)Z" } : Jvm.MethodName) prog_8_method_16_code (4 : Nat) (Option.some Jvm.ClassFile.FieldType.boolean)) ∈ tb := tbm_2 239 rfl rfl
theorem mT_3_0 : (Jvm.Cond.methodLink "HillTap$Teller" (163 : Nat) ({ cls := "HillTap$Teller", name := "takeWhole", desc := "(II)Z" } : Jvm.MethodName)) ∈ tb := tbm_3 0 rfl rfl
theorem mT_3_2 : (Jvm.Cond.instanceMethod ({ cls := "HillTap$Teller", name := "takeWhole", desc := "(II)Z" } : Jvm.MethodName)) ∈ tb := tbm_3 2 rfl rfl
theorem mT_3_3 : (Jvm.Cond.code ({ cls := "HillTap$Teller", name := "takeWhole", desc := "(II)Z" } : Jvm.MethodName) prog_8_method_15_code (3 : Nat) (Option.some Jvm.ClassFile.FieldType.boolean)) ∈ tb := tbm_3 3 rfl rfl
theorem mT_3_4 : (Jvm.Cond.methodLink "HillTap$Teller" (258 : Nat) ({ cls := "HillTap$Tokens", name := "isWhole", desc := "()Z" } : Jvm.MethodName)) ∈ tb := tbm_3 4 rfl rfl
theorem mT_3_5 : (Jvm.Cond.instanceMethod ({ cls := "HillTap$Tokens", name := "isWhole", desc := "()Z" } : Jvm.MethodName)) ∈ tb := tbm_3 5 rfl rfl
theorem mT_3_6 : (Jvm.Cond.selects "HillTap$Tokens" ({ cls := "HillTap$Tokens", name := "isWhole", desc := "()Z" } : Jvm.MethodName) ({ cls := "HillTap$Tokens", name := "isWhole", desc := "()Z" } : Jvm.MethodName)) ∈ tb := tbm_3 6 rfl rfl
theorem mT_3_7 : (Jvm.Cond.code ({ cls := "HillTap$Tokens", name := "isWhole", desc := "()Z" } : Jvm.MethodName) prog_9_method_6_code (1 : Nat) (Option.some Jvm.ClassFile.FieldType.boolean)) ∈ tb := tbm_3 7 rfl rfl
theorem mT_3_10 : (Jvm.Cond.methodLink "HillTap$Teller" (136 : Nat) ({ cls := "java/lang/Math", name := "max", desc := "(II)I" } : Jvm.MethodName)) ∈ tb := tbm_3 10 rfl rfl
theorem mT_3_11 : (Jvm.Cond.static ({ cls := "java/lang/Math", name := "max", desc := "(II)I" } : Jvm.MethodName)) ∈ tb := tbm_3 11 rfl rfl
theorem mT_3_12 : (Jvm.Cond.code ({ cls := "java/lang/Math", name := "max", desc := "(II)I" } : Jvm.MethodName) prog_17_method_65_code (2 : Nat) (Option.some Jvm.ClassFile.FieldType.int)) ∈ tb := tbm_3 12 rfl rfl
theorem mT_3_14 : (Jvm.Cond.methodLink "HillTap$Teller" (91 : Nat) ({ cls := "HillTap$Teller", name := "takePeg", desc := "(LHillTap$Hill;)Z" } : Jvm.MethodName)) ∈ tb := tbm_3 14 rfl rfl
theorem mT_3_16 : (Jvm.Cond.instanceMethod ({ cls := "HillTap$Teller", name := "takePeg", desc := "(LHillTap$Hill;)Z" } : Jvm.MethodName)) ∈ tb := tbm_3 16 rfl rfl
theorem mT_3_17 : (Jvm.Cond.code ({ cls := "HillTap$Teller", name := "takePeg", desc := "(LHillTap$Hill;)Z" } : Jvm.MethodName) prog_8_method_5_code (3 : Nat) (Option.some Jvm.ClassFile.FieldType.boolean)) ∈ tb := tbm_3 17 rfl rfl
theorem mT_3_18 : (Jvm.Cond.methodLink "HillTap$Teller" (148 : Nat) ({ cls := "HillTap$Teller", name := "takeNewName", desc := "()Z" } : Jvm.MethodName)) ∈ tb := tbm_3 18 rfl rfl
theorem mT_3_20 : (Jvm.Cond.instanceMethod ({ cls := "HillTap$Teller", name := "takeNewName", desc := "()Z" } : Jvm.MethodName)) ∈ tb := tbm_3 20 rfl rfl
theorem mT_3_21 : (Jvm.Cond.code ({ cls := "HillTap$Teller", name := "takeNewName", desc := "()Z" } : Jvm.MethodName) prog_8_method_13_code (2 : Nat) (Option.some Jvm.ClassFile.FieldType.boolean)) ∈ tb := tbm_3 21 rfl rfl
theorem mT_3_22 : (Jvm.Cond.methodLink "HillTap$Teller" (240 : Nat) ({ cls := "HillTap$Teller", name := "isName", desc := "()Z" } : Jvm.MethodName)) ∈ tb := tbm_3 22 rfl rfl
theorem mT_3_24 : (Jvm.Cond.instanceMethod ({ cls := "HillTap$Teller", name := "isName", desc := "()Z" } : Jvm.MethodName)) ∈ tb := tbm_3 24 rfl rfl
theorem mT_3_25 : (Jvm.Cond.code ({ cls := "HillTap$Teller", name := "isName", desc := "()Z" } : Jvm.MethodName) prog_8_method_14_code (1 : Nat) (Option.some Jvm.ClassFile.FieldType.boolean)) ∈ tb := tbm_3 25 rfl rfl
theorem mT_3_26 : (Jvm.Cond.methodLink "HillTap$Teller" (255 : Nat) ({ cls := "HillTap$Tokens", name := "isAnyWord", desc := "()Z" } : Jvm.MethodName)) ∈ tb := tbm_3 26 rfl rfl
theorem mT_3_27 : (Jvm.Cond.instanceMethod ({ cls := "HillTap$Tokens", name := "isAnyWord", desc := "()Z" } : Jvm.MethodName)) ∈ tb := tbm_3 27 rfl rfl
theorem mT_3_28 : (Jvm.Cond.selects "HillTap$Tokens" ({ cls := "HillTap$Tokens", name := "isAnyWord", desc := "()Z" } : Jvm.MethodName) ({ cls := "HillTap$Tokens", name := "isAnyWord", desc := "()Z" } : Jvm.MethodName)) ∈ tb := tbm_3 28 rfl rfl
theorem mT_3_29 : (Jvm.Cond.code ({ cls := "HillTap$Tokens", name := "isAnyWord", desc := "()Z" } : Jvm.MethodName) prog_9_method_5_code (1 : Nat) (Option.some Jvm.ClassFile.FieldType.boolean)) ∈ tb := tbm_3 29 rfl rfl
theorem mT_3_37 : (Jvm.Cond.methodLink "HillTap$Teller" (96 : Nat) ({ cls := "HillTap$Teller", name := "takeFrom", desc := "(LHillTap$Lake;)Z" } : Jvm.MethodName)) ∈ tb := tbm_3 37 rfl rfl
theorem mT_3_39 : (Jvm.Cond.instanceMethod ({ cls := "HillTap$Teller", name := "takeFrom", desc := "(LHillTap$Lake;)Z" } : Jvm.MethodName)) ∈ tb := tbm_3 39 rfl rfl
theorem mT_3_40 : (Jvm.Cond.code ({ cls := "HillTap$Teller", name := "takeFrom", desc := "(LHillTap$Lake;)Z" } : Jvm.MethodName) prog_8_method_6_code (3 : Nat) (Option.some Jvm.ClassFile.FieldType.boolean)) ∈ tb := tbm_3 40 rfl rfl
theorem mT_3_42 : (Jvm.Cond.methodLink "HillTap$Teller" (169 : Nat) ({ cls := "HillTap$Lake", name := "addFrom", desc := "(II)V" } : Jvm.MethodName)) ∈ tb := tbm_3 42 rfl rfl
theorem mT_3_43 : (Jvm.Cond.instanceMethod ({ cls := "HillTap$Lake", name := "addFrom", desc := "(II)V" } : Jvm.MethodName)) ∈ tb := tbm_3 43 rfl rfl
theorem mT_3_44 : (Jvm.Cond.selects "HillTap$Lake" ({ cls := "HillTap$Lake", name := "addFrom", desc := "(II)V" } : Jvm.MethodName) ({ cls := "HillTap$Lake", name := "addFrom", desc := "(II)V" } : Jvm.MethodName)) ∈ tb := tbm_3 44 rfl rfl
theorem mT_3_45 : (Jvm.Cond.code ({ cls := "HillTap$Lake", name := "addFrom", desc := "(II)V" } : Jvm.MethodName) prog_4_method_3_code (3 : Nat) (Option.none : Option Jvm.ClassFile.FieldType)) ∈ tb := tbm_3 45 rfl rfl
theorem mT_3_46 : (Jvm.Cond.methodLink "HillTap$Teller" (101 : Nat) ({ cls := "HillTap$Teller", name := "takeRain", desc := "(LHillTap$Hill;)Z" } : Jvm.MethodName)) ∈ tb := tbm_3 46 rfl rfl
theorem mT_3_48 : (Jvm.Cond.instanceMethod ({ cls := "HillTap$Teller", name := "takeRain", desc := "(LHillTap$Hill;)Z" } : Jvm.MethodName)) ∈ tb := tbm_3 48 rfl rfl
theorem mT_3_49 : (Jvm.Cond.code ({ cls := "HillTap$Teller", name := "takeRain", desc := "(LHillTap$Hill;)Z" } : Jvm.MethodName) prog_8_method_7_code (3 : Nat) (Option.some Jvm.ClassFile.FieldType.boolean)) ∈ tb := tbm_3 49 rfl rfl
theorem mT_3_51 : (Jvm.Cond.methodLink "HillTap$Teller" (106 : Nat) ({ cls := "HillTap$Teller", name := "takeStory", desc := "(LHillTap$Hill;)Z" } : Jvm.MethodName)) ∈ tb := tbm_3 51 rfl rfl
theorem mT_3_53 : (Jvm.Cond.instanceMethod ({ cls := "HillTap$Teller", name := "takeStory", desc := "(LHillTap$Hill;)Z" } : Jvm.MethodName)) ∈ tb := tbm_3 53 rfl rfl
theorem mT_3_54 : (Jvm.Cond.code ({ cls := "HillTap$Teller", name := "takeStory", desc := "(LHillTap$Hill;)Z" } : Jvm.MethodName) prog_8_method_8_code (3 : Nat) (Option.some Jvm.ClassFile.FieldType.boolean)) ∈ tb := tbm_3 54 rfl rfl
theorem mT_3_56 : (Jvm.Cond.methodLink "HillTap$Teller" (190 : Nat) ({ cls := "HillTap$Teller", name := "kindHere", desc := "()I" } : Jvm.MethodName)) ∈ tb := tbm_3 56 rfl rfl
theorem mT_3_58 : (Jvm.Cond.instanceMethod ({ cls := "HillTap$Teller", name := "kindHere", desc := "()I" } : Jvm.MethodName)) ∈ tb := tbm_3 58 rfl rfl
theorem mT_3_59 : (Jvm.Cond.code ({ cls := "HillTap$Teller", name := "kindHere", desc := "()I" } : Jvm.MethodName) prog_8_method_9_code (1 : Nat) (Option.some Jvm.ClassFile.FieldType.int)) ∈ tb := tbm_3 59 rfl rfl
theorem mT_3_69 : (Jvm.Cond.methodLink "HillTap$Teller" (111 : Nat) ({ cls := "HillTap$Teller", name := "takeVillage", desc := "(LHillTap$Hill;)Z" } : Jvm.MethodName)) ∈ tb := tbm_3 69 rfl rfl
theorem mT_3_71 : (Jvm.Cond.instanceMethod ({ cls := "HillTap$Teller", name := "takeVillage", desc := "(LHillTap$Hill;)Z" } : Jvm.MethodName)) ∈ tb := tbm_3 71 rfl rfl
theorem mT_3_72 : (Jvm.Cond.code ({ cls := "HillTap$Teller", name := "takeVillage", desc := "(LHillTap$Hill;)Z" } : Jvm.MethodName) prog_8_method_10_code (3 : Nat) (Option.some Jvm.ClassFile.FieldType.boolean)) ∈ tb := tbm_3 72 rfl rfl
theorem mT_3_76 : (Jvm.Cond.methodLink "HillTap$Teller" (116 : Nat) ({ cls := "HillTap$Teller", name := "takeKnower", desc := "(LHillTap$Hill;)Z" } : Jvm.MethodName)) ∈ tb := tbm_3 76 rfl rfl
theorem mT_3_78 : (Jvm.Cond.instanceMethod ({ cls := "HillTap$Teller", name := "takeKnower", desc := "(LHillTap$Hill;)Z" } : Jvm.MethodName)) ∈ tb := tbm_3 78 rfl rfl
theorem mT_3_79 : (Jvm.Cond.code ({ cls := "HillTap$Teller", name := "takeKnower", desc := "(LHillTap$Hill;)Z" } : Jvm.MethodName) prog_8_method_11_code (4 : Nat) (Option.some Jvm.ClassFile.FieldType.boolean)) ∈ tb := tbm_3 79 rfl rfl
theorem mT_3_81 : (Jvm.Cond.methodLink "HillTap$Teller" (243 : Nat) ({ cls := "HillTap$Teller", name := "pegNamed", desc := "(JI)I" } : Jvm.MethodName)) ∈ tb := tbm_3 81 rfl rfl
theorem mT_3_83 : (Jvm.Cond.instanceMethod ({ cls := "HillTap$Teller", name := "pegNamed", desc := "(JI)I" } : Jvm.MethodName)) ∈ tb := tbm_3 83 rfl rfl
theorem mT_3_84 : (Jvm.Cond.code ({ cls := "HillTap$Teller", name := "pegNamed", desc := "(JI)I" } : Jvm.MethodName) prog_8_method_12_code (5 : Nat) (Option.some Jvm.ClassFile.FieldType.int)) ∈ tb := tbm_3 84 rfl rfl
theorem mT_3_86 : (Jvm.Cond.methodLink "HillTap$Teller" (50 : Nat) ({ cls := "HillTap$Tokens", name := "isSemicolon", desc := "()Z" } : Jvm.MethodName)) ∈ tb := tbm_3 86 rfl rfl
theorem mT_3_87 : (Jvm.Cond.instanceMethod ({ cls := "HillTap$Tokens", name := "isSemicolon", desc := "()Z" } : Jvm.MethodName)) ∈ tb := tbm_3 87 rfl rfl
theorem mT_3_88 : (Jvm.Cond.selects "HillTap$Tokens" ({ cls := "HillTap$Tokens", name := "isSemicolon", desc := "()Z" } : Jvm.MethodName) ({ cls := "HillTap$Tokens", name := "isSemicolon", desc := "()Z" } : Jvm.MethodName)) ∈ tb := tbm_3 88 rfl rfl
theorem mT_3_89 : (Jvm.Cond.code ({ cls := "HillTap$Tokens", name := "isSemicolon", desc := "()Z" } : Jvm.MethodName) prog_9_method_7_code (1 : Nat) (Option.some Jvm.ClassFile.FieldType.boolean)) ∈ tb := tbm_3 89 rfl rfl
theorem mT_3_90 : (Jvm.Cond.methodLink "HillTap$Teller" (57 : Nat) ({ cls := "HillTap$Tokens", name := "isEnd", desc := "()Z" } : Jvm.MethodName)) ∈ tb := tbm_3 90 rfl rfl
theorem mT_3_91 : (Jvm.Cond.instanceMethod ({ cls := "HillTap$Tokens", name := "isEnd", desc := "()Z" } : Jvm.MethodName)) ∈ tb := tbm_3 91 rfl rfl
theorem mT_3_92 : (Jvm.Cond.selects "HillTap$Tokens" ({ cls := "HillTap$Tokens", name := "isEnd", desc := "()Z" } : Jvm.MethodName) ({ cls := "HillTap$Tokens", name := "isEnd", desc := "()Z" } : Jvm.MethodName)) ∈ tb := tbm_3 92 rfl rfl
theorem mT_3_93 : (Jvm.Cond.code ({ cls := "HillTap$Tokens", name := "isEnd", desc := "()Z" } : Jvm.MethodName) prog_9_method_4_code (1 : Nat) (Option.some Jvm.ClassFile.FieldType.boolean)) ∈ tb := tbm_3 93 rfl rfl
theorem mT_3_94 : (Jvm.Cond.methodLink "HillTap" (92 : Nat) ({ cls := "HillTap", name := "planAnew", desc := "()V" } : Jvm.MethodName)) ∈ tb := tbm_3 94 rfl rfl
theorem mT_3_96 : (Jvm.Cond.instanceMethod ({ cls := "HillTap", name := "planAnew", desc := "()V" } : Jvm.MethodName)) ∈ tb := tbm_3 96 rfl rfl
theorem mT_3_97 : (Jvm.Cond.code ({ cls := "HillTap", name := "planAnew", desc := "()V" } : Jvm.MethodName) prog_1_method_45_code (2 : Nat) (Option.none : Option Jvm.ClassFile.FieldType)) ∈ tb := tbm_3 97 rfl rfl
theorem mT_3_98 : (Jvm.Cond.methodLink "HillTap" (283 : Nat) ({ cls := "HillTap$Lake", name := "fillByPlan", desc := "([II)V" } : Jvm.MethodName)) ∈ tb := tbm_3 98 rfl rfl
theorem mT_3_99 : (Jvm.Cond.instanceMethod ({ cls := "HillTap$Lake", name := "fillByPlan", desc := "([II)V" } : Jvm.MethodName)) ∈ tb := tbm_3 99 rfl rfl
theorem mT_3_100 : (Jvm.Cond.selects "HillTap$Lake" ({ cls := "HillTap$Lake", name := "fillByPlan", desc := "([II)V" } : Jvm.MethodName) ({ cls := "HillTap$Lake", name := "fillByPlan", desc := "([II)V" } : Jvm.MethodName)) ∈ tb := tbm_3 100 rfl rfl
theorem mT_3_101 : (Jvm.Cond.code ({ cls := "HillTap$Lake", name := "fillByPlan", desc := "([II)V" } : Jvm.MethodName) prog_4_method_6_code (5 : Nat) (Option.none : Option Jvm.ClassFile.FieldType)) ∈ tb := tbm_3 101 rfl rfl
theorem mT_3_102 : (Jvm.Cond.methodLink "HillTap$Lake" (47 : Nat) ({ cls := "HillTap$Lake", name := "goalOf", desc := "(I)I" } : Jvm.MethodName)) ∈ tb := tbm_3 102 rfl rfl
theorem mT_3_104 : (Jvm.Cond.instanceMethod ({ cls := "HillTap$Lake", name := "goalOf", desc := "(I)I" } : Jvm.MethodName)) ∈ tb := tbm_3 104 rfl rfl
theorem mT_3_105 : (Jvm.Cond.code ({ cls := "HillTap$Lake", name := "goalOf", desc := "(I)I" } : Jvm.MethodName) prog_4_method_4_code (5 : Nat) (Option.some Jvm.ClassFile.FieldType.int)) ∈ tb := tbm_3 105 rfl rfl
theorem mT_3_106 : (Jvm.Cond.methodLink "HillTap$Lake" (38 : Nat) ({ cls := "java/lang/Math", name := "min", desc := "(II)I" } : Jvm.MethodName)) ∈ tb := tbm_3 106 rfl rfl
theorem mT_3_107 : (Jvm.Cond.methodLink "HillTap$Lake" (51 : Nat) ({ cls := "HillTap$Lake", name := "towards", desc := "(II)I" } : Jvm.MethodName)) ∈ tb := tbm_3 107 rfl rfl
theorem mT_3_109 : (Jvm.Cond.instanceMethod ({ cls := "HillTap$Lake", name := "towards", desc := "(II)I" } : Jvm.MethodName)) ∈ tb := tbm_3 109 rfl rfl
theorem mT_3_110 : (Jvm.Cond.code ({ cls := "HillTap$Lake", name := "towards", desc := "(II)I" } : Jvm.MethodName) prog_4_method_5_code (3 : Nat) (Option.some Jvm.ClassFile.FieldType.int)) ∈ tb := tbm_3 110 rfl rfl
theorem mT_3_111 : (Jvm.Cond.methodLink "HillTap$Lake" (44 : Nat) ({ cls := "java/lang/Math", name := "max", desc := "(II)I" } : Jvm.MethodName)) ∈ tb := tbm_3 111 rfl rfl
theorem mT_3_112 : (Jvm.Cond.methodLink "HillTap" (98 : Nat) ({ cls := "HillTap", name := "answer", desc := "(I)I" } : Jvm.MethodName)) ∈ tb := tbm_3 112 rfl rfl
theorem mT_3_114 : (Jvm.Cond.instanceMethod ({ cls := "HillTap", name := "answer", desc := "(I)I" } : Jvm.MethodName)) ∈ tb := tbm_3 114 rfl rfl
theorem mT_3_115 : (Jvm.Cond.code ({ cls := "HillTap", name := "answer", desc := "(I)I" } : Jvm.MethodName) prog_1_method_37_code (2 : Nat) (Option.some Jvm.ClassFile.FieldType.int)) ∈ tb := tbm_3 115 rfl rfl
theorem mT_3_116 : (Jvm.Cond.methodLink "HillTapLaw" (29 : Nat) ({ cls := "HillTap", name := "fault", desc := "()I" } : Jvm.MethodName)) ∈ tb := tbm_3 116 rfl rfl
theorem mT_3_117 : (Jvm.Cond.instanceMethod ({ cls := "HillTap", name := "fault", desc := "()I" } : Jvm.MethodName)) ∈ tb := tbm_3 117 rfl rfl
theorem mT_3_118 : (Jvm.Cond.selects "HillTap" ({ cls := "HillTap", name := "fault", desc := "()I" } : Jvm.MethodName) ({ cls := "HillTap", name := "fault", desc := "()I" } : Jvm.MethodName)) ∈ tb := tbm_3 118 rfl rfl
theorem mT_3_119 : (Jvm.Cond.code ({ cls := "HillTap", name := "fault", desc := "()I" } : Jvm.MethodName) prog_1_method_4_code (1 : Nat) (Option.some Jvm.ClassFile.FieldType.int)) ∈ tb := tbm_3 119 rfl rfl
theorem mT_3_120 : (Jvm.Cond.methodLink "HillTapLaw" (34 : Nat) ({ cls := "HillTap", name := "where", desc := "()I" } : Jvm.MethodName)) ∈ tb := tbm_3 120 rfl rfl
theorem mT_3_121 : (Jvm.Cond.instanceMethod ({ cls := "HillTap", name := "where", desc := "()I" } : Jvm.MethodName)) ∈ tb := tbm_3 121 rfl rfl
theorem mT_3_122 : (Jvm.Cond.selects "HillTap" ({ cls := "HillTap", name := "where", desc := "()I" } : Jvm.MethodName) ({ cls := "HillTap", name := "where", desc := "()I" } : Jvm.MethodName)) ∈ tb := tbm_3 122 rfl rfl
theorem mT_3_123 : (Jvm.Cond.code ({ cls := "HillTap", name := "where", desc := "()I" } : Jvm.MethodName) prog_1_method_5_code (1 : Nat) (Option.some Jvm.ClassFile.FieldType.int)) ∈ tb := tbm_3 123 rfl rfl
theorem mT_3_124 : (Jvm.Cond.methodLink "HillTapLaw" (38 : Nat) ({ cls := "HillTap", name := "level", desc := "(I)I" } : Jvm.MethodName)) ∈ tb := tbm_3 124 rfl rfl
theorem mT_3_125 : (Jvm.Cond.instanceMethod ({ cls := "HillTap", name := "level", desc := "(I)I" } : Jvm.MethodName)) ∈ tb := tbm_3 125 rfl rfl
theorem mT_3_126 : (Jvm.Cond.selects "HillTap" ({ cls := "HillTap", name := "level", desc := "(I)I" } : Jvm.MethodName) ({ cls := "HillTap", name := "level", desc := "(I)I" } : Jvm.MethodName)) ∈ tb := tbm_3 126 rfl rfl
theorem mT_3_127 : (Jvm.Cond.code ({ cls := "HillTap", name := "level", desc := "(I)I" } : Jvm.MethodName) prog_1_method_6_code (2 : Nat) (Option.some Jvm.ClassFile.FieldType.int)) ∈ tb := tbm_3 127 rfl rfl
theorem mT_3_128 : (Jvm.Cond.methodLink "HillTap" (107 : Nat) ({ cls := "HillTap", name := "noHill", desc := "()Z" } : Jvm.MethodName)) ∈ tb := tbm_3 128 rfl rfl
theorem mT_3_130 : (Jvm.Cond.instanceMethod ({ cls := "HillTap", name := "noHill", desc := "()Z" } : Jvm.MethodName)) ∈ tb := tbm_3 130 rfl rfl
theorem mT_3_131 : (Jvm.Cond.code ({ cls := "HillTap", name := "noHill", desc := "()Z" } : Jvm.MethodName) prog_1_method_38_code (1 : Nat) (Option.some Jvm.ClassFile.FieldType.boolean)) ∈ tb := tbm_3 131 rfl rfl
theorem mT_3_132 : (Jvm.Cond.methodLink "HillTap" (111 : Nat) ({ cls := "HillTap", name := "isDay", desc := "(I)Z" } : Jvm.MethodName)) ∈ tb := tbm_3 132 rfl rfl
theorem mT_3_133 : (Jvm.Cond.static ({ cls := "HillTap", name := "isDay", desc := "(I)Z" } : Jvm.MethodName)) ∈ tb := tbm_3 133 rfl rfl
theorem mT_3_134 : (Jvm.Cond.code ({ cls := "HillTap", name := "isDay", desc := "(I)Z" } : Jvm.MethodName) prog_1_method_39_code (1 : Nat) (Option.some Jvm.ClassFile.FieldType.boolean)) ∈ tb := tbm_3 134 rfl rfl
theorem mT_3_135 : (Jvm.Cond.methodLink "HillTapLaw" (42 : Nat) ({ cls := "HillTap", name := "plan", desc := "(II)I" } : Jvm.MethodName)) ∈ tb := tbm_3 135 rfl rfl
theorem mT_3_136 : (Jvm.Cond.instanceMethod ({ cls := "HillTap", name := "plan", desc := "(II)I" } : Jvm.MethodName)) ∈ tb := tbm_3 136 rfl rfl
theorem mT_3_137 : (Jvm.Cond.selects "HillTap" ({ cls := "HillTap", name := "plan", desc := "(II)I" } : Jvm.MethodName) ({ cls := "HillTap", name := "plan", desc := "(II)I" } : Jvm.MethodName)) ∈ tb := tbm_3 137 rfl rfl
theorem mT_3_138 : (Jvm.Cond.code ({ cls := "HillTap", name := "plan", desc := "(II)I" } : Jvm.MethodName) prog_1_method_7_code (4 : Nat) (Option.some Jvm.ClassFile.FieldType.int)) ∈ tb := tbm_3 138 rfl rfl
theorem mT_3_139 : (Jvm.Cond.methodLink "HillTap" (124 : Nat) ({ cls := "HillTap$Lake", name := "addFrom", desc := "(II)V" } : Jvm.MethodName)) ∈ tb := tbm_3 139 rfl rfl
theorem mT_3_140 : (Jvm.Cond.methodLink "HillTapLaw" (46 : Nat) ({ cls := "HillTap", name := "undo", desc := "()Z" } : Jvm.MethodName)) ∈ tb := tbm_3 140 rfl rfl
theorem mT_3_141 : (Jvm.Cond.instanceMethod ({ cls := "HillTap", name := "undo", desc := "()Z" } : Jvm.MethodName)) ∈ tb := tbm_3 141 rfl rfl
theorem mT_3_142 : (Jvm.Cond.selects "HillTap" ({ cls := "HillTap", name := "undo", desc := "()Z" } : Jvm.MethodName) ({ cls := "HillTap", name := "undo", desc := "()Z" } : Jvm.MethodName)) ∈ tb := tbm_3 142 rfl rfl
theorem mT_3_143 : (Jvm.Cond.code ({ cls := "HillTap", name := "undo", desc := "()Z" } : Jvm.MethodName) prog_1_method_8_code (2 : Nat) (Option.some Jvm.ClassFile.FieldType.boolean)) ∈ tb := tbm_3 143 rfl rfl
theorem mT_3_144 : (Jvm.Cond.methodLink "HillTapLaw" (51 : Nat) ({ cls := "HillTap", name := "peg", desc := "(IIII)I" } : Jvm.MethodName)) ∈ tb := tbm_3 144 rfl rfl
theorem mT_3_145 : (Jvm.Cond.instanceMethod ({ cls := "HillTap", name := "peg", desc := "(IIII)I" } : Jvm.MethodName)) ∈ tb := tbm_3 145 rfl rfl
theorem mT_3_146 : (Jvm.Cond.selects "HillTap" ({ cls := "HillTap", name := "peg", desc := "(IIII)I" } : Jvm.MethodName) ({ cls := "HillTap", name := "peg", desc := "(IIII)I" } : Jvm.MethodName)) ∈ tb := tbm_3 146 rfl rfl
theorem mT_3_147 : (Jvm.Cond.code ({ cls := "HillTap", name := "peg", desc := "(IIII)I" } : Jvm.MethodName) prog_1_method_9_code (6 : Nat) (Option.some Jvm.ClassFile.FieldType.int)) ∈ tb := tbm_3 147 rfl rfl
theorem mT_3_148 : (Jvm.Cond.methodLink "HillTap" (131 : Nat) ({ cls := "HillTap", name := "isPegDay", desc := "(III)Z" } : Jvm.MethodName)) ∈ tb := tbm_3 148 rfl rfl
theorem mT_3_150 : (Jvm.Cond.instanceMethod ({ cls := "HillTap", name := "isPegDay", desc := "(III)Z" } : Jvm.MethodName)) ∈ tb := tbm_3 150 rfl rfl
theorem mT_3_151 : (Jvm.Cond.code ({ cls := "HillTap", name := "isPegDay", desc := "(III)Z" } : Jvm.MethodName) prog_1_method_43_code (4 : Nat) (Option.some Jvm.ClassFile.FieldType.boolean)) ∈ tb := tbm_3 151 rfl rfl
theorem mT_3_152 : (Jvm.Cond.methodLink "HillTap" (152 : Nat) ({ cls := "HillTap", name := "isStory", desc := "(I)Z" } : Jvm.MethodName)) ∈ tb := tbm_3 152 rfl rfl
theorem mT_3_154 : (Jvm.Cond.instanceMethod ({ cls := "HillTap", name := "isStory", desc := "(I)Z" } : Jvm.MethodName)) ∈ tb := tbm_3 154 rfl rfl
theorem mT_3_155 : (Jvm.Cond.code ({ cls := "HillTap", name := "isStory", desc := "(I)Z" } : Jvm.MethodName) prog_1_method_40_code (2 : Nat) (Option.some Jvm.ClassFile.FieldType.boolean)) ∈ tb := tbm_3 155 rfl rfl
theorem mT_3_156 : (Jvm.Cond.methodLink "HillTap" (161 : Nat) ({ cls := "HillTap", name := "isPeg", desc := "(I)Z" } : Jvm.MethodName)) ∈ tb := tbm_3 156 rfl rfl
theorem mT_3_158 : (Jvm.Cond.instanceMethod ({ cls := "HillTap", name := "isPeg", desc := "(I)Z" } : Jvm.MethodName)) ∈ tb := tbm_3 158 rfl rfl
theorem mT_3_159 : (Jvm.Cond.code ({ cls := "HillTap", name := "isPeg", desc := "(I)Z" } : Jvm.MethodName) prog_1_method_41_code (2 : Nat) (Option.some Jvm.ClassFile.FieldType.boolean)) ∈ tb := tbm_3 159 rfl rfl
theorem mT_3_160 : (Jvm.Cond.methodLink "HillTap" (135 : Nat) ({ cls := "HillTap", name := "courseOf", desc := "(I)LHillTap$Course;" } : Jvm.MethodName)) ∈ tb := tbm_3 160 rfl rfl
theorem mT_3_162 : (Jvm.Cond.instanceMethod ({ cls := "HillTap", name := "courseOf", desc := "(I)LHillTap$Course;" } : Jvm.MethodName)) ∈ tb := tbm_3 162 rfl rfl
theorem mT_3_163 : (Jvm.Cond.code ({ cls := "HillTap", name := "courseOf", desc := "(I)LHillTap$Course;" } : Jvm.MethodName) prog_1_method_46_code (3 : Nat) (Option.some (Jvm.ClassFile.FieldType.object "HillTap$Course"))) ∈ tb := tbm_3 163 rfl rfl
theorem mT_3_164 : (Jvm.Cond.methodLink "HillTap" (243 : Nat) ({ cls := "HillTap$Course", name := "follow", desc := "(LHillTap$Hill;LHillTap$Story;[IZ)V" } : Jvm.MethodName)) ∈ tb := tbm_3 164 rfl rfl
theorem mT_3_165 : (Jvm.Cond.instanceMethod ({ cls := "HillTap$Course", name := "follow", desc := "(LHillTap$Hill;LHillTap$Story;[IZ)V" } : Jvm.MethodName)) ∈ tb := tbm_3 165 rfl rfl
theorem mT_3_166 : (Jvm.Cond.selects "HillTap$Course" ({ cls := "HillTap$Course", name := "follow", desc := "(LHillTap$Hill;LHillTap$Story;[IZ)V" } : Jvm.MethodName) ({ cls := "HillTap$Course", name := "follow", desc := "(LHillTap$Hill;LHillTap$Story;[IZ)V" } : Jvm.MethodName)) ∈ tb := tbm_3 166 rfl rfl
theorem mT_3_167 : (Jvm.Cond.code ({ cls := "HillTap$Course", name := "follow", desc := "(LHillTap$Hill;LHillTap$Story;[IZ)V" } : Jvm.MethodName) prog_2_method_2_code (9 : Nat) (Option.none : Option Jvm.ClassFile.FieldType)) ∈ tb := tbm_3 167 rfl rfl
theorem mT_3_168 : (Jvm.Cond.methodLink "HillTap$Course" (27 : Nat) ({ cls := "HillTap$Course", name := "fillAdds", desc := "(LHillTap$Hill;LHillTap$Story;[IZ)V" } : Jvm.MethodName)) ∈ tb := tbm_3 168 rfl rfl
theorem mT_3_170 : (Jvm.Cond.instanceMethod ({ cls := "HillTap$Course", name := "fillAdds", desc := "(LHillTap$Hill;LHillTap$Story;[IZ)V" } : Jvm.MethodName)) ∈ tb := tbm_3 170 rfl rfl
theorem mT_3_171 : (Jvm.Cond.code ({ cls := "HillTap$Course", name := "fillAdds", desc := "(LHillTap$Hill;LHillTap$Story;[IZ)V" } : Jvm.MethodName) prog_2_method_7_code (6 : Nat) (Option.none : Option Jvm.ClassFile.FieldType)) ∈ tb := tbm_3 171 rfl rfl
theorem mT_3_172 : (Jvm.Cond.methodLink "HillTap$Course" (93 : Nat) ({ cls := "HillTap$Course", name := "fillByRise", desc := "(II[I)V" } : Jvm.MethodName)) ∈ tb := tbm_3 172 rfl rfl
theorem mT_3_174 : (Jvm.Cond.instanceMethod ({ cls := "HillTap$Course", name := "fillByRise", desc := "(II[I)V" } : Jvm.MethodName)) ∈ tb := tbm_3 174 rfl rfl
theorem mT_3_175 : (Jvm.Cond.code ({ cls := "HillTap$Course", name := "fillByRise", desc := "(II[I)V" } : Jvm.MethodName) prog_2_method_8_code (6 : Nat) (Option.none : Option Jvm.ClassFile.FieldType)) ∈ tb := tbm_3 175 rfl rfl
theorem mT_3_176 : (Jvm.Cond.methodLink "HillTap$Course" (67 : Nat) ({ cls := "java/lang/Math", name := "max", desc := "(II)I" } : Jvm.MethodName)) ∈ tb := tbm_3 176 rfl rfl
theorem mT_3_177 : (Jvm.Cond.methodLink "HillTap$Course" (97 : Nat) ({ cls := "HillTap$Course", name := "fillByMean", desc := "(II[I)V" } : Jvm.MethodName)) ∈ tb := tbm_3 177 rfl rfl
theorem mT_3_179 : (Jvm.Cond.instanceMethod ({ cls := "HillTap$Course", name := "fillByMean", desc := "(II[I)V" } : Jvm.MethodName)) ∈ tb := tbm_3 179 rfl rfl
theorem mT_3_180 : (Jvm.Cond.code ({ cls := "HillTap$Course", name := "fillByMean", desc := "(II[I)V" } : Jvm.MethodName) prog_2_method_9_code (7 : Nat) (Option.none : Option Jvm.ClassFile.FieldType)) ∈ tb := tbm_3 180 rfl rfl
theorem mT_3_181 : (Jvm.Cond.methodLink "HillTap$Course" (51 : Nat) ({ cls := "java/lang/Math", name := "min", desc := "(II)I" } : Jvm.MethodName)) ∈ tb := tbm_3 181 rfl rfl
theorem mT_3_182 : (Jvm.Cond.methodLink "HillTap$Course" (103 : Nat) ({ cls := "HillTap$Course", name := "fillByRain", desc := "(I[I)V" } : Jvm.MethodName)) ∈ tb := tbm_3 182 rfl rfl
theorem mT_3_184 : (Jvm.Cond.instanceMethod ({ cls := "HillTap$Course", name := "fillByRain", desc := "(I[I)V" } : Jvm.MethodName)) ∈ tb := tbm_3 184 rfl rfl
theorem mT_3_185 : (Jvm.Cond.code ({ cls := "HillTap$Course", name := "fillByRain", desc := "(I[I)V" } : Jvm.MethodName) prog_2_method_10_code (5 : Nat) (Option.none : Option Jvm.ClassFile.FieldType)) ∈ tb := tbm_3 185 rfl rfl
theorem mT_3_186 : (Jvm.Cond.methodLink "HillTap$Course" (43 : Nat) ({ cls := "HillTap$Course", name := "speedOf", desc := "(LHillTap$Hill;LHillTap$Story;II)I" } : Jvm.MethodName)) ∈ tb := tbm_3 186 rfl rfl
theorem mT_3_188 : (Jvm.Cond.instanceMethod ({ cls := "HillTap$Course", name := "speedOf", desc := "(LHillTap$Hill;LHillTap$Story;II)I" } : Jvm.MethodName)) ∈ tb := tbm_3 188 rfl rfl
theorem mT_3_189 : (Jvm.Cond.code ({ cls := "HillTap$Course", name := "speedOf", desc := "(LHillTap$Hill;LHillTap$Story;II)I" } : Jvm.MethodName) prog_2_method_5_code (8 : Nat) (Option.some Jvm.ClassFile.FieldType.int)) ∈ tb := tbm_3 189 rfl rfl
theorem mT_3_191 : (Jvm.Cond.static ({ cls := "HillTap", name := "row", desc := "(II)I" } : Jvm.MethodName)) ∈ tb := tbm_3 191 rfl rfl
theorem mT_3_192 : (Jvm.Cond.code ({ cls := "HillTap", name := "row", desc := "(II)I" } : Jvm.MethodName) prog_1_method_44_code (2 : Nat) (Option.some Jvm.ClassFile.FieldType.int)) ∈ tb := tbm_3 192 rfl rfl
theorem mT_3_193 : (Jvm.Cond.methodLink "HillTap$Course" (47 : Nat) ({ cls := "HillTap$Course", name := "creepBy", desc := "(ILHillTap$Story;II)V" } : Jvm.MethodName)) ∈ tb := tbm_3 193 rfl rfl
theorem mT_3_195 : (Jvm.Cond.instanceMethod ({ cls := "HillTap$Course", name := "creepBy", desc := "(ILHillTap$Story;II)V" } : Jvm.MethodName)) ∈ tb := tbm_3 195 rfl rfl
theorem mT_3_196 : (Jvm.Cond.code ({ cls := "HillTap$Course", name := "creepBy", desc := "(ILHillTap$Story;II)V" } : Jvm.MethodName) prog_2_method_6_code (7 : Nat) (Option.none : Option Jvm.ClassFile.FieldType)) ∈ tb := tbm_3 196 rfl rfl
theorem mT_3_197 : (Jvm.Cond.methodLink "HillTap" (142 : Nat) ({ cls := "HillTap", name := "row", desc := "(II)I" } : Jvm.MethodName)) ∈ tb := tbm_3 197 rfl rfl
theorem mT_3_198 : (Jvm.Cond.methodLink "HillTapLaw" (56 : Nat) ({ cls := "HillTap", name := "gone", desc := "(I)I" } : Jvm.MethodName)) ∈ tb := tbm_3 198 rfl rfl
theorem mT_3_199 : (Jvm.Cond.instanceMethod ({ cls := "HillTap", name := "gone", desc := "(I)I" } : Jvm.MethodName)) ∈ tb := tbm_3 199 rfl rfl
theorem mT_3_200 : (Jvm.Cond.selects "HillTap" ({ cls := "HillTap", name := "gone", desc := "(I)I" } : Jvm.MethodName) ({ cls := "HillTap", name := "gone", desc := "(I)I" } : Jvm.MethodName)) ∈ tb := tbm_3 200 rfl rfl
theorem mT_3_201 : (Jvm.Cond.code ({ cls := "HillTap", name := "gone", desc := "(I)I" } : Jvm.MethodName) prog_1_method_10_code (2 : Nat) (Option.some Jvm.ClassFile.FieldType.int)) ∈ tb := tbm_3 201 rfl rfl
theorem mT_3_202 : (Jvm.Cond.methodLink "HillTapLaw" (60 : Nat) ({ cls := "HillTap", name := "wave", desc := "(I)I" } : Jvm.MethodName)) ∈ tb := tbm_3 202 rfl rfl
theorem mT_3_203 : (Jvm.Cond.instanceMethod ({ cls := "HillTap", name := "wave", desc := "(I)I" } : Jvm.MethodName)) ∈ tb := tbm_3 203 rfl rfl
theorem mT_3_204 : (Jvm.Cond.selects "HillTap" ({ cls := "HillTap", name := "wave", desc := "(I)I" } : Jvm.MethodName) ({ cls := "HillTap", name := "wave", desc := "(I)I" } : Jvm.MethodName)) ∈ tb := tbm_3 204 rfl rfl
theorem mT_3_205 : (Jvm.Cond.code ({ cls := "HillTap", name := "wave", desc := "(I)I" } : Jvm.MethodName) prog_1_method_11_code (2 : Nat) (Option.some Jvm.ClassFile.FieldType.int)) ∈ tb := tbm_3 205 rfl rfl
theorem mT_3_206 : (Jvm.Cond.methodLink "HillTapLaw" (64 : Nat) ({ cls := "HillTap", name := "read", desc := "(IIII)I" } : Jvm.MethodName)) ∈ tb := tbm_3 206 rfl rfl
theorem mT_3_207 : (Jvm.Cond.instanceMethod ({ cls := "HillTap", name := "read", desc := "(IIII)I" } : Jvm.MethodName)) ∈ tb := tbm_3 207 rfl rfl
theorem mT_3_208 : (Jvm.Cond.selects "HillTap" ({ cls := "HillTap", name := "read", desc := "(IIII)I" } : Jvm.MethodName) ({ cls := "HillTap", name := "read", desc := "(IIII)I" } : Jvm.MethodName)) ∈ tb := tbm_3 208 rfl rfl
theorem mT_3_209 : (Jvm.Cond.code ({ cls := "HillTap", name := "read", desc := "(IIII)I" } : Jvm.MethodName) prog_1_method_12_code (5 : Nat) (Option.some Jvm.ClassFile.FieldType.int)) ∈ tb := tbm_3 209 rfl rfl
theorem mT_3_210 : (Jvm.Cond.constant "HillTap" (164 : Nat) (99999 : Int32)) ∈ tb := tbm_3 210 rfl rfl
theorem mT_3_211 : (Jvm.Cond.methodLink "HillTap" (165 : Nat) ({ cls := "HillTap$Readings", name := "add", desc := "(IIII)V" } : Jvm.MethodName)) ∈ tb := tbm_3 211 rfl rfl
theorem mT_3_212 : (Jvm.Cond.instanceMethod ({ cls := "HillTap$Readings", name := "add", desc := "(IIII)V" } : Jvm.MethodName)) ∈ tb := tbm_3 212 rfl rfl
theorem mT_3_213 : (Jvm.Cond.selects "HillTap$Readings" ({ cls := "HillTap$Readings", name := "add", desc := "(IIII)V" } : Jvm.MethodName) ({ cls := "HillTap$Readings", name := "add", desc := "(IIII)V" } : Jvm.MethodName)) ∈ tb := tbm_3 213 rfl rfl
theorem mT_3_214 : (Jvm.Cond.code ({ cls := "HillTap$Readings", name := "add", desc := "(IIII)V" } : Jvm.MethodName) prog_5_method_2_code (5 : Nat) (Option.none : Option Jvm.ClassFile.FieldType)) ∈ tb := tbm_3 214 rfl rfl
theorem mT_3_215 : (Jvm.Cond.methodLink "HillTapLaw" (68 : Nat) ({ cls := "HillTap", name := "forget", desc := "()I" } : Jvm.MethodName)) ∈ tb := tbm_3 215 rfl rfl
theorem mT_3_216 : (Jvm.Cond.instanceMethod ({ cls := "HillTap", name := "forget", desc := "()I" } : Jvm.MethodName)) ∈ tb := tbm_3 216 rfl rfl
theorem mT_3_217 : (Jvm.Cond.selects "HillTap" ({ cls := "HillTap", name := "forget", desc := "()I" } : Jvm.MethodName) ({ cls := "HillTap", name := "forget", desc := "()I" } : Jvm.MethodName)) ∈ tb := tbm_3 217 rfl rfl
theorem mT_3_218 : (Jvm.Cond.code ({ cls := "HillTap", name := "forget", desc := "()I" } : Jvm.MethodName) prog_1_method_13_code (2 : Nat) (Option.some Jvm.ClassFile.FieldType.int)) ∈ tb := tbm_3 218 rfl rfl
theorem mT_3_219 : (Jvm.Cond.methodLink "HillTapLaw" (72 : Nat) ({ cls := "HillTap", name := "fits", desc := "()I" } : Jvm.MethodName)) ∈ tb := tbm_3 219 rfl rfl
theorem mT_3_220 : (Jvm.Cond.instanceMethod ({ cls := "HillTap", name := "fits", desc := "()I" } : Jvm.MethodName)) ∈ tb := tbm_3 220 rfl rfl
theorem mT_3_221 : (Jvm.Cond.selects "HillTap" ({ cls := "HillTap", name := "fits", desc := "()I" } : Jvm.MethodName) ({ cls := "HillTap", name := "fits", desc := "()I" } : Jvm.MethodName)) ∈ tb := tbm_3 221 rfl rfl
theorem mT_3_222 : (Jvm.Cond.code ({ cls := "HillTap", name := "fits", desc := "()I" } : Jvm.MethodName) prog_1_method_14_code (1 : Nat) (Option.some Jvm.ClassFile.FieldType.int)) ∈ tb := tbm_3 222 rfl rfl
theorem mT_3_223 : (Jvm.Cond.methodLink "HillTap" (168 : Nat) ({ cls := "HillTap", name := "findFits", desc := "()V" } : Jvm.MethodName)) ∈ tb := tbm_3 223 rfl rfl
theorem mT_3_225 : (Jvm.Cond.instanceMethod ({ cls := "HillTap", name := "findFits", desc := "()V" } : Jvm.MethodName)) ∈ tb := tbm_3 225 rfl rfl
theorem mT_3_226 : (Jvm.Cond.code ({ cls := "HillTap", name := "findFits", desc := "()V" } : Jvm.MethodName) prog_1_method_49_code (2 : Nat) (Option.none : Option Jvm.ClassFile.FieldType)) ∈ tb := tbm_3 226 rfl rfl
theorem mT_3_227 : (Jvm.Cond.methodLink "HillTap" (290 : Nat) ({ cls := "HillTap$Readings", name := "firstMisfit", desc := "(LHillTap$Course;)I" } : Jvm.MethodName)) ∈ tb := tbm_3 227 rfl rfl
theorem mT_3_228 : (Jvm.Cond.instanceMethod ({ cls := "HillTap$Readings", name := "firstMisfit", desc := "(LHillTap$Course;)I" } : Jvm.MethodName)) ∈ tb := tbm_3 228 rfl rfl
theorem mT_3_229 : (Jvm.Cond.selects "HillTap$Readings" ({ cls := "HillTap$Readings", name := "firstMisfit", desc := "(LHillTap$Course;)I" } : Jvm.MethodName) ({ cls := "HillTap$Readings", name := "firstMisfit", desc := "(LHillTap$Course;)I" } : Jvm.MethodName)) ∈ tb := tbm_3 229 rfl rfl
theorem mT_3_230 : (Jvm.Cond.code ({ cls := "HillTap$Readings", name := "firstMisfit", desc := "(LHillTap$Course;)I" } : Jvm.MethodName) prog_5_method_3_code (5 : Nat) (Option.some Jvm.ClassFile.FieldType.int)) ∈ tb := tbm_3 230 rfl rfl
theorem mT_3_232 : (Jvm.Cond.methodLink "HillTap$Readings" (35 : Nat) ({ cls := "java/lang/Math", name := "abs", desc := "(I)I" } : Jvm.MethodName)) ∈ tb := tbm_3 232 rfl rfl
theorem mT_3_233 : (Jvm.Cond.static ({ cls := "java/lang/Math", name := "abs", desc := "(I)I" } : Jvm.MethodName)) ∈ tb := tbm_3 233 rfl rfl
theorem mT_3_234 : (Jvm.Cond.code ({ cls := "java/lang/Math", name := "abs", desc := "(I)I" } : Jvm.MethodName) prog_17_method_59_code (1 : Nat) (Option.some Jvm.ClassFile.FieldType.int)) ∈ tb := tbm_3 234 rfl rfl
theorem mT_3_235 : (Jvm.Cond.methodLink "HillTap$Readings" (41 : Nat) ({ cls := "java/lang/Math", name := "min", desc := "(II)I" } : Jvm.MethodName)) ∈ tb := tbm_3 235 rfl rfl
theorem mT_3_236 : (Jvm.Cond.methodLink "HillTap" (171 : Nat) ({ cls := "HillTap", name := "countFitsUpTo", desc := "(I)I" } : Jvm.MethodName)) ∈ tb := tbm_3 236 rfl rfl
theorem mT_3_238 : (Jvm.Cond.instanceMethod ({ cls := "HillTap", name := "countFitsUpTo", desc := "(I)I" } : Jvm.MethodName)) ∈ tb := tbm_3 238 rfl rfl
theorem mT_3_239 : (Jvm.Cond.code ({ cls := "HillTap", name := "countFitsUpTo", desc := "(I)I" } : Jvm.MethodName) prog_1_method_51_code (4 : Nat) (Option.some Jvm.ClassFile.FieldType.int)) ∈ tb := tbm_3 239 rfl rfl
theorem mT_4_0 : (Jvm.Cond.methodLink "HillTapLaw" (76 : Nat) ({ cls := "HillTap", name := "fit", desc := "(I)I" } : Jvm.MethodName)) ∈ tb := tbm_4 0 rfl rfl
theorem mT_4_1 : (Jvm.Cond.instanceMethod ({ cls := "HillTap", name := "fit", desc := "(I)I" } : Jvm.MethodName)) ∈ tb := tbm_4 1 rfl rfl
theorem mT_4_2 : (Jvm.Cond.selects "HillTap" ({ cls := "HillTap", name := "fit", desc := "(I)I" } : Jvm.MethodName) ({ cls := "HillTap", name := "fit", desc := "(I)I" } : Jvm.MethodName)) ∈ tb := tbm_4 2 rfl rfl
theorem mT_4_3 : (Jvm.Cond.code ({ cls := "HillTap", name := "fit", desc := "(I)I" } : Jvm.MethodName) prog_1_method_15_code (4 : Nat) (Option.some Jvm.ClassFile.FieldType.int)) ∈ tb := tbm_4 3 rfl rfl
theorem mT_4_4 : (Jvm.Cond.methodLink "HillTap" (174 : Nat) ({ cls := "HillTap", name := "isFit", desc := "(I)Z" } : Jvm.MethodName)) ∈ tb := tbm_4 4 rfl rfl
theorem mT_4_6 : (Jvm.Cond.instanceMethod ({ cls := "HillTap", name := "isFit", desc := "(I)Z" } : Jvm.MethodName)) ∈ tb := tbm_4 6 rfl rfl
theorem mT_4_7 : (Jvm.Cond.code ({ cls := "HillTap", name := "isFit", desc := "(I)Z" } : Jvm.MethodName) prog_1_method_50_code (2 : Nat) (Option.some Jvm.ClassFile.FieldType.boolean)) ∈ tb := tbm_4 7 rfl rfl
theorem mT_4_8 : (Jvm.Cond.methodLink "HillTapLaw" (80 : Nat) ({ cls := "HillTap", name := "weight", desc := "(I)I" } : Jvm.MethodName)) ∈ tb := tbm_4 8 rfl rfl
theorem mT_4_9 : (Jvm.Cond.instanceMethod ({ cls := "HillTap", name := "weight", desc := "(I)I" } : Jvm.MethodName)) ∈ tb := tbm_4 9 rfl rfl
theorem mT_4_10 : (Jvm.Cond.selects "HillTap" ({ cls := "HillTap", name := "weight", desc := "(I)I" } : Jvm.MethodName) ({ cls := "HillTap", name := "weight", desc := "(I)I" } : Jvm.MethodName)) ∈ tb := tbm_4 10 rfl rfl
theorem mT_4_11 : (Jvm.Cond.code ({ cls := "HillTap", name := "weight", desc := "(I)I" } : Jvm.MethodName) prog_1_method_16_code (2 : Nat) (Option.some Jvm.ClassFile.FieldType.int)) ∈ tb := tbm_4 11 rfl rfl
theorem mT_4_12 : (Jvm.Cond.methodLink "HillTap" (177 : Nat) ({ cls := "HillTap", name := "weightOfFits", desc := "()I" } : Jvm.MethodName)) ∈ tb := tbm_4 12 rfl rfl
theorem mT_4_14 : (Jvm.Cond.instanceMethod ({ cls := "HillTap", name := "weightOfFits", desc := "()I" } : Jvm.MethodName)) ∈ tb := tbm_4 14 rfl rfl
theorem mT_4_15 : (Jvm.Cond.code ({ cls := "HillTap", name := "weightOfFits", desc := "()I" } : Jvm.MethodName) prog_1_method_52_code (3 : Nat) (Option.some Jvm.ClassFile.FieldType.int)) ∈ tb := tbm_4 15 rfl rfl
theorem mT_4_16 : (Jvm.Cond.methodLink "HillTapLaw" (84 : Nat) ({ cls := "HillTap", name := "clear", desc := "()I" } : Jvm.MethodName)) ∈ tb := tbm_4 16 rfl rfl
theorem mT_4_17 : (Jvm.Cond.instanceMethod ({ cls := "HillTap", name := "clear", desc := "()I" } : Jvm.MethodName)) ∈ tb := tbm_4 17 rfl rfl
theorem mT_4_18 : (Jvm.Cond.selects "HillTap" ({ cls := "HillTap", name := "clear", desc := "()I" } : Jvm.MethodName) ({ cls := "HillTap", name := "clear", desc := "()I" } : Jvm.MethodName)) ∈ tb := tbm_4 18 rfl rfl
theorem mT_4_19 : (Jvm.Cond.code ({ cls := "HillTap", name := "clear", desc := "()I" } : Jvm.MethodName) prog_1_method_17_code (2 : Nat) (Option.some Jvm.ClassFile.FieldType.int)) ∈ tb := tbm_4 19 rfl rfl
theorem mT_4_20 : (Jvm.Cond.methodLink "HillTapLaw" (88 : Nat) ({ cls := "HillTap", name := "lettings", desc := "()I" } : Jvm.MethodName)) ∈ tb := tbm_4 20 rfl rfl
theorem mT_4_21 : (Jvm.Cond.instanceMethod ({ cls := "HillTap", name := "lettings", desc := "()I" } : Jvm.MethodName)) ∈ tb := tbm_4 21 rfl rfl
theorem mT_4_22 : (Jvm.Cond.selects "HillTap" ({ cls := "HillTap", name := "lettings", desc := "()I" } : Jvm.MethodName) ({ cls := "HillTap", name := "lettings", desc := "()I" } : Jvm.MethodName)) ∈ tb := tbm_4 22 rfl rfl
theorem mT_4_23 : (Jvm.Cond.code ({ cls := "HillTap", name := "lettings", desc := "()I" } : Jvm.MethodName) prog_1_method_18_code (1 : Nat) (Option.some Jvm.ClassFile.FieldType.int)) ∈ tb := tbm_4 23 rfl rfl
theorem mT_4_24 : (Jvm.Cond.methodLink "HillTap" (190 : Nat) ({ cls := "HillTap", name := "countLettings", desc := "()I" } : Jvm.MethodName)) ∈ tb := tbm_4 24 rfl rfl
theorem mT_4_26 : (Jvm.Cond.instanceMethod ({ cls := "HillTap", name := "countLettings", desc := "()I" } : Jvm.MethodName)) ∈ tb := tbm_4 26 rfl rfl
theorem mT_4_27 : (Jvm.Cond.code ({ cls := "HillTap", name := "countLettings", desc := "()I" } : Jvm.MethodName) prog_1_method_58_code (3 : Nat) (Option.some Jvm.ClassFile.FieldType.int)) ∈ tb := tbm_4 27 rfl rfl
theorem mT_4_28 : (Jvm.Cond.methodLink "HillTap" (303 : Nat) ({ cls := "HillTap", name := "isLetting", desc := "(I)Z" } : Jvm.MethodName)) ∈ tb := tbm_4 28 rfl rfl
theorem mT_4_30 : (Jvm.Cond.instanceMethod ({ cls := "HillTap", name := "isLetting", desc := "(I)Z" } : Jvm.MethodName)) ∈ tb := tbm_4 30 rfl rfl
theorem mT_4_31 : (Jvm.Cond.code ({ cls := "HillTap", name := "isLetting", desc := "(I)Z" } : Jvm.MethodName) prog_1_method_57_code (2 : Nat) (Option.some Jvm.ClassFile.FieldType.boolean)) ∈ tb := tbm_4 31 rfl rfl
theorem mT_4_32 : (Jvm.Cond.methodLink "HillTap" (300 : Nat) ({ cls := "HillTap", name := "falls", desc := "(I)Z" } : Jvm.MethodName)) ∈ tb := tbm_4 32 rfl rfl
theorem mT_4_34 : (Jvm.Cond.instanceMethod ({ cls := "HillTap", name := "falls", desc := "(I)Z" } : Jvm.MethodName)) ∈ tb := tbm_4 34 rfl rfl
theorem mT_4_35 : (Jvm.Cond.code ({ cls := "HillTap", name := "falls", desc := "(I)Z" } : Jvm.MethodName) prog_1_method_56_code (3 : Nat) (Option.some Jvm.ClassFile.FieldType.boolean)) ∈ tb := tbm_4 35 rfl rfl
theorem mT_4_36 : (Jvm.Cond.methodLink "HillTapLaw" (92 : Nat) ({ cls := "HillTap", name := "tap", desc := "(I)I" } : Jvm.MethodName)) ∈ tb := tbm_4 36 rfl rfl
theorem mT_4_37 : (Jvm.Cond.instanceMethod ({ cls := "HillTap", name := "tap", desc := "(I)I" } : Jvm.MethodName)) ∈ tb := tbm_4 37 rfl rfl
theorem mT_4_38 : (Jvm.Cond.selects "HillTap" ({ cls := "HillTap", name := "tap", desc := "(I)I" } : Jvm.MethodName) ({ cls := "HillTap", name := "tap", desc := "(I)I" } : Jvm.MethodName)) ∈ tb := tbm_4 38 rfl rfl
theorem mT_4_39 : (Jvm.Cond.code ({ cls := "HillTap", name := "tap", desc := "(I)I" } : Jvm.MethodName) prog_1_method_19_code (2 : Nat) (Option.some Jvm.ClassFile.FieldType.int)) ∈ tb := tbm_4 39 rfl rfl
theorem mT_4_40 : (Jvm.Cond.methodLink "HillTap" (193 : Nat) ({ cls := "HillTap", name := "tapOf", desc := "(I)I" } : Jvm.MethodName)) ∈ tb := tbm_4 40 rfl rfl
theorem mT_4_42 : (Jvm.Cond.instanceMethod ({ cls := "HillTap", name := "tapOf", desc := "(I)I" } : Jvm.MethodName)) ∈ tb := tbm_4 42 rfl rfl
theorem mT_4_43 : (Jvm.Cond.code ({ cls := "HillTap", name := "tapOf", desc := "(I)I" } : Jvm.MethodName) prog_1_method_59_code (5 : Nat) (Option.some Jvm.ClassFile.FieldType.int)) ∈ tb := tbm_4 43 rfl rfl
theorem mT_4_44 : (Jvm.Cond.methodLink "HillTap" (306 : Nat) ({ cls := "HillTap$Course", name := "heldFrom", desc := "(I)Z" } : Jvm.MethodName)) ∈ tb := tbm_4 44 rfl rfl
theorem mT_4_45 : (Jvm.Cond.instanceMethod ({ cls := "HillTap$Course", name := "heldFrom", desc := "(I)Z" } : Jvm.MethodName)) ∈ tb := tbm_4 45 rfl rfl
theorem mT_4_46 : (Jvm.Cond.selects "HillTap$Course" ({ cls := "HillTap$Course", name := "heldFrom", desc := "(I)Z" } : Jvm.MethodName) ({ cls := "HillTap$Course", name := "heldFrom", desc := "(I)Z" } : Jvm.MethodName)) ∈ tb := tbm_4 46 rfl rfl
theorem mT_4_47 : (Jvm.Cond.code ({ cls := "HillTap$Course", name := "heldFrom", desc := "(I)Z" } : Jvm.MethodName) prog_2_method_4_code (3 : Nat) (Option.some Jvm.ClassFile.FieldType.boolean)) ∈ tb := tbm_4 47 rfl rfl
theorem mT_4_48 : (Jvm.Cond.methodLink "HillTap$Course" (57 : Nat) ({ cls := "HillTap$Course", name := "togetherAhead", desc := "(I)I" } : Jvm.MethodName)) ∈ tb := tbm_4 48 rfl rfl
theorem mT_4_49 : (Jvm.Cond.instanceMethod ({ cls := "HillTap$Course", name := "togetherAhead", desc := "(I)I" } : Jvm.MethodName)) ∈ tb := tbm_4 49 rfl rfl
theorem mT_4_50 : (Jvm.Cond.selects "HillTap$Course" ({ cls := "HillTap$Course", name := "togetherAhead", desc := "(I)I" } : Jvm.MethodName) ({ cls := "HillTap$Course", name := "togetherAhead", desc := "(I)I" } : Jvm.MethodName)) ∈ tb := tbm_4 50 rfl rfl
theorem mT_4_51 : (Jvm.Cond.code ({ cls := "HillTap$Course", name := "togetherAhead", desc := "(I)I" } : Jvm.MethodName) prog_2_method_3_code (2 : Nat) (Option.some Jvm.ClassFile.FieldType.int)) ∈ tb := tbm_4 51 rfl rfl
theorem mT_4_52 : (Jvm.Cond.methodLink "HillTapLaw" (96 : Nat) ({ cls := "HillTap", name := "fooled", desc := "(I)I" } : Jvm.MethodName)) ∈ tb := tbm_4 52 rfl rfl
theorem mT_4_53 : (Jvm.Cond.instanceMethod ({ cls := "HillTap", name := "fooled", desc := "(I)I" } : Jvm.MethodName)) ∈ tb := tbm_4 53 rfl rfl
theorem mT_4_54 : (Jvm.Cond.selects "HillTap" ({ cls := "HillTap", name := "fooled", desc := "(I)I" } : Jvm.MethodName) ({ cls := "HillTap", name := "fooled", desc := "(I)I" } : Jvm.MethodName)) ∈ tb := tbm_4 54 rfl rfl
theorem mT_4_55 : (Jvm.Cond.code ({ cls := "HillTap", name := "fooled", desc := "(I)I" } : Jvm.MethodName) prog_1_method_20_code (3 : Nat) (Option.some Jvm.ClassFile.FieldType.int)) ∈ tb := tbm_4 55 rfl rfl
theorem mT_4_56 : (Jvm.Cond.methodLink "HillTapLaw" (100 : Nat) ({ cls := "HillTap", name := "nought", desc := "(III)I" } : Jvm.MethodName)) ∈ tb := tbm_4 56 rfl rfl
theorem mT_4_57 : (Jvm.Cond.instanceMethod ({ cls := "HillTap", name := "nought", desc := "(III)I" } : Jvm.MethodName)) ∈ tb := tbm_4 57 rfl rfl
theorem mT_4_58 : (Jvm.Cond.selects "HillTap" ({ cls := "HillTap", name := "nought", desc := "(III)I" } : Jvm.MethodName) ({ cls := "HillTap", name := "nought", desc := "(III)I" } : Jvm.MethodName)) ∈ tb := tbm_4 58 rfl rfl
theorem mT_4_59 : (Jvm.Cond.code ({ cls := "HillTap", name := "nought", desc := "(III)I" } : Jvm.MethodName) prog_1_method_21_code (7 : Nat) (Option.some Jvm.ClassFile.FieldType.int)) ∈ tb := tbm_4 59 rfl rfl
theorem mT_4_60 : (Jvm.Cond.methodLink "HillTap" (196 : Nat) ({ cls := "HillTap", name := "noughtBy", desc := "(III)I" } : Jvm.MethodName)) ∈ tb := tbm_4 60 rfl rfl
theorem mT_4_61 : (Jvm.Cond.static ({ cls := "HillTap", name := "noughtBy", desc := "(III)I" } : Jvm.MethodName)) ∈ tb := tbm_4 61 rfl rfl
theorem mT_4_62 : (Jvm.Cond.code ({ cls := "HillTap", name := "noughtBy", desc := "(III)I" } : Jvm.MethodName) prog_1_method_60_code (3 : Nat) (Option.some Jvm.ClassFile.FieldType.int)) ∈ tb := tbm_4 62 rfl rfl
theorem mT_4_63 : (Jvm.Cond.methodLink "HillTapLaw" (105 : Nat) ({ cls := "HillTap", name := "span", desc := "(IIIIZ)I" } : Jvm.MethodName)) ∈ tb := tbm_4 63 rfl rfl
theorem mT_4_64 : (Jvm.Cond.instanceMethod ({ cls := "HillTap", name := "span", desc := "(IIIIZ)I" } : Jvm.MethodName)) ∈ tb := tbm_4 64 rfl rfl
theorem mT_4_65 : (Jvm.Cond.selects "HillTap" ({ cls := "HillTap", name := "span", desc := "(IIIIZ)I" } : Jvm.MethodName) ({ cls := "HillTap", name := "span", desc := "(IIIIZ)I" } : Jvm.MethodName)) ∈ tb := tbm_4 65 rfl rfl
theorem mT_4_66 : (Jvm.Cond.code ({ cls := "HillTap", name := "span", desc := "(IIIIZ)I" } : Jvm.MethodName) prog_1_method_22_code (13 : Nat) (Option.some Jvm.ClassFile.FieldType.int)) ∈ tb := tbm_4 66 rfl rfl
theorem mT_4_67 : (Jvm.Cond.methodLink "HillTapLaw" (110 : Nat) ({ cls := "HillTap", name := "helps", desc := "(II)I" } : Jvm.MethodName)) ∈ tb := tbm_4 67 rfl rfl
theorem mT_4_68 : (Jvm.Cond.instanceMethod ({ cls := "HillTap", name := "helps", desc := "(II)I" } : Jvm.MethodName)) ∈ tb := tbm_4 68 rfl rfl
theorem mT_4_69 : (Jvm.Cond.selects "HillTap" ({ cls := "HillTap", name := "helps", desc := "(II)I" } : Jvm.MethodName) ({ cls := "HillTap", name := "helps", desc := "(II)I" } : Jvm.MethodName)) ∈ tb := tbm_4 69 rfl rfl
theorem mT_4_70 : (Jvm.Cond.code ({ cls := "HillTap", name := "helps", desc := "(II)I" } : Jvm.MethodName) prog_1_method_23_code (3 : Nat) (Option.some Jvm.ClassFile.FieldType.int)) ∈ tb := tbm_4 70 rfl rfl
theorem mT_4_71 : (Jvm.Cond.methodLink "HillTap" (200 : Nat) ({ cls := "HillTap", name := "staysIfDownFrom", desc := "(II)Z" } : Jvm.MethodName)) ∈ tb := tbm_4 71 rfl rfl
theorem mT_4_73 : (Jvm.Cond.instanceMethod ({ cls := "HillTap", name := "staysIfDownFrom", desc := "(II)Z" } : Jvm.MethodName)) ∈ tb := tbm_4 73 rfl rfl
theorem mT_4_74 : (Jvm.Cond.code ({ cls := "HillTap", name := "staysIfDownFrom", desc := "(II)Z" } : Jvm.MethodName) prog_1_method_47_code (3 : Nat) (Option.some Jvm.ClassFile.FieldType.boolean)) ∈ tb := tbm_4 74 rfl rfl
theorem mT_4_75 : (Jvm.Cond.methodLink "HillTapLaw" (114 : Nat) ({ cls := "HillTap", name := "last", desc := "(I)I" } : Jvm.MethodName)) ∈ tb := tbm_4 75 rfl rfl
theorem mT_4_76 : (Jvm.Cond.instanceMethod ({ cls := "HillTap", name := "last", desc := "(I)I" } : Jvm.MethodName)) ∈ tb := tbm_4 76 rfl rfl
theorem mT_4_77 : (Jvm.Cond.selects "HillTap" ({ cls := "HillTap", name := "last", desc := "(I)I" } : Jvm.MethodName) ({ cls := "HillTap", name := "last", desc := "(I)I" } : Jvm.MethodName)) ∈ tb := tbm_4 77 rfl rfl
theorem mT_4_78 : (Jvm.Cond.code ({ cls := "HillTap", name := "last", desc := "(I)I" } : Jvm.MethodName) prog_1_method_24_code (6 : Nat) (Option.some Jvm.ClassFile.FieldType.int)) ∈ tb := tbm_4 78 rfl rfl
theorem mT_4_79 : (Jvm.Cond.methodLink "HillTapLaw" (118 : Nat) ({ cls := "HillTap", name := "safe", desc := "(I)I" } : Jvm.MethodName)) ∈ tb := tbm_4 79 rfl rfl
theorem mT_4_80 : (Jvm.Cond.instanceMethod ({ cls := "HillTap", name := "safe", desc := "(I)I" } : Jvm.MethodName)) ∈ tb := tbm_4 80 rfl rfl
theorem mT_4_81 : (Jvm.Cond.selects "HillTap" ({ cls := "HillTap", name := "safe", desc := "(I)I" } : Jvm.MethodName) ({ cls := "HillTap", name := "safe", desc := "(I)I" } : Jvm.MethodName)) ∈ tb := tbm_4 81 rfl rfl
theorem mT_4_82 : (Jvm.Cond.code ({ cls := "HillTap", name := "safe", desc := "(I)I" } : Jvm.MethodName) prog_1_method_25_code (6 : Nat) (Option.some Jvm.ClassFile.FieldType.int)) ∈ tb := tbm_4 82 rfl rfl
theorem mT_4_83 : (Jvm.Cond.methodLink "HillTap" (207 : Nat) ({ cls := "HillTap", name := "staysIfSteady", desc := "(II)Z" } : Jvm.MethodName)) ∈ tb := tbm_4 83 rfl rfl
theorem mT_4_85 : (Jvm.Cond.instanceMethod ({ cls := "HillTap", name := "staysIfSteady", desc := "(II)Z" } : Jvm.MethodName)) ∈ tb := tbm_4 85 rfl rfl
theorem mT_4_86 : (Jvm.Cond.code ({ cls := "HillTap", name := "staysIfSteady", desc := "(II)Z" } : Jvm.MethodName) prog_1_method_48_code (3 : Nat) (Option.some Jvm.ClassFile.FieldType.boolean)) ∈ tb := tbm_4 86 rfl rfl
theorem mT_4_87 : (Jvm.Cond.methodLink "HillTap" (287 : Nat) ({ cls := "HillTap$Lake", name := "fillSteady", desc := "([II)V" } : Jvm.MethodName)) ∈ tb := tbm_4 87 rfl rfl
theorem mT_4_88 : (Jvm.Cond.instanceMethod ({ cls := "HillTap$Lake", name := "fillSteady", desc := "([II)V" } : Jvm.MethodName)) ∈ tb := tbm_4 88 rfl rfl
theorem mT_4_89 : (Jvm.Cond.selects "HillTap$Lake" ({ cls := "HillTap$Lake", name := "fillSteady", desc := "([II)V" } : Jvm.MethodName) ({ cls := "HillTap$Lake", name := "fillSteady", desc := "([II)V" } : Jvm.MethodName)) ∈ tb := tbm_4 89 rfl rfl
theorem mT_4_90 : (Jvm.Cond.code ({ cls := "HillTap$Lake", name := "fillSteady", desc := "([II)V" } : Jvm.MethodName) prog_4_method_7_code (5 : Nat) (Option.none : Option Jvm.ClassFile.FieldType)) ∈ tb := tbm_4 90 rfl rfl
theorem mT_4_91 : (Jvm.Cond.methodLink "HillTapLaw" (122 : Nat) ({ cls := "HillTap", name := "found", desc := "(II)I" } : Jvm.MethodName)) ∈ tb := tbm_4 91 rfl rfl
theorem mT_4_92 : (Jvm.Cond.instanceMethod ({ cls := "HillTap", name := "found", desc := "(II)I" } : Jvm.MethodName)) ∈ tb := tbm_4 92 rfl rfl
theorem mT_4_93 : (Jvm.Cond.selects "HillTap" ({ cls := "HillTap", name := "found", desc := "(II)I" } : Jvm.MethodName) ({ cls := "HillTap", name := "found", desc := "(II)I" } : Jvm.MethodName)) ∈ tb := tbm_4 93 rfl rfl
theorem mT_4_94 : (Jvm.Cond.code ({ cls := "HillTap", name := "found", desc := "(II)I" } : Jvm.MethodName) prog_1_method_26_code (3 : Nat) (Option.some Jvm.ClassFile.FieldType.int)) ∈ tb := tbm_4 94 rfl rfl
theorem mT_4_95 : (Jvm.Cond.methodLink "HillTap" (210 : Nat) ({ cls := "HillTap$Story", name := "findsAt", desc := "(I)I" } : Jvm.MethodName)) ∈ tb := tbm_4 95 rfl rfl
theorem mT_4_96 : (Jvm.Cond.instanceMethod ({ cls := "HillTap$Story", name := "findsAt", desc := "(I)I" } : Jvm.MethodName)) ∈ tb := tbm_4 96 rfl rfl
theorem mT_4_97 : (Jvm.Cond.selects "HillTap$Story" ({ cls := "HillTap$Story", name := "findsAt", desc := "(I)I" } : Jvm.MethodName) ({ cls := "HillTap$Story", name := "findsAt", desc := "(I)I" } : Jvm.MethodName)) ∈ tb := tbm_4 97 rfl rfl
theorem mT_4_98 : (Jvm.Cond.code ({ cls := "HillTap$Story", name := "findsAt", desc := "(I)I" } : Jvm.MethodName) prog_6_method_2_code (2 : Nat) (Option.some Jvm.ClassFile.FieldType.int)) ∈ tb := tbm_4 98 rfl rfl
theorem mT_4_99 : (Jvm.Cond.methodLink "HillTapLaw" (126 : Nat) ({ cls := "HillTap", name := "bore", desc := "()I" } : Jvm.MethodName)) ∈ tb := tbm_4 99 rfl rfl
theorem mT_4_100 : (Jvm.Cond.instanceMethod ({ cls := "HillTap", name := "bore", desc := "()I" } : Jvm.MethodName)) ∈ tb := tbm_4 100 rfl rfl
theorem mT_4_101 : (Jvm.Cond.selects "HillTap" ({ cls := "HillTap", name := "bore", desc := "()I" } : Jvm.MethodName) ({ cls := "HillTap", name := "bore", desc := "()I" } : Jvm.MethodName)) ∈ tb := tbm_4 101 rfl rfl
theorem mT_4_102 : (Jvm.Cond.code ({ cls := "HillTap", name := "bore", desc := "()I" } : Jvm.MethodName) prog_1_method_27_code (5 : Nat) (Option.some Jvm.ClassFile.FieldType.int)) ∈ tb := tbm_4 102 rfl rfl
theorem mT_4_103 : (Jvm.Cond.methodLink "HillTap" (213 : Nat) ({ cls := "HillTap", name := "greatestAlike", desc := "(I)I" } : Jvm.MethodName)) ∈ tb := tbm_4 103 rfl rfl
theorem mT_4_105 : (Jvm.Cond.instanceMethod ({ cls := "HillTap", name := "greatestAlike", desc := "(I)I" } : Jvm.MethodName)) ∈ tb := tbm_4 105 rfl rfl
theorem mT_4_106 : (Jvm.Cond.code ({ cls := "HillTap", name := "greatestAlike", desc := "(I)I" } : Jvm.MethodName) prog_1_method_54_code (4 : Nat) (Option.some Jvm.ClassFile.FieldType.int)) ∈ tb := tbm_4 106 rfl rfl
theorem mT_4_107 : (Jvm.Cond.methodLink "HillTap" (297 : Nat) ({ cls := "HillTap", name := "weightFinding", desc := "(I)I" } : Jvm.MethodName)) ∈ tb := tbm_4 107 rfl rfl
theorem mT_4_109 : (Jvm.Cond.instanceMethod ({ cls := "HillTap", name := "weightFinding", desc := "(I)I" } : Jvm.MethodName)) ∈ tb := tbm_4 109 rfl rfl
theorem mT_4_110 : (Jvm.Cond.code ({ cls := "HillTap", name := "weightFinding", desc := "(I)I" } : Jvm.MethodName) prog_1_method_55_code (4 : Nat) (Option.some Jvm.ClassFile.FieldType.int)) ∈ tb := tbm_4 110 rfl rfl
theorem mT_4_111 : (Jvm.Cond.methodLink "HillTap" (237 : Nat) ({ cls := "java/lang/Math", name := "max", desc := "(II)I" } : Jvm.MethodName)) ∈ tb := tbm_4 111 rfl rfl
theorem mT_4_112 : (Jvm.Cond.methodLink "HillTapLaw" (130 : Nat) ({ cls := "HillTap", name := "struck", desc := "(II)I" } : Jvm.MethodName)) ∈ tb := tbm_4 112 rfl rfl
theorem mT_4_113 : (Jvm.Cond.instanceMethod ({ cls := "HillTap", name := "struck", desc := "(II)I" } : Jvm.MethodName)) ∈ tb := tbm_4 113 rfl rfl
theorem mT_4_114 : (Jvm.Cond.selects "HillTap" ({ cls := "HillTap", name := "struck", desc := "(II)I" } : Jvm.MethodName) ({ cls := "HillTap", name := "struck", desc := "(II)I" } : Jvm.MethodName)) ∈ tb := tbm_4 114 rfl rfl
theorem mT_4_115 : (Jvm.Cond.code ({ cls := "HillTap", name := "struck", desc := "(II)I" } : Jvm.MethodName) prog_1_method_28_code (3 : Nat) (Option.some Jvm.ClassFile.FieldType.int)) ∈ tb := tbm_4 115 rfl rfl
theorem mT_4_116 : (Jvm.Cond.methodLink "HillTap" (216 : Nat) ({ cls := "HillTap", name := "isVillage", desc := "(I)Z" } : Jvm.MethodName)) ∈ tb := tbm_4 116 rfl rfl
theorem mT_4_118 : (Jvm.Cond.instanceMethod ({ cls := "HillTap", name := "isVillage", desc := "(I)Z" } : Jvm.MethodName)) ∈ tb := tbm_4 118 rfl rfl
theorem mT_4_119 : (Jvm.Cond.code ({ cls := "HillTap", name := "isVillage", desc := "(I)Z" } : Jvm.MethodName) prog_1_method_42_code (2 : Nat) (Option.some Jvm.ClassFile.FieldType.boolean)) ∈ tb := tbm_4 119 rfl rfl
theorem mT_4_120 : (Jvm.Cond.methodLink "HillTap" (219 : Nat) ({ cls := "HillTap", name := "strikes", desc := "(II)Z" } : Jvm.MethodName)) ∈ tb := tbm_4 120 rfl rfl
theorem mT_4_122 : (Jvm.Cond.instanceMethod ({ cls := "HillTap", name := "strikes", desc := "(II)Z" } : Jvm.MethodName)) ∈ tb := tbm_4 122 rfl rfl
theorem mT_4_123 : (Jvm.Cond.code ({ cls := "HillTap", name := "strikes", desc := "(II)Z" } : Jvm.MethodName) prog_1_method_53_code (4 : Nat) (Option.some Jvm.ClassFile.FieldType.boolean)) ∈ tb := tbm_4 123 rfl rfl
theorem mT_4_124 : (Jvm.Cond.methodLink "HillTapLaw" (134 : Nat) ({ cls := "HillTap", name := "dead", desc := "(II)I" } : Jvm.MethodName)) ∈ tb := tbm_4 124 rfl rfl
theorem mT_4_125 : (Jvm.Cond.instanceMethod ({ cls := "HillTap", name := "dead", desc := "(II)I" } : Jvm.MethodName)) ∈ tb := tbm_4 125 rfl rfl
theorem mT_4_126 : (Jvm.Cond.selects "HillTap" ({ cls := "HillTap", name := "dead", desc := "(II)I" } : Jvm.MethodName) ({ cls := "HillTap", name := "dead", desc := "(II)I" } : Jvm.MethodName)) ∈ tb := tbm_4 126 rfl rfl
theorem mT_4_127 : (Jvm.Cond.code ({ cls := "HillTap", name := "dead", desc := "(II)I" } : Jvm.MethodName) prog_1_method_29_code (6 : Nat) (Option.some Jvm.ClassFile.FieldType.int)) ∈ tb := tbm_4 127 rfl rfl
theorem mT_4_128 : (Jvm.Cond.methodLink "HillTapLaw" (138 : Nat) ({ cls := "HillTap", name := "tell", desc := "(II)I" } : Jvm.MethodName)) ∈ tb := tbm_4 128 rfl rfl
theorem mT_4_129 : (Jvm.Cond.instanceMethod ({ cls := "HillTap", name := "tell", desc := "(II)I" } : Jvm.MethodName)) ∈ tb := tbm_4 129 rfl rfl
theorem mT_4_130 : (Jvm.Cond.selects "HillTap" ({ cls := "HillTap", name := "tell", desc := "(II)I" } : Jvm.MethodName) ({ cls := "HillTap", name := "tell", desc := "(II)I" } : Jvm.MethodName)) ∈ tb := tbm_4 130 rfl rfl
theorem mT_4_131 : (Jvm.Cond.code ({ cls := "HillTap", name := "tell", desc := "(II)I" } : Jvm.MethodName) prog_1_method_30_code (7 : Nat) (Option.some Jvm.ClassFile.FieldType.int)) ∈ tb := tbm_4 131 rfl rfl
theorem mT_4_132 : (Jvm.Cond.constant "HillTap" (231 : Nat) (999999 : Int32)) ∈ tb := tbm_4 132 rfl rfl
theorem mT_4_133 : (Jvm.Cond.methodLink "HillTap" (232 : Nat) ({ cls := "java/lang/Math", name := "min", desc := "(II)I" } : Jvm.MethodName)) ∈ tb := tbm_4 133 rfl rfl
theorem mT_4_134 : (Jvm.Cond.methodLink "HillTapLaw" (142 : Nat) ({ cls := "HillTap", name := "part", desc := "(III)I" } : Jvm.MethodName)) ∈ tb := tbm_4 134 rfl rfl
theorem mT_4_135 : (Jvm.Cond.instanceMethod ({ cls := "HillTap", name := "part", desc := "(III)I" } : Jvm.MethodName)) ∈ tb := tbm_4 135 rfl rfl
theorem mT_4_136 : (Jvm.Cond.selects "HillTap" ({ cls := "HillTap", name := "part", desc := "(III)I" } : Jvm.MethodName) ({ cls := "HillTap", name := "part", desc := "(III)I" } : Jvm.MethodName)) ∈ tb := tbm_4 136 rfl rfl
theorem mT_4_137 : (Jvm.Cond.code ({ cls := "HillTap", name := "part", desc := "(III)I" } : Jvm.MethodName) prog_1_method_31_code (5 : Nat) (Option.some Jvm.ClassFile.FieldType.int)) ∈ tb := tbm_4 137 rfl rfl
theorem mT_4_138 : (Jvm.Cond.methodLink "HillTapLaw" (146 : Nat) ({ cls := "HillTap", name := "knew", desc := "(I)I" } : Jvm.MethodName)) ∈ tb := tbm_4 138 rfl rfl
theorem mT_4_139 : (Jvm.Cond.instanceMethod ({ cls := "HillTap", name := "knew", desc := "(I)I" } : Jvm.MethodName)) ∈ tb := tbm_4 139 rfl rfl
theorem mT_4_140 : (Jvm.Cond.selects "HillTap" ({ cls := "HillTap", name := "knew", desc := "(I)I" } : Jvm.MethodName) ({ cls := "HillTap", name := "knew", desc := "(I)I" } : Jvm.MethodName)) ∈ tb := tbm_4 140 rfl rfl
theorem mT_4_141 : (Jvm.Cond.code ({ cls := "HillTap", name := "knew", desc := "(I)I" } : Jvm.MethodName) prog_1_method_32_code (2 : Nat) (Option.some Jvm.ClassFile.FieldType.int)) ∈ tb := tbm_4 141 rfl rfl
theorem mT_4_142 : (Jvm.Cond.methodLink "HillTap" (256 : Nat) ({ cls := "HillTap$Readings", name := "firstDayOf", desc := "(II)I" } : Jvm.MethodName)) ∈ tb := tbm_4 142 rfl rfl
theorem mT_4_143 : (Jvm.Cond.instanceMethod ({ cls := "HillTap$Readings", name := "firstDayOf", desc := "(II)I" } : Jvm.MethodName)) ∈ tb := tbm_4 143 rfl rfl
theorem mT_4_144 : (Jvm.Cond.selects "HillTap$Readings" ({ cls := "HillTap$Readings", name := "firstDayOf", desc := "(II)I" } : Jvm.MethodName) ({ cls := "HillTap$Readings", name := "firstDayOf", desc := "(II)I" } : Jvm.MethodName)) ∈ tb := tbm_4 144 rfl rfl
theorem mT_4_145 : (Jvm.Cond.code ({ cls := "HillTap$Readings", name := "firstDayOf", desc := "(II)I" } : Jvm.MethodName) prog_5_method_4_code (5 : Nat) (Option.some Jvm.ClassFile.FieldType.int)) ∈ tb := tbm_4 145 rfl rfl
theorem mT_4_146 : (Jvm.Cond.methodLink "HillTapLaw" (156 : Nat) ({ cls := "HillTap", name := "size", desc := "(I)I" } : Jvm.MethodName)) ∈ tb := tbm_4 146 rfl rfl
theorem mT_4_147 : (Jvm.Cond.instanceMethod ({ cls := "HillTap", name := "size", desc := "(I)I" } : Jvm.MethodName)) ∈ tb := tbm_4 147 rfl rfl
theorem mT_4_148 : (Jvm.Cond.selects "HillTap" ({ cls := "HillTap", name := "size", desc := "(I)I" } : Jvm.MethodName) ({ cls := "HillTap", name := "size", desc := "(I)I" } : Jvm.MethodName)) ∈ tb := tbm_4 148 rfl rfl
theorem mT_4_149 : (Jvm.Cond.code ({ cls := "HillTap", name := "size", desc := "(I)I" } : Jvm.MethodName) prog_1_method_34_code (2 : Nat) (Option.some Jvm.ClassFile.FieldType.int)) ∈ tb := tbm_4 149 rfl rfl
theorem mT_4_150 : (Jvm.Cond.methodLink "HillTapLaw" (160 : Nat) ({ cls := "HillTap", name := "trouble", desc := "()I" } : Jvm.MethodName)) ∈ tb := tbm_4 150 rfl rfl
theorem mT_4_151 : (Jvm.Cond.instanceMethod ({ cls := "HillTap", name := "trouble", desc := "()I" } : Jvm.MethodName)) ∈ tb := tbm_4 151 rfl rfl
theorem mT_4_152 : (Jvm.Cond.selects "HillTap" ({ cls := "HillTap", name := "trouble", desc := "()I" } : Jvm.MethodName) ({ cls := "HillTap", name := "trouble", desc := "()I" } : Jvm.MethodName)) ∈ tb := tbm_4 152 rfl rfl
theorem mT_4_153 : (Jvm.Cond.code ({ cls := "HillTap", name := "trouble", desc := "()I" } : Jvm.MethodName) prog_1_method_35_code (1 : Nat) (Option.some Jvm.ClassFile.FieldType.int)) ∈ tb := tbm_4 153 rfl rfl
theorem mT_4_154 : (Jvm.Cond.methodLink "HillTapLaw" (150 : Nat) ({ cls := "HillTapLaw", name := "led", desc := "(LHillTap;II[J)I" } : Jvm.MethodName)) ∈ tb := tbm_4 154 rfl rfl
theorem mT_4_155 : (Jvm.Cond.static ({ cls := "HillTapLaw", name := "led", desc := "(LHillTap;II[J)I" } : Jvm.MethodName)) ∈ tb := tbm_4 155 rfl rfl
theorem mT_4_158 : (Jvm.Cond.methodLink "HillTapLaw" (7 : Nat) ({ cls := "HillTap", name := "led", desc := "(II)I" } : Jvm.MethodName)) ∈ tb := tbm_4 158 rfl rfl
theorem mT_4_159 : (Jvm.Cond.instanceMethod ({ cls := "HillTap", name := "led", desc := "(II)I" } : Jvm.MethodName)) ∈ tb := tbm_4 159 rfl rfl
theorem mT_4_160 : (Jvm.Cond.selects "HillTap" ({ cls := "HillTap", name := "led", desc := "(II)I" } : Jvm.MethodName) ({ cls := "HillTap", name := "led", desc := "(II)I" } : Jvm.MethodName)) ∈ tb := tbm_4 160 rfl rfl
theorem mT_4_161 : (Jvm.Cond.code ({ cls := "HillTap", name := "led", desc := "(II)I" } : Jvm.MethodName) prog_1_method_33_code (6 : Nat) (Option.some Jvm.ClassFile.FieldType.int)) ∈ tb := tbm_4 161 rfl rfl
theorem mT_4_227 : (Jvm.Cond.methodLink "HillTap" (269 : Nat) ({ cls := "HillTap$Course", name := "togetherAhead", desc := "(I)I" } : Jvm.MethodName)) ∈ tb := tbm_4 227 rfl rfl
theorem mT_4_229 : (Jvm.Cond.classLink "HillTapLaw" (16 : Nat) "HillTapModel") ∈ tb := tbm_4 229 rfl rfl
theorem mT_4_230 : (Jvm.Cond.instantiable "HillTapModel" (26 : Nat)) ∈ tb := tbm_4 230 rfl rfl
theorem mT_4_231 : (Jvm.Cond.methodLink "HillTapLaw" (18 : Nat) ({ cls := "HillTapModel", name := "<init>", desc := "()V" } : Jvm.MethodName)) ∈ tb := tbm_4 231 rfl rfl
theorem mT_4_232 : (Jvm.Cond.instanceMethod ({ cls := "HillTapModel", name := "<init>", desc := "()V" } : Jvm.MethodName)) ∈ tb := tbm_4 232 rfl rfl
theorem mT_4_233 : (Jvm.Cond.code ({ cls := "HillTapModel", name := "<init>", desc := "()V" } : Jvm.MethodName) prog_11_method_1_code (1 : Nat) (Option.none : Option Jvm.ClassFile.FieldType)) ∈ tb := tbm_4 233 rfl rfl
theorem mT_4_234 : (Jvm.Cond.methodLink "HillTapModel" (1 : Nat) ({ cls := "java/lang/Object", name := "<init>", desc := "()V" } : Jvm.MethodName)) ∈ tb := tbm_4 234 rfl rfl
theorem mT_4_235 : (Jvm.Cond.fieldLink "HillTapModel" (46 : Nat) "HillTapModel" "thrown" "I") ∈ tb := tbm_4 235 rfl rfl
theorem mT_4_236 : (Jvm.Cond.fieldLink "HillTapModel" (49 : Nat) "HillTapModel" "trouble" "I") ∈ tb := tbm_4 236 rfl rfl
theorem mT_4_237 : (Jvm.Cond.fieldLink "HillTapModel" (9 : Nat) "HillTapModel" "where" "I") ∈ tb := tbm_4 237 rfl rfl
theorem mT_4_238 : (Jvm.Cond.fieldLink "HillTapModel" (312 : Nat) "HillTapModel" "hill" "LHillTapModel$Hill;") ∈ tb := tbm_4 238 rfl rfl
theorem mT_4_239 : (Jvm.Cond.fieldLink "HillTapModel" (141 : Nat) "HillTapModel" "reading" "LHillTapModel$Hill;") ∈ tb := tbm_4 239 rfl rfl
theorem mT_5_0 : (Jvm.Cond.fieldLink "HillTapModel" (13 : Nat) "HillTapModel" "tape" "[B") ∈ tb := tbm_5 0 rfl rfl
theorem mT_5_1 : (Jvm.Cond.fieldLink "HillTapModel" (302 : Nat) "HillTapModel" "taped" "I") ∈ tb := tbm_5 1 rfl rfl
theorem mT_5_2 : (Jvm.Cond.fieldLink "HillTapModel" (52 : Nat) "HillTapModel" "size" "I") ∈ tb := tbm_5 2 rfl rfl
theorem mT_5_3 : (Jvm.Cond.fieldLink "HillTapModel" (70 : Nat) "HillTapModel" "at" "I") ∈ tb := tbm_5 3 rfl rfl
theorem mT_5_4 : (Jvm.Cond.fieldLink "HillTapModel" (67 : Nat) "HillTapModel" "sort" "I") ∈ tb := tbm_5 4 rfl rfl
theorem mT_5_5 : (Jvm.Cond.fieldLink "HillTapModel" (77 : Nat) "HillTapModel" "place" "I") ∈ tb := tbm_5 5 rfl rfl
theorem mT_5_6 : (Jvm.Cond.fieldLink "HillTapModel" (91 : Nat) "HillTapModel" "number" "I") ∈ tb := tbm_5 6 rfl rfl
theorem mT_5_7 : (Jvm.Cond.fieldLink "HillTapModel" (94 : Nat) "HillTapModel" "fault" "I") ∈ tb := tbm_5 7 rfl rfl
theorem mT_5_8 : (Jvm.Cond.fieldLink "HillTapModel" (97 : Nat) "HillTapModel" "wrongAt" "I") ∈ tb := tbm_5 8 rfl rfl
theorem mT_5_9 : (Jvm.Cond.fieldLink "HillTapModel" (84 : Nat) "HillTapModel" "word" "J") ∈ tb := tbm_5 9 rfl rfl
theorem mT_5_10 : (Jvm.Cond.fieldLink "HillTapModel" (17 : Nat) "HillTapModel" "level" "[I") ∈ tb := tbm_5 10 rfl rfl
theorem mT_5_11 : (Jvm.Cond.fieldLink "HillTapModel" (21 : Nat) "HillTapModel" "speed" "[I") ∈ tb := tbm_5 11 rfl rfl
theorem mT_5_12 : (Jvm.Cond.fieldLink "HillTapModel" (24 : Nat) "HillTapModel" "inches" "[I") ∈ tb := tbm_5 12 rfl rfl
theorem mT_5_13 : (Jvm.Cond.fieldLink "HillTapModel" (27 : Nat) "HillTapModel" "worn" "[I") ∈ tb := tbm_5 13 rfl rfl
theorem mT_5_14 : (Jvm.Cond.fieldLink "HillTapModel" (338 : Nat) "HillTapModel" "gone" "I") ∈ tb := tbm_5 14 rfl rfl
theorem mT_5_15 : (Jvm.Cond.fieldLink "HillTapModel" (315 : Nat) "HillTapModel" "reads" "I") ∈ tb := tbm_5 15 rfl rfl
theorem mT_5_16 : (Jvm.Cond.fieldLink "HillTapModel" (30 : Nat) "HillTapModel" "readPeg" "[I") ∈ tb := tbm_5 16 rfl rfl
theorem mT_5_17 : (Jvm.Cond.fieldLink "HillTapModel" (33 : Nat) "HillTapModel" "readDay" "[I") ∈ tb := tbm_5 17 rfl rfl
theorem mT_5_18 : (Jvm.Cond.fieldLink "HillTapModel" (36 : Nat) "HillTapModel" "readInches" "[I") ∈ tb := tbm_5 18 rfl rfl
theorem mT_5_19 : (Jvm.Cond.fieldLink "HillTapModel" (39 : Nat) "HillTapModel" "readOff" "[I") ∈ tb := tbm_5 19 rfl rfl
theorem mT_5_20 : (Jvm.Cond.fieldLink "HillTapModel" (42 : Nat) "HillTapModel" "isFit" "[Z") ∈ tb := tbm_5 20 rfl rfl
theorem mT_5_74 : (Jvm.Cond.methodLink "HillTapLaw" (23 : Nat) ({ cls := "HillTapModel", name := "feed", desc := "(IIIII)I" } : Jvm.MethodName)) ∈ tb := tbm_5 74 rfl rfl
theorem mT_5_75 : (Jvm.Cond.instanceMethod ({ cls := "HillTapModel", name := "feed", desc := "(IIIII)I" } : Jvm.MethodName)) ∈ tb := tbm_5 75 rfl rfl
theorem mT_5_76 : (Jvm.Cond.selects "HillTapModel" ({ cls := "HillTapModel", name := "feed", desc := "(IIIII)I" } : Jvm.MethodName) ({ cls := "HillTapModel", name := "feed", desc := "(IIIII)I" } : Jvm.MethodName)) ∈ tb := tbm_5 76 rfl rfl
theorem mT_5_77 : (Jvm.Cond.code ({ cls := "HillTapModel", name := "feed", desc := "(IIIII)I" } : Jvm.MethodName) prog_11_method_27_code (8 : Nat) (Option.some Jvm.ClassFile.FieldType.int)) ∈ tb := tbm_5 77 rfl rfl
theorem mT_5_78 : (Jvm.Cond.methodLink "HillTapLaw" (28 : Nat) ({ cls := "HillTapModel", name := "hill", desc := "(I)I" } : Jvm.MethodName)) ∈ tb := tbm_5 78 rfl rfl
theorem mT_5_79 : (Jvm.Cond.instanceMethod ({ cls := "HillTapModel", name := "hill", desc := "(I)I" } : Jvm.MethodName)) ∈ tb := tbm_5 79 rfl rfl
theorem mT_5_80 : (Jvm.Cond.selects "HillTapModel" ({ cls := "HillTapModel", name := "hill", desc := "(I)I" } : Jvm.MethodName) ({ cls := "HillTapModel", name := "hill", desc := "(I)I" } : Jvm.MethodName)) ∈ tb := tbm_5 80 rfl rfl
theorem mT_5_81 : (Jvm.Cond.code ({ cls := "HillTapModel", name := "hill", desc := "(I)I" } : Jvm.MethodName) prog_11_method_28_code (2 : Nat) (Option.some Jvm.ClassFile.FieldType.int)) ∈ tb := tbm_5 81 rfl rfl
theorem mT_5_82 : (Jvm.Cond.methodLink "HillTapModel" (305 : Nat) ({ cls := "HillTapModel", name := "refused", desc := "(I)I" } : Jvm.MethodName)) ∈ tb := tbm_5 82 rfl rfl
theorem mT_5_84 : (Jvm.Cond.instanceMethod ({ cls := "HillTapModel", name := "refused", desc := "(I)I" } : Jvm.MethodName)) ∈ tb := tbm_5 84 rfl rfl
theorem mT_5_85 : (Jvm.Cond.code ({ cls := "HillTapModel", name := "refused", desc := "(I)I" } : Jvm.MethodName) prog_11_method_3_code (2 : Nat) (Option.some Jvm.ClassFile.FieldType.int)) ∈ tb := tbm_5 85 rfl rfl
theorem mT_5_86 : (Jvm.Cond.classLink "HillTapModel" (146 : Nat) "HillTapModel$Hill") ∈ tb := tbm_5 86 rfl rfl
theorem mT_5_87 : (Jvm.Cond.instantiable "HillTapModel$Hill" (28 : Nat)) ∈ tb := tbm_5 87 rfl rfl
theorem mT_5_89 : (Jvm.Cond.instanceMethod ({ cls := "HillTapModel$Hill", name := "<init>", desc := "()V" } : Jvm.MethodName)) ∈ tb := tbm_5 89 rfl rfl
theorem mT_5_90 : (Jvm.Cond.code ({ cls := "HillTapModel$Hill", name := "<init>", desc := "()V" } : Jvm.MethodName) prog_12_method_1_code (1 : Nat) (Option.none : Option Jvm.ClassFile.FieldType)) ∈ tb := tbm_5 90 rfl rfl
theorem mT_5_91 : (Jvm.Cond.methodLink "HillTapModel$Hill" (3 : Nat) ({ cls := "java/lang/Object", name := "<init>", desc := "()V" } : Jvm.MethodName)) ∈ tb := tbm_5 91 rfl rfl
theorem mT_5_92 : (Jvm.Cond.fieldLink "HillTapModel$Hill" (9 : Nat) "HillTapModel$Hill" "stands" "I") ∈ tb := tbm_5 92 rfl rfl
theorem mT_5_103 : (Jvm.Cond.fieldLink "HillTapModel$Hill" (68 : Nat) "HillTapModel$Hill" "names" "I") ∈ tb := tbm_5 103 rfl rfl
theorem mT_5_105 : (Jvm.Cond.fieldLink "HillTapModel$Hill" (15 : Nat) "HillTapModel$Hill" "push" "[I") ∈ tb := tbm_5 105 rfl rfl
theorem mT_5_107 : (Jvm.Cond.fieldLink "HillTapModel$Hill" (19 : Nat) "HillTapModel$Hill" "bed" "[I") ∈ tb := tbm_5 107 rfl rfl
theorem mT_5_109 : (Jvm.Cond.fieldLink "HillTapModel$Hill" (22 : Nat) "HillTapModel$Hill" "fromDay" "[I") ∈ tb := tbm_5 109 rfl rfl
theorem mT_5_111 : (Jvm.Cond.fieldLink "HillTapModel$Hill" (25 : Nat) "HillTapModel$Hill" "fromLevel" "[I") ∈ tb := tbm_5 111 rfl rfl
theorem mT_5_113 : (Jvm.Cond.fieldLink "HillTapModel$Hill" (28 : Nat) "HillTapModel$Hill" "rain" "[I") ∈ tb := tbm_5 113 rfl rfl
theorem mT_5_115 : (Jvm.Cond.fieldLink "HillTapModel$Hill" (31 : Nat) "HillTapModel$Hill" "weighs" "[I") ∈ tb := tbm_5 115 rfl rfl
theorem mT_5_117 : (Jvm.Cond.fieldLink "HillTapModel$Hill" (34 : Nat) "HillTapModel$Hill" "kind" "[I") ∈ tb := tbm_5 117 rfl rfl
theorem mT_5_119 : (Jvm.Cond.fieldLink "HillTapModel$Hill" (37 : Nat) "HillTapModel$Hill" "k" "[I") ∈ tb := tbm_5 119 rfl rfl
theorem mT_5_121 : (Jvm.Cond.fieldLink "HillTapModel$Hill" (40 : Nat) "HillTapModel$Hill" "more" "[I") ∈ tb := tbm_5 121 rfl rfl
theorem mT_5_123 : (Jvm.Cond.fieldLink "HillTapModel$Hill" (43 : Nat) "HillTapModel$Hill" "high" "[I") ∈ tb := tbm_5 123 rfl rfl
theorem mT_5_125 : (Jvm.Cond.fieldLink "HillTapModel$Hill" (46 : Nat) "HillTapModel$Hill" "people" "[I") ∈ tb := tbm_5 125 rfl rfl
theorem mT_5_127 : (Jvm.Cond.fieldLink "HillTapModel$Hill" (49 : Nat) "HillTapModel$Hill" "needs" "[I") ∈ tb := tbm_5 127 rfl rfl
theorem mT_5_129 : (Jvm.Cond.fieldLink "HillTapModel$Hill" (52 : Nat) "HillTapModel$Hill" "knowsPeg" "[I") ∈ tb := tbm_5 129 rfl rfl
theorem mT_5_131 : (Jvm.Cond.fieldLink "HillTapModel$Hill" (55 : Nat) "HillTapModel$Hill" "knowsAt" "[I") ∈ tb := tbm_5 131 rfl rfl
theorem mT_5_133 : (Jvm.Cond.fieldLink "HillTapModel$Hill" (58 : Nat) "HillTapModel$Hill" "name" "[J") ∈ tb := tbm_5 133 rfl rfl
theorem mT_5_135 : (Jvm.Cond.fieldLink "HillTapModel$Hill" (62 : Nat) "HillTapModel$Hill" "nameSort" "[I") ∈ tb := tbm_5 135 rfl rfl
theorem mT_5_137 : (Jvm.Cond.fieldLink "HillTapModel$Hill" (65 : Nat) "HillTapModel$Hill" "nameNumber" "[I") ∈ tb := tbm_5 137 rfl rfl
theorem mT_5_196 : (Jvm.Cond.methodLink "HillTapModel" (112 : Nat) ({ cls := "HillTapModel", name := "goesOn", desc := "()V" } : Jvm.MethodName)) ∈ tb := tbm_5 196 rfl rfl
theorem mT_5_198 : (Jvm.Cond.instanceMethod ({ cls := "HillTapModel", name := "goesOn", desc := "()V" } : Jvm.MethodName)) ∈ tb := tbm_5 198 rfl rfl
theorem mT_5_199 : (Jvm.Cond.code ({ cls := "HillTapModel", name := "goesOn", desc := "()V" } : Jvm.MethodName) prog_11_method_10_code (3 : Nat) (Option.none : Option Jvm.ClassFile.FieldType)) ∈ tb := tbm_5 199 rfl rfl
theorem mT_5_200 : (Jvm.Cond.methodLink "HillTapModel" (73 : Nat) ({ cls := "HillTapModel", name := "byteAt", desc := "(I)I" } : Jvm.MethodName)) ∈ tb := tbm_5 200 rfl rfl
theorem mT_5_202 : (Jvm.Cond.instanceMethod ({ cls := "HillTapModel", name := "byteAt", desc := "(I)I" } : Jvm.MethodName)) ∈ tb := tbm_5 202 rfl rfl
theorem mT_5_203 : (Jvm.Cond.code ({ cls := "HillTapModel", name := "byteAt", desc := "(I)I" } : Jvm.MethodName) prog_11_method_6_code (2 : Nat) (Option.some Jvm.ClassFile.FieldType.int)) ∈ tb := tbm_5 203 rfl rfl
theorem mT_5_204 : (Jvm.Cond.methodLink "HillTapModel" (80 : Nat) ({ cls := "HillTapModel", name := "isLetter", desc := "(I)Z" } : Jvm.MethodName)) ∈ tb := tbm_5 204 rfl rfl
theorem mT_5_205 : (Jvm.Cond.static ({ cls := "HillTapModel", name := "isLetter", desc := "(I)Z" } : Jvm.MethodName)) ∈ tb := tbm_5 205 rfl rfl
theorem mT_5_206 : (Jvm.Cond.code ({ cls := "HillTapModel", name := "isLetter", desc := "(I)Z" } : Jvm.MethodName) prog_11_method_7_code (1 : Nat) (Option.some Jvm.ClassFile.FieldType.boolean)) ∈ tb := tbm_5 206 rfl rfl
theorem mT_5_207 : (Jvm.Cond.constantLong "HillTapModel" (61 : Nat) (32 : Int64)) ∈ tb := tbm_5 207 rfl rfl
theorem mT_5_208 : (Jvm.Cond.methodLink "HillTapModel" (88 : Nat) ({ cls := "HillTapModel", name := "isDigit", desc := "(I)Z" } : Jvm.MethodName)) ∈ tb := tbm_5 208 rfl rfl
theorem mT_5_209 : (Jvm.Cond.static ({ cls := "HillTapModel", name := "isDigit", desc := "(I)Z" } : Jvm.MethodName)) ∈ tb := tbm_5 209 rfl rfl
theorem mT_5_210 : (Jvm.Cond.code ({ cls := "HillTapModel", name := "isDigit", desc := "(I)Z" } : Jvm.MethodName) prog_11_method_8_code (1 : Nat) (Option.some Jvm.ClassFile.FieldType.boolean)) ∈ tb := tbm_5 210 rfl rfl
theorem mT_5_211 : (Jvm.Cond.methodLink "HillTapModel" (309 : Nat) ({ cls := "HillTapModel", name := "readHill", desc := "()V" } : Jvm.MethodName)) ∈ tb := tbm_5 211 rfl rfl
theorem mT_5_213 : (Jvm.Cond.instanceMethod ({ cls := "HillTapModel", name := "readHill", desc := "()V" } : Jvm.MethodName)) ∈ tb := tbm_5 213 rfl rfl
theorem mT_5_214 : (Jvm.Cond.code ({ cls := "HillTapModel", name := "readHill", desc := "()V" } : Jvm.MethodName) prog_11_method_18_code (2 : Nat) (Option.none : Option Jvm.ClassFile.FieldType)) ∈ tb := tbm_5 214 rfl rfl
theorem mT_5_215 : (Jvm.Cond.methodLink "HillTapModel" (164 : Nat) ({ cls := "HillTapModel", name := "readLine", desc := "()V" } : Jvm.MethodName)) ∈ tb := tbm_5 215 rfl rfl
theorem mT_5_217 : (Jvm.Cond.instanceMethod ({ cls := "HillTapModel", name := "readLine", desc := "()V" } : Jvm.MethodName)) ∈ tb := tbm_5 217 rfl rfl
theorem mT_5_218 : (Jvm.Cond.code ({ cls := "HillTapModel", name := "readLine", desc := "()V" } : Jvm.MethodName) prog_11_method_19_code (1 : Nat) (Option.none : Option Jvm.ClassFile.FieldType)) ∈ tb := tbm_5 218 rfl rfl
theorem mT_5_220 : (Jvm.Cond.methodLink "HillTapModel" (115 : Nat) ({ cls := "HillTapModel", name := "isWord", desc := "(Ljava/lang/String;)Z" } : Jvm.MethodName)) ∈ tb := tbm_5 220 rfl rfl
theorem mT_5_222 : (Jvm.Cond.instanceMethod ({ cls := "HillTapModel", name := "isWord", desc := "(Ljava/lang/String;)Z" } : Jvm.MethodName)) ∈ tb := tbm_5 222 rfl rfl
theorem mT_5_223 : (Jvm.Cond.code ({ cls := "HillTapModel", name := "isWord", desc := "(Ljava/lang/String;)Z" } : Jvm.MethodName) prog_11_method_12_code (2 : Nat) (Option.some Jvm.ClassFile.FieldType.boolean)) ∈ tb := tbm_5 223 rfl rfl
theorem mT_5_224 : (Jvm.Cond.methodLink "HillTapModel" (100 : Nat) ({ cls := "HillTapModel", name := "wordOf", desc := "(Ljava/lang/String;)J" } : Jvm.MethodName)) ∈ tb := tbm_5 224 rfl rfl
theorem mT_5_225 : (Jvm.Cond.static ({ cls := "HillTapModel", name := "wordOf", desc := "(Ljava/lang/String;)J" } : Jvm.MethodName)) ∈ tb := tbm_5 225 rfl rfl
theorem mT_5_226 : (Jvm.Cond.code ({ cls := "HillTapModel", name := "wordOf", desc := "(Ljava/lang/String;)J" } : Jvm.MethodName) prog_11_method_9_code (4 : Nat) (Option.some Jvm.ClassFile.FieldType.long)) ∈ tb := tbm_5 226 rfl rfl
theorem mT_5_227 : (Jvm.Cond.methodLink "HillTapModel" (55 : Nat) ({ cls := "java/lang/String", name := "length", desc := "()I" } : Jvm.MethodName)) ∈ tb := tbm_5 227 rfl rfl
theorem mT_5_228 : (Jvm.Cond.methodLink "HillTapModel" (63 : Nat) ({ cls := "java/lang/String", name := "charAt", desc := "(I)C" } : Jvm.MethodName)) ∈ tb := tbm_5 228 rfl rfl
theorem mT_5_229 : (Jvm.Cond.methodLink "HillTapModel" (176 : Nat) ({ cls := "HillTapModel", name := "readLake", desc := "()V" } : Jvm.MethodName)) ∈ tb := tbm_5 229 rfl rfl
theorem mT_5_231 : (Jvm.Cond.instanceMethod ({ cls := "HillTapModel", name := "readLake", desc := "()V" } : Jvm.MethodName)) ∈ tb := tbm_5 231 rfl rfl
theorem mT_5_232 : (Jvm.Cond.code ({ cls := "HillTapModel", name := "readLake", desc := "()V" } : Jvm.MethodName) prog_11_method_20_code (4 : Nat) (Option.none : Option Jvm.ClassFile.FieldType)) ∈ tb := tbm_5 232 rfl rfl
theorem mT_5_233 : (Jvm.Cond.methodLink "HillTapModel" (104 : Nat) ({ cls := "HillTapModel", name := "wrong", desc := "(I)V" } : Jvm.MethodName)) ∈ tb := tbm_5 233 rfl rfl
theorem mT_5_235 : (Jvm.Cond.instanceMethod ({ cls := "HillTapModel", name := "wrong", desc := "(I)V" } : Jvm.MethodName)) ∈ tb := tbm_5 235 rfl rfl
theorem mT_5_236 : (Jvm.Cond.code ({ cls := "HillTapModel", name := "wrong", desc := "(I)V" } : Jvm.MethodName) prog_11_method_11_code (2 : Nat) (Option.none : Option Jvm.ClassFile.FieldType)) ∈ tb := tbm_5 236 rfl rfl
theorem mT_5_238 : (Jvm.Cond.methodLink "HillTapModel" (197 : Nat) ({ cls := "HillTapModel", name := "readPart", desc := "(Ljava/lang/String;II)I" } : Jvm.MethodName)) ∈ tb := tbm_5 238 rfl rfl
theorem mT_6_0 : (Jvm.Cond.instanceMethod ({ cls := "HillTapModel", name := "readPart", desc := "(Ljava/lang/String;II)I" } : Jvm.MethodName)) ∈ tb := tbm_6 0 rfl rfl
theorem mT_6_1 : (Jvm.Cond.code ({ cls := "HillTapModel", name := "readPart", desc := "(Ljava/lang/String;II)I" } : Jvm.MethodName) prog_11_method_14_code (4 : Nat) (Option.some Jvm.ClassFile.FieldType.int)) ∈ tb := tbm_6 1 rfl rfl
theorem mT_6_2 : (Jvm.Cond.methodLink "HillTapModel" (119 : Nat) ({ cls := "HillTapModel", name := "readWhole", desc := "(II)I" } : Jvm.MethodName)) ∈ tb := tbm_6 2 rfl rfl
theorem mT_6_4 : (Jvm.Cond.instanceMethod ({ cls := "HillTapModel", name := "readWhole", desc := "(II)I" } : Jvm.MethodName)) ∈ tb := tbm_6 4 rfl rfl
theorem mT_6_5 : (Jvm.Cond.code ({ cls := "HillTapModel", name := "readWhole", desc := "(II)I" } : Jvm.MethodName) prog_11_method_13_code (4 : Nat) (Option.some Jvm.ClassFile.FieldType.int)) ∈ tb := tbm_6 5 rfl rfl
theorem mT_6_6 : (Jvm.Cond.methodLink "HillTapModel" (108 : Nat) ({ cls := "HillTapModel", name := "in", desc := "(III)Z" } : Jvm.MethodName)) ∈ tb := tbm_6 6 rfl rfl
theorem mT_6_7 : (Jvm.Cond.static ({ cls := "HillTapModel", name := "in", desc := "(III)Z" } : Jvm.MethodName)) ∈ tb := tbm_6 7 rfl rfl
theorem mT_6_8 : (Jvm.Cond.code ({ cls := "HillTapModel", name := "in", desc := "(III)Z" } : Jvm.MethodName) prog_11_method_5_code (3 : Nat) (Option.some Jvm.ClassFile.FieldType.boolean)) ∈ tb := tbm_6 8 rfl rfl
theorem mT_6_12 : (Jvm.Cond.methodLink "HillTapModel" (179 : Nat) ({ cls := "HillTapModel", name := "readPeg", desc := "()V" } : Jvm.MethodName)) ∈ tb := tbm_6 12 rfl rfl
theorem mT_6_14 : (Jvm.Cond.instanceMethod ({ cls := "HillTapModel", name := "readPeg", desc := "()V" } : Jvm.MethodName)) ∈ tb := tbm_6 14 rfl rfl
theorem mT_6_15 : (Jvm.Cond.code ({ cls := "HillTapModel", name := "readPeg", desc := "()V" } : Jvm.MethodName) prog_11_method_21_code (3 : Nat) (Option.none : Option Jvm.ClassFile.FieldType)) ∈ tb := tbm_6 15 rfl rfl
theorem mT_6_16 : (Jvm.Cond.methodLink "HillTapModel" (209 : Nat) ({ cls := "HillTapModel", name := "begins", desc := "(II)V" } : Jvm.MethodName)) ∈ tb := tbm_6 16 rfl rfl
theorem mT_6_18 : (Jvm.Cond.instanceMethod ({ cls := "HillTapModel", name := "begins", desc := "(II)V" } : Jvm.MethodName)) ∈ tb := tbm_6 18 rfl rfl
theorem mT_6_19 : (Jvm.Cond.code ({ cls := "HillTapModel", name := "begins", desc := "(II)V" } : Jvm.MethodName) prog_11_method_16_code (3 : Nat) (Option.none : Option Jvm.ClassFile.FieldType)) ∈ tb := tbm_6 19 rfl rfl
theorem mT_6_20 : (Jvm.Cond.methodLink "HillTapModel" (213 : Nat) ({ cls := "HillTapModel", name := "readFresh", desc := "(II)V" } : Jvm.MethodName)) ∈ tb := tbm_6 20 rfl rfl
theorem mT_6_22 : (Jvm.Cond.instanceMethod ({ cls := "HillTapModel", name := "readFresh", desc := "(II)V" } : Jvm.MethodName)) ∈ tb := tbm_6 22 rfl rfl
theorem mT_6_23 : (Jvm.Cond.code ({ cls := "HillTapModel", name := "readFresh", desc := "(II)V" } : Jvm.MethodName) prog_11_method_17_code (3 : Nat) (Option.none : Option Jvm.ClassFile.FieldType)) ∈ tb := tbm_6 23 rfl rfl
theorem mT_6_24 : (Jvm.Cond.methodLink "HillTapModel" (137 : Nat) ({ cls := "HillTapModel", name := "isName", desc := "()Z" } : Jvm.MethodName)) ∈ tb := tbm_6 24 rfl rfl
theorem mT_6_26 : (Jvm.Cond.instanceMethod ({ cls := "HillTapModel", name := "isName", desc := "()Z" } : Jvm.MethodName)) ∈ tb := tbm_6 26 rfl rfl
theorem mT_6_27 : (Jvm.Cond.code ({ cls := "HillTapModel", name := "isName", desc := "()Z" } : Jvm.MethodName) prog_11_method_15_code (1 : Nat) (Option.some Jvm.ClassFile.FieldType.boolean)) ∈ tb := tbm_6 27 rfl rfl
theorem mT_6_33 : (Jvm.Cond.methodLink "HillTapModel" (145 : Nat) ({ cls := "HillTapModel$Hill", name := "find", desc := "(J)I" } : Jvm.MethodName)) ∈ tb := tbm_6 33 rfl rfl
theorem mT_6_34 : (Jvm.Cond.instanceMethod ({ cls := "HillTapModel$Hill", name := "find", desc := "(J)I" } : Jvm.MethodName)) ∈ tb := tbm_6 34 rfl rfl
theorem mT_6_35 : (Jvm.Cond.selects "HillTapModel$Hill" ({ cls := "HillTapModel$Hill", name := "find", desc := "(J)I" } : Jvm.MethodName) ({ cls := "HillTapModel$Hill", name := "find", desc := "(J)I" } : Jvm.MethodName)) ∈ tb := tbm_6 35 rfl rfl
theorem mT_6_36 : (Jvm.Cond.code ({ cls := "HillTapModel$Hill", name := "find", desc := "(J)I" } : Jvm.MethodName) prog_12_method_2_code (4 : Nat) (Option.some Jvm.ClassFile.FieldType.int)) ∈ tb := tbm_6 36 rfl rfl
theorem mT_6_39 : (Jvm.Cond.methodLink "HillTapModel" (181 : Nat) ({ cls := "HillTapModel", name := "readFrom", desc := "()V" } : Jvm.MethodName)) ∈ tb := tbm_6 39 rfl rfl
theorem mT_6_41 : (Jvm.Cond.instanceMethod ({ cls := "HillTapModel", name := "readFrom", desc := "()V" } : Jvm.MethodName)) ∈ tb := tbm_6 41 rfl rfl
theorem mT_6_42 : (Jvm.Cond.code ({ cls := "HillTapModel", name := "readFrom", desc := "()V" } : Jvm.MethodName) prog_11_method_22_code (3 : Nat) (Option.none : Option Jvm.ClassFile.FieldType)) ∈ tb := tbm_6 42 rfl rfl
theorem mT_6_44 : (Jvm.Cond.methodLink "HillTapModel" (184 : Nat) ({ cls := "HillTapModel", name := "readRain", desc := "()V" } : Jvm.MethodName)) ∈ tb := tbm_6 44 rfl rfl
theorem mT_6_46 : (Jvm.Cond.instanceMethod ({ cls := "HillTapModel", name := "readRain", desc := "()V" } : Jvm.MethodName)) ∈ tb := tbm_6 46 rfl rfl
theorem mT_6_47 : (Jvm.Cond.code ({ cls := "HillTapModel", name := "readRain", desc := "()V" } : Jvm.MethodName) prog_11_method_23_code (3 : Nat) (Option.none : Option Jvm.ClassFile.FieldType)) ∈ tb := tbm_6 47 rfl rfl
theorem mT_6_49 : (Jvm.Cond.methodLink "HillTapModel" (187 : Nat) ({ cls := "HillTapModel", name := "readStory", desc := "()V" } : Jvm.MethodName)) ∈ tb := tbm_6 49 rfl rfl
theorem mT_6_51 : (Jvm.Cond.instanceMethod ({ cls := "HillTapModel", name := "readStory", desc := "()V" } : Jvm.MethodName)) ∈ tb := tbm_6 51 rfl rfl
theorem mT_6_52 : (Jvm.Cond.code ({ cls := "HillTapModel", name := "readStory", desc := "()V" } : Jvm.MethodName) prog_11_method_24_code (5 : Nat) (Option.none : Option Jvm.ClassFile.FieldType)) ∈ tb := tbm_6 52 rfl rfl
theorem mT_6_63 : (Jvm.Cond.methodLink "HillTapModel" (190 : Nat) ({ cls := "HillTapModel", name := "readVillage", desc := "()V" } : Jvm.MethodName)) ∈ tb := tbm_6 63 rfl rfl
theorem mT_6_65 : (Jvm.Cond.instanceMethod ({ cls := "HillTapModel", name := "readVillage", desc := "()V" } : Jvm.MethodName)) ∈ tb := tbm_6 65 rfl rfl
theorem mT_6_66 : (Jvm.Cond.code ({ cls := "HillTapModel", name := "readVillage", desc := "()V" } : Jvm.MethodName) prog_11_method_25_code (4 : Nat) (Option.none : Option Jvm.ClassFile.FieldType)) ∈ tb := tbm_6 66 rfl rfl
theorem mT_6_70 : (Jvm.Cond.methodLink "HillTapModel" (193 : Nat) ({ cls := "HillTapModel", name := "readKnower", desc := "()V" } : Jvm.MethodName)) ∈ tb := tbm_6 70 rfl rfl
theorem mT_6_72 : (Jvm.Cond.instanceMethod ({ cls := "HillTapModel", name := "readKnower", desc := "()V" } : Jvm.MethodName)) ∈ tb := tbm_6 72 rfl rfl
theorem mT_6_73 : (Jvm.Cond.code ({ cls := "HillTapModel", name := "readKnower", desc := "()V" } : Jvm.MethodName) prog_11_method_26_code (3 : Nat) (Option.none : Option Jvm.ClassFile.FieldType)) ∈ tb := tbm_6 73 rfl rfl
theorem mT_6_76 : (Jvm.Cond.methodLink "HillTapModel" (317 : Nat) ({ cls := "HillTapModel", name := "done", desc := "(I)I" } : Jvm.MethodName)) ∈ tb := tbm_6 76 rfl rfl
theorem mT_6_78 : (Jvm.Cond.instanceMethod ({ cls := "HillTapModel", name := "done", desc := "(I)I" } : Jvm.MethodName)) ∈ tb := tbm_6 78 rfl rfl
theorem mT_6_79 : (Jvm.Cond.code ({ cls := "HillTapModel", name := "done", desc := "(I)I" } : Jvm.MethodName) prog_11_method_4_code (2 : Nat) (Option.some Jvm.ClassFile.FieldType.int)) ∈ tb := tbm_6 79 rfl rfl
theorem mT_6_80 : (Jvm.Cond.methodLink "HillTapLaw" (33 : Nat) ({ cls := "HillTapModel", name := "fault", desc := "()I" } : Jvm.MethodName)) ∈ tb := tbm_6 80 rfl rfl
theorem mT_6_81 : (Jvm.Cond.instanceMethod ({ cls := "HillTapModel", name := "fault", desc := "()I" } : Jvm.MethodName)) ∈ tb := tbm_6 81 rfl rfl
theorem mT_6_82 : (Jvm.Cond.selects "HillTapModel" ({ cls := "HillTapModel", name := "fault", desc := "()I" } : Jvm.MethodName) ({ cls := "HillTapModel", name := "fault", desc := "()I" } : Jvm.MethodName)) ∈ tb := tbm_6 82 rfl rfl
theorem mT_6_83 : (Jvm.Cond.code ({ cls := "HillTapModel", name := "fault", desc := "()I" } : Jvm.MethodName) prog_11_method_29_code (1 : Nat) (Option.some Jvm.ClassFile.FieldType.int)) ∈ tb := tbm_6 83 rfl rfl
theorem mT_6_84 : (Jvm.Cond.methodLink "HillTapLaw" (37 : Nat) ({ cls := "HillTapModel", name := "where", desc := "()I" } : Jvm.MethodName)) ∈ tb := tbm_6 84 rfl rfl
theorem mT_6_85 : (Jvm.Cond.instanceMethod ({ cls := "HillTapModel", name := "where", desc := "()I" } : Jvm.MethodName)) ∈ tb := tbm_6 85 rfl rfl
theorem mT_6_86 : (Jvm.Cond.selects "HillTapModel" ({ cls := "HillTapModel", name := "where", desc := "()I" } : Jvm.MethodName) ({ cls := "HillTapModel", name := "where", desc := "()I" } : Jvm.MethodName)) ∈ tb := tbm_6 86 rfl rfl
theorem mT_6_87 : (Jvm.Cond.code ({ cls := "HillTapModel", name := "where", desc := "()I" } : Jvm.MethodName) prog_11_method_30_code (1 : Nat) (Option.some Jvm.ClassFile.FieldType.int)) ∈ tb := tbm_6 87 rfl rfl
theorem mT_6_88 : (Jvm.Cond.methodLink "HillTapLaw" (41 : Nat) ({ cls := "HillTapModel", name := "level", desc := "(I)I" } : Jvm.MethodName)) ∈ tb := tbm_6 88 rfl rfl
theorem mT_6_89 : (Jvm.Cond.instanceMethod ({ cls := "HillTapModel", name := "level", desc := "(I)I" } : Jvm.MethodName)) ∈ tb := tbm_6 89 rfl rfl
theorem mT_6_90 : (Jvm.Cond.selects "HillTapModel" ({ cls := "HillTapModel", name := "level", desc := "(I)I" } : Jvm.MethodName) ({ cls := "HillTapModel", name := "level", desc := "(I)I" } : Jvm.MethodName)) ∈ tb := tbm_6 90 rfl rfl
theorem mT_6_91 : (Jvm.Cond.code ({ cls := "HillTapModel", name := "level", desc := "(I)I" } : Jvm.MethodName) prog_11_method_38_code (2 : Nat) (Option.some Jvm.ClassFile.FieldType.int)) ∈ tb := tbm_6 91 rfl rfl
theorem mT_6_92 : (Jvm.Cond.methodLink "HillTapModel" (323 : Nat) ({ cls := "HillTapModel", name := "isDay", desc := "(I)Z" } : Jvm.MethodName)) ∈ tb := tbm_6 92 rfl rfl
theorem mT_6_94 : (Jvm.Cond.instanceMethod ({ cls := "HillTapModel", name := "isDay", desc := "(I)Z" } : Jvm.MethodName)) ∈ tb := tbm_6 94 rfl rfl
theorem mT_6_95 : (Jvm.Cond.code ({ cls := "HillTapModel", name := "isDay", desc := "(I)Z" } : Jvm.MethodName) prog_11_method_34_code (2 : Nat) (Option.some Jvm.ClassFile.FieldType.boolean)) ∈ tb := tbm_6 95 rfl rfl
theorem mT_6_96 : (Jvm.Cond.methodLink "HillTapModel" (326 : Nat) ({ cls := "HillTapModel", name := "fills", desc := "(II)V" } : Jvm.MethodName)) ∈ tb := tbm_6 96 rfl rfl
theorem mT_6_98 : (Jvm.Cond.instanceMethod ({ cls := "HillTapModel", name := "fills", desc := "(II)V" } : Jvm.MethodName)) ∈ tb := tbm_6 98 rfl rfl
theorem mT_6_99 : (Jvm.Cond.code ({ cls := "HillTapModel", name := "fills", desc := "(II)V" } : Jvm.MethodName) prog_11_method_32_code (7 : Nat) (Option.none : Option Jvm.ClassFile.FieldType)) ∈ tb := tbm_6 99 rfl rfl
theorem mT_6_100 : (Jvm.Cond.methodLink "HillTapModel" (320 : Nat) ({ cls := "HillTapModel", name := "goalOf", desc := "(I)I" } : Jvm.MethodName)) ∈ tb := tbm_6 100 rfl rfl
theorem mT_6_102 : (Jvm.Cond.instanceMethod ({ cls := "HillTapModel", name := "goalOf", desc := "(I)I" } : Jvm.MethodName)) ∈ tb := tbm_6 102 rfl rfl
theorem mT_6_103 : (Jvm.Cond.code ({ cls := "HillTapModel", name := "goalOf", desc := "(I)I" } : Jvm.MethodName) prog_11_method_31_code (4 : Nat) (Option.some Jvm.ClassFile.FieldType.int)) ∈ tb := tbm_6 103 rfl rfl
theorem mT_6_104 : (Jvm.Cond.methodLink "HillTapLaw" (45 : Nat) ({ cls := "HillTapModel", name := "plan", desc := "(II)I" } : Jvm.MethodName)) ∈ tb := tbm_6 104 rfl rfl
theorem mT_6_105 : (Jvm.Cond.instanceMethod ({ cls := "HillTapModel", name := "plan", desc := "(II)I" } : Jvm.MethodName)) ∈ tb := tbm_6 105 rfl rfl
theorem mT_6_106 : (Jvm.Cond.selects "HillTapModel" ({ cls := "HillTapModel", name := "plan", desc := "(II)I" } : Jvm.MethodName) ({ cls := "HillTapModel", name := "plan", desc := "(II)I" } : Jvm.MethodName)) ∈ tb := tbm_6 106 rfl rfl
theorem mT_6_107 : (Jvm.Cond.code ({ cls := "HillTapModel", name := "plan", desc := "(II)I" } : Jvm.MethodName) prog_11_method_39_code (3 : Nat) (Option.some Jvm.ClassFile.FieldType.int)) ∈ tb := tbm_6 107 rfl rfl
theorem mT_6_108 : (Jvm.Cond.methodLink "HillTapLaw" (50 : Nat) ({ cls := "HillTapModel", name := "undo", desc := "()Z" } : Jvm.MethodName)) ∈ tb := tbm_6 108 rfl rfl
theorem mT_6_109 : (Jvm.Cond.instanceMethod ({ cls := "HillTapModel", name := "undo", desc := "()Z" } : Jvm.MethodName)) ∈ tb := tbm_6 109 rfl rfl
theorem mT_6_110 : (Jvm.Cond.selects "HillTapModel" ({ cls := "HillTapModel", name := "undo", desc := "()Z" } : Jvm.MethodName) ({ cls := "HillTapModel", name := "undo", desc := "()Z" } : Jvm.MethodName)) ∈ tb := tbm_6 110 rfl rfl
theorem mT_6_111 : (Jvm.Cond.code ({ cls := "HillTapModel", name := "undo", desc := "()Z" } : Jvm.MethodName) prog_11_method_40_code (1 : Nat) (Option.some Jvm.ClassFile.FieldType.boolean)) ∈ tb := tbm_6 111 rfl rfl
theorem mT_6_112 : (Jvm.Cond.methodLink "HillTapLaw" (55 : Nat) ({ cls := "HillTapModel", name := "peg", desc := "(IIII)I" } : Jvm.MethodName)) ∈ tb := tbm_6 112 rfl rfl
theorem mT_6_113 : (Jvm.Cond.instanceMethod ({ cls := "HillTapModel", name := "peg", desc := "(IIII)I" } : Jvm.MethodName)) ∈ tb := tbm_6 113 rfl rfl
theorem mT_6_114 : (Jvm.Cond.selects "HillTapModel" ({ cls := "HillTapModel", name := "peg", desc := "(IIII)I" } : Jvm.MethodName) ({ cls := "HillTapModel", name := "peg", desc := "(IIII)I" } : Jvm.MethodName)) ∈ tb := tbm_6 114 rfl rfl
theorem mT_6_115 : (Jvm.Cond.code ({ cls := "HillTapModel", name := "peg", desc := "(IIII)I" } : Jvm.MethodName) prog_11_method_49_code (6 : Nat) (Option.some Jvm.ClassFile.FieldType.int)) ∈ tb := tbm_6 115 rfl rfl
theorem mT_6_116 : (Jvm.Cond.methodLink "HillTapModel" (353 : Nat) ({ cls := "HillTapModel", name := "isStory", desc := "(I)Z" } : Jvm.MethodName)) ∈ tb := tbm_6 116 rfl rfl
theorem mT_6_118 : (Jvm.Cond.instanceMethod ({ cls := "HillTapModel", name := "isStory", desc := "(I)Z" } : Jvm.MethodName)) ∈ tb := tbm_6 118 rfl rfl
theorem mT_6_119 : (Jvm.Cond.code ({ cls := "HillTapModel", name := "isStory", desc := "(I)Z" } : Jvm.MethodName) prog_11_method_36_code (2 : Nat) (Option.some Jvm.ClassFile.FieldType.boolean)) ∈ tb := tbm_6 119 rfl rfl
theorem mT_6_120 : (Jvm.Cond.methodLink "HillTapModel" (356 : Nat) ({ cls := "HillTapModel", name := "isPeg", desc := "(I)Z" } : Jvm.MethodName)) ∈ tb := tbm_6 120 rfl rfl
theorem mT_6_122 : (Jvm.Cond.instanceMethod ({ cls := "HillTapModel", name := "isPeg", desc := "(I)Z" } : Jvm.MethodName)) ∈ tb := tbm_6 122 rfl rfl
theorem mT_6_123 : (Jvm.Cond.code ({ cls := "HillTapModel", name := "isPeg", desc := "(I)Z" } : Jvm.MethodName) prog_11_method_35_code (2 : Nat) (Option.some Jvm.ClassFile.FieldType.boolean)) ∈ tb := tbm_6 123 rfl rfl
theorem mT_6_124 : (Jvm.Cond.methodLink "HillTapModel" (359 : Nat) ({ cls := "HillTapModel", name := "runsAsTold", desc := "(I)V" } : Jvm.MethodName)) ∈ tb := tbm_6 124 rfl rfl
theorem mT_6_126 : (Jvm.Cond.instanceMethod ({ cls := "HillTapModel", name := "runsAsTold", desc := "(I)V" } : Jvm.MethodName)) ∈ tb := tbm_6 126 rfl rfl
theorem mT_6_127 : (Jvm.Cond.code ({ cls := "HillTapModel", name := "runsAsTold", desc := "(I)V" } : Jvm.MethodName) prog_11_method_47_code (2 : Nat) (Option.none : Option Jvm.ClassFile.FieldType)) ∈ tb := tbm_6 127 rfl rfl
theorem mT_6_128 : (Jvm.Cond.methodLink "HillTapModel" (349 : Nat) ({ cls := "HillTapModel", name := "runs", desc := "(IZ)V" } : Jvm.MethodName)) ∈ tb := tbm_6 128 rfl rfl
theorem mT_6_130 : (Jvm.Cond.instanceMethod ({ cls := "HillTapModel", name := "runs", desc := "(IZ)V" } : Jvm.MethodName)) ∈ tb := tbm_6 130 rfl rfl
theorem mT_6_131 : (Jvm.Cond.code ({ cls := "HillTapModel", name := "runs", desc := "(IZ)V" } : Jvm.MethodName) prog_11_method_45_code (9 : Nat) (Option.none : Option Jvm.ClassFile.FieldType)) ∈ tb := tbm_6 131 rfl rfl
theorem mT_6_132 : (Jvm.Cond.methodLink "HillTapModel" (341 : Nat) ({ cls := "HillTapModel", name := "addOf", desc := "(IIZ)I" } : Jvm.MethodName)) ∈ tb := tbm_6 132 rfl rfl
theorem mT_6_134 : (Jvm.Cond.instanceMethod ({ cls := "HillTapModel", name := "addOf", desc := "(IIZ)I" } : Jvm.MethodName)) ∈ tb := tbm_6 134 rfl rfl
theorem mT_6_135 : (Jvm.Cond.code ({ cls := "HillTapModel", name := "addOf", desc := "(IIZ)I" } : Jvm.MethodName) prog_11_method_41_code (5 : Nat) (Option.some Jvm.ClassFile.FieldType.int)) ∈ tb := tbm_6 135 rfl rfl
theorem mT_6_136 : (Jvm.Cond.methodLink "HillTapModel" (329 : Nat) ({ cls := "HillTapModel", name := "newOf", desc := "(II)I" } : Jvm.MethodName)) ∈ tb := tbm_6 136 rfl rfl
theorem mT_6_138 : (Jvm.Cond.instanceMethod ({ cls := "HillTapModel", name := "newOf", desc := "(II)I" } : Jvm.MethodName)) ∈ tb := tbm_6 138 rfl rfl
theorem mT_6_139 : (Jvm.Cond.code ({ cls := "HillTapModel", name := "newOf", desc := "(II)I" } : Jvm.MethodName) prog_11_method_42_code (5 : Nat) (Option.some Jvm.ClassFile.FieldType.int)) ∈ tb := tbm_6 139 rfl rfl
theorem mT_6_140 : (Jvm.Cond.methodLink "HillTapModel" (332 : Nat) ({ cls := "HillTapModel", name := "meanOf", desc := "(II)I" } : Jvm.MethodName)) ∈ tb := tbm_6 140 rfl rfl
theorem mT_6_142 : (Jvm.Cond.instanceMethod ({ cls := "HillTapModel", name := "meanOf", desc := "(II)I" } : Jvm.MethodName)) ∈ tb := tbm_6 142 rfl rfl
theorem mT_6_143 : (Jvm.Cond.code ({ cls := "HillTapModel", name := "meanOf", desc := "(II)I" } : Jvm.MethodName) prog_11_method_43_code (6 : Nat) (Option.some Jvm.ClassFile.FieldType.int)) ∈ tb := tbm_6 143 rfl rfl
theorem mT_6_144 : (Jvm.Cond.methodLink "HillTapModel" (335 : Nat) ({ cls := "HillTapModel", name := "rainOf", desc := "(I)I" } : Jvm.MethodName)) ∈ tb := tbm_6 144 rfl rfl
theorem mT_6_146 : (Jvm.Cond.instanceMethod ({ cls := "HillTapModel", name := "rainOf", desc := "(I)I" } : Jvm.MethodName)) ∈ tb := tbm_6 146 rfl rfl
theorem mT_6_147 : (Jvm.Cond.code ({ cls := "HillTapModel", name := "rainOf", desc := "(I)I" } : Jvm.MethodName) prog_11_method_44_code (4 : Nat) (Option.some Jvm.ClassFile.FieldType.int)) ∈ tb := tbm_6 147 rfl rfl
theorem mT_6_148 : (Jvm.Cond.methodLink "HillTapModel" (345 : Nat) ({ cls := "HillTapModel", name := "speedOf", desc := "(IIII)I" } : Jvm.MethodName)) ∈ tb := tbm_6 148 rfl rfl
theorem mT_6_150 : (Jvm.Cond.instanceMethod ({ cls := "HillTapModel", name := "speedOf", desc := "(IIII)I" } : Jvm.MethodName)) ∈ tb := tbm_6 150 rfl rfl
theorem mT_6_151 : (Jvm.Cond.code ({ cls := "HillTapModel", name := "speedOf", desc := "(IIII)I" } : Jvm.MethodName) prog_11_method_46_code (8 : Nat) (Option.some Jvm.ClassFile.FieldType.int)) ∈ tb := tbm_6 151 rfl rfl
theorem mT_6_152 : (Jvm.Cond.methodLink "HillTapLaw" (59 : Nat) ({ cls := "HillTapModel", name := "gone", desc := "(I)I" } : Jvm.MethodName)) ∈ tb := tbm_6 152 rfl rfl
theorem mT_6_153 : (Jvm.Cond.instanceMethod ({ cls := "HillTapModel", name := "gone", desc := "(I)I" } : Jvm.MethodName)) ∈ tb := tbm_6 153 rfl rfl
theorem mT_6_154 : (Jvm.Cond.selects "HillTapModel" ({ cls := "HillTapModel", name := "gone", desc := "(I)I" } : Jvm.MethodName) ({ cls := "HillTapModel", name := "gone", desc := "(I)I" } : Jvm.MethodName)) ∈ tb := tbm_6 154 rfl rfl
theorem mT_6_155 : (Jvm.Cond.code ({ cls := "HillTapModel", name := "gone", desc := "(I)I" } : Jvm.MethodName) prog_11_method_50_code (2 : Nat) (Option.some Jvm.ClassFile.FieldType.int)) ∈ tb := tbm_6 155 rfl rfl
theorem mT_6_156 : (Jvm.Cond.methodLink "HillTapLaw" (63 : Nat) ({ cls := "HillTapModel", name := "wave", desc := "(I)I" } : Jvm.MethodName)) ∈ tb := tbm_6 156 rfl rfl
theorem mT_6_157 : (Jvm.Cond.instanceMethod ({ cls := "HillTapModel", name := "wave", desc := "(I)I" } : Jvm.MethodName)) ∈ tb := tbm_6 157 rfl rfl
theorem mT_6_158 : (Jvm.Cond.selects "HillTapModel" ({ cls := "HillTapModel", name := "wave", desc := "(I)I" } : Jvm.MethodName) ({ cls := "HillTapModel", name := "wave", desc := "(I)I" } : Jvm.MethodName)) ∈ tb := tbm_6 158 rfl rfl
theorem mT_6_159 : (Jvm.Cond.code ({ cls := "HillTapModel", name := "wave", desc := "(I)I" } : Jvm.MethodName) prog_11_method_52_code (2 : Nat) (Option.some Jvm.ClassFile.FieldType.int)) ∈ tb := tbm_6 159 rfl rfl
theorem mT_6_160 : (Jvm.Cond.methodLink "HillTapModel" (365 : Nat) ({ cls := "HillTapModel", name := "waveOf", desc := "()I" } : Jvm.MethodName)) ∈ tb := tbm_6 160 rfl rfl
theorem mT_6_162 : (Jvm.Cond.instanceMethod ({ cls := "HillTapModel", name := "waveOf", desc := "()I" } : Jvm.MethodName)) ∈ tb := tbm_6 162 rfl rfl
theorem mT_6_163 : (Jvm.Cond.code ({ cls := "HillTapModel", name := "waveOf", desc := "()I" } : Jvm.MethodName) prog_11_method_51_code (1 : Nat) (Option.some Jvm.ClassFile.FieldType.int)) ∈ tb := tbm_6 163 rfl rfl
theorem mT_6_164 : (Jvm.Cond.methodLink "HillTapModel" (362 : Nat) ({ cls := "HillTapModel", name := "speeds", desc := "(I)I" } : Jvm.MethodName)) ∈ tb := tbm_6 164 rfl rfl
theorem mT_6_166 : (Jvm.Cond.instanceMethod ({ cls := "HillTapModel", name := "speeds", desc := "(I)I" } : Jvm.MethodName)) ∈ tb := tbm_6 166 rfl rfl
theorem mT_6_167 : (Jvm.Cond.code ({ cls := "HillTapModel", name := "speeds", desc := "(I)I" } : Jvm.MethodName) prog_11_method_48_code (4 : Nat) (Option.some Jvm.ClassFile.FieldType.int)) ∈ tb := tbm_6 167 rfl rfl
theorem mT_6_168 : (Jvm.Cond.methodLink "HillTapLaw" (67 : Nat) ({ cls := "HillTapModel", name := "read", desc := "(IIII)I" } : Jvm.MethodName)) ∈ tb := tbm_6 168 rfl rfl
theorem mT_6_169 : (Jvm.Cond.instanceMethod ({ cls := "HillTapModel", name := "read", desc := "(IIII)I" } : Jvm.MethodName)) ∈ tb := tbm_6 169 rfl rfl
theorem mT_6_170 : (Jvm.Cond.selects "HillTapModel" ({ cls := "HillTapModel", name := "read", desc := "(IIII)I" } : Jvm.MethodName) ({ cls := "HillTapModel", name := "read", desc := "(IIII)I" } : Jvm.MethodName)) ∈ tb := tbm_6 170 rfl rfl
theorem mT_6_171 : (Jvm.Cond.code ({ cls := "HillTapModel", name := "read", desc := "(IIII)I" } : Jvm.MethodName) prog_11_method_53_code (5 : Nat) (Option.some Jvm.ClassFile.FieldType.int)) ∈ tb := tbm_6 171 rfl rfl
theorem mT_6_172 : (Jvm.Cond.constant "HillTapModel" (368 : Nat) (99999 : Int32)) ∈ tb := tbm_6 172 rfl rfl
theorem mT_6_173 : (Jvm.Cond.methodLink "HillTapLaw" (71 : Nat) ({ cls := "HillTapModel", name := "forget", desc := "()I" } : Jvm.MethodName)) ∈ tb := tbm_6 173 rfl rfl
theorem mT_6_174 : (Jvm.Cond.instanceMethod ({ cls := "HillTapModel", name := "forget", desc := "()I" } : Jvm.MethodName)) ∈ tb := tbm_6 174 rfl rfl
theorem mT_6_175 : (Jvm.Cond.selects "HillTapModel" ({ cls := "HillTapModel", name := "forget", desc := "()I" } : Jvm.MethodName) ({ cls := "HillTapModel", name := "forget", desc := "()I" } : Jvm.MethodName)) ∈ tb := tbm_6 175 rfl rfl
theorem mT_6_176 : (Jvm.Cond.code ({ cls := "HillTapModel", name := "forget", desc := "()I" } : Jvm.MethodName) prog_11_method_54_code (2 : Nat) (Option.some Jvm.ClassFile.FieldType.int)) ∈ tb := tbm_6 176 rfl rfl
theorem mT_6_177 : (Jvm.Cond.methodLink "HillTapLaw" (75 : Nat) ({ cls := "HillTapModel", name := "fits", desc := "()I" } : Jvm.MethodName)) ∈ tb := tbm_6 177 rfl rfl
theorem mT_6_178 : (Jvm.Cond.instanceMethod ({ cls := "HillTapModel", name := "fits", desc := "()I" } : Jvm.MethodName)) ∈ tb := tbm_6 178 rfl rfl
theorem mT_6_179 : (Jvm.Cond.selects "HillTapModel" ({ cls := "HillTapModel", name := "fits", desc := "()I" } : Jvm.MethodName) ({ cls := "HillTapModel", name := "fits", desc := "()I" } : Jvm.MethodName)) ∈ tb := tbm_6 179 rfl rfl
theorem mT_6_180 : (Jvm.Cond.code ({ cls := "HillTapModel", name := "fits", desc := "()I" } : Jvm.MethodName) prog_11_method_58_code (1 : Nat) (Option.some Jvm.ClassFile.FieldType.int)) ∈ tb := tbm_6 180 rfl rfl
theorem mT_6_181 : (Jvm.Cond.methodLink "HillTapModel" (373 : Nat) ({ cls := "HillTapModel", name := "fitsUpTo", desc := "(I)I" } : Jvm.MethodName)) ∈ tb := tbm_6 181 rfl rfl
theorem mT_6_183 : (Jvm.Cond.instanceMethod ({ cls := "HillTapModel", name := "fitsUpTo", desc := "(I)I" } : Jvm.MethodName)) ∈ tb := tbm_6 183 rfl rfl
theorem mT_6_184 : (Jvm.Cond.code ({ cls := "HillTapModel", name := "fitsUpTo", desc := "(I)I" } : Jvm.MethodName) prog_11_method_57_code (4 : Nat) (Option.some Jvm.ClassFile.FieldType.int)) ∈ tb := tbm_6 184 rfl rfl
theorem mT_6_185 : (Jvm.Cond.methodLink "HillTapModel" (369 : Nat) ({ cls := "HillTapModel", name := "agrees", desc := "(II)Z" } : Jvm.MethodName)) ∈ tb := tbm_6 185 rfl rfl
theorem mT_6_187 : (Jvm.Cond.instanceMethod ({ cls := "HillTapModel", name := "agrees", desc := "(II)Z" } : Jvm.MethodName)) ∈ tb := tbm_6 187 rfl rfl
theorem mT_6_188 : (Jvm.Cond.code ({ cls := "HillTapModel", name := "agrees", desc := "(II)Z" } : Jvm.MethodName) prog_11_method_55_code (5 : Nat) (Option.some Jvm.ClassFile.FieldType.boolean)) ∈ tb := tbm_6 188 rfl rfl
theorem mT_6_189 : (Jvm.Cond.methodLink "HillTapLaw" (79 : Nat) ({ cls := "HillTapModel", name := "fit", desc := "(I)I" } : Jvm.MethodName)) ∈ tb := tbm_6 189 rfl rfl
theorem mT_6_190 : (Jvm.Cond.instanceMethod ({ cls := "HillTapModel", name := "fit", desc := "(I)I" } : Jvm.MethodName)) ∈ tb := tbm_6 190 rfl rfl
theorem mT_6_191 : (Jvm.Cond.selects "HillTapModel" ({ cls := "HillTapModel", name := "fit", desc := "(I)I" } : Jvm.MethodName) ({ cls := "HillTapModel", name := "fit", desc := "(I)I" } : Jvm.MethodName)) ∈ tb := tbm_6 191 rfl rfl
theorem mT_6_192 : (Jvm.Cond.code ({ cls := "HillTapModel", name := "fit", desc := "(I)I" } : Jvm.MethodName) prog_11_method_59_code (4 : Nat) (Option.some Jvm.ClassFile.FieldType.int)) ∈ tb := tbm_6 192 rfl rfl
theorem mT_6_193 : (Jvm.Cond.methodLink "HillTapLaw" (83 : Nat) ({ cls := "HillTapModel", name := "weight", desc := "(I)I" } : Jvm.MethodName)) ∈ tb := tbm_6 193 rfl rfl
theorem mT_6_194 : (Jvm.Cond.instanceMethod ({ cls := "HillTapModel", name := "weight", desc := "(I)I" } : Jvm.MethodName)) ∈ tb := tbm_6 194 rfl rfl
theorem mT_6_195 : (Jvm.Cond.selects "HillTapModel" ({ cls := "HillTapModel", name := "weight", desc := "(I)I" } : Jvm.MethodName) ({ cls := "HillTapModel", name := "weight", desc := "(I)I" } : Jvm.MethodName)) ∈ tb := tbm_6 195 rfl rfl
theorem mT_6_196 : (Jvm.Cond.code ({ cls := "HillTapModel", name := "weight", desc := "(I)I" } : Jvm.MethodName) prog_11_method_60_code (2 : Nat) (Option.some Jvm.ClassFile.FieldType.int)) ∈ tb := tbm_6 196 rfl rfl
theorem mT_6_197 : (Jvm.Cond.methodLink "HillTapModel" (376 : Nat) ({ cls := "HillTapModel", name := "weighs", desc := "()I" } : Jvm.MethodName)) ∈ tb := tbm_6 197 rfl rfl
theorem mT_6_199 : (Jvm.Cond.instanceMethod ({ cls := "HillTapModel", name := "weighs", desc := "()I" } : Jvm.MethodName)) ∈ tb := tbm_6 199 rfl rfl
theorem mT_6_200 : (Jvm.Cond.code ({ cls := "HillTapModel", name := "weighs", desc := "()I" } : Jvm.MethodName) prog_11_method_56_code (3 : Nat) (Option.some Jvm.ClassFile.FieldType.int)) ∈ tb := tbm_6 200 rfl rfl
theorem mT_6_201 : (Jvm.Cond.methodLink "HillTapLaw" (87 : Nat) ({ cls := "HillTapModel", name := "clear", desc := "()I" } : Jvm.MethodName)) ∈ tb := tbm_6 201 rfl rfl
theorem mT_6_202 : (Jvm.Cond.instanceMethod ({ cls := "HillTapModel", name := "clear", desc := "()I" } : Jvm.MethodName)) ∈ tb := tbm_6 202 rfl rfl
theorem mT_6_203 : (Jvm.Cond.selects "HillTapModel" ({ cls := "HillTapModel", name := "clear", desc := "()I" } : Jvm.MethodName) ({ cls := "HillTapModel", name := "clear", desc := "()I" } : Jvm.MethodName)) ∈ tb := tbm_6 203 rfl rfl
theorem mT_6_204 : (Jvm.Cond.code ({ cls := "HillTapModel", name := "clear", desc := "()I" } : Jvm.MethodName) prog_11_method_61_code (2 : Nat) (Option.some Jvm.ClassFile.FieldType.int)) ∈ tb := tbm_6 204 rfl rfl
theorem mT_6_205 : (Jvm.Cond.methodLink "HillTapLaw" (91 : Nat) ({ cls := "HillTapModel", name := "lettings", desc := "()I" } : Jvm.MethodName)) ∈ tb := tbm_6 205 rfl rfl
theorem mT_6_206 : (Jvm.Cond.instanceMethod ({ cls := "HillTapModel", name := "lettings", desc := "()I" } : Jvm.MethodName)) ∈ tb := tbm_6 206 rfl rfl
theorem mT_6_207 : (Jvm.Cond.selects "HillTapModel" ({ cls := "HillTapModel", name := "lettings", desc := "()I" } : Jvm.MethodName) ({ cls := "HillTapModel", name := "lettings", desc := "()I" } : Jvm.MethodName)) ∈ tb := tbm_6 207 rfl rfl
theorem mT_6_208 : (Jvm.Cond.code ({ cls := "HillTapModel", name := "lettings", desc := "()I" } : Jvm.MethodName) prog_11_method_64_code (1 : Nat) (Option.some Jvm.ClassFile.FieldType.int)) ∈ tb := tbm_6 208 rfl rfl
theorem mT_6_209 : (Jvm.Cond.methodLink "HillTapModel" (384 : Nat) ({ cls := "HillTapModel", name := "lettingsOf", desc := "()I" } : Jvm.MethodName)) ∈ tb := tbm_6 209 rfl rfl
theorem mT_6_211 : (Jvm.Cond.instanceMethod ({ cls := "HillTapModel", name := "lettingsOf", desc := "()I" } : Jvm.MethodName)) ∈ tb := tbm_6 211 rfl rfl
theorem mT_6_212 : (Jvm.Cond.code ({ cls := "HillTapModel", name := "lettingsOf", desc := "()I" } : Jvm.MethodName) prog_11_method_63_code (3 : Nat) (Option.some Jvm.ClassFile.FieldType.int)) ∈ tb := tbm_6 212 rfl rfl
theorem mT_6_213 : (Jvm.Cond.methodLink "HillTapModel" (381 : Nat) ({ cls := "HillTapModel", name := "isLetting", desc := "(I)Z" } : Jvm.MethodName)) ∈ tb := tbm_6 213 rfl rfl
theorem mT_6_215 : (Jvm.Cond.instanceMethod ({ cls := "HillTapModel", name := "isLetting", desc := "(I)Z" } : Jvm.MethodName)) ∈ tb := tbm_6 215 rfl rfl
theorem mT_6_216 : (Jvm.Cond.code ({ cls := "HillTapModel", name := "isLetting", desc := "(I)Z" } : Jvm.MethodName) prog_11_method_62_code (2 : Nat) (Option.some Jvm.ClassFile.FieldType.boolean)) ∈ tb := tbm_6 216 rfl rfl
theorem mT_6_217 : (Jvm.Cond.methodLink "HillTapModel" (378 : Nat) ({ cls := "HillTapModel", name := "levelAt", desc := "(I)I" } : Jvm.MethodName)) ∈ tb := tbm_6 217 rfl rfl
theorem mT_6_219 : (Jvm.Cond.instanceMethod ({ cls := "HillTapModel", name := "levelAt", desc := "(I)I" } : Jvm.MethodName)) ∈ tb := tbm_6 219 rfl rfl
theorem mT_6_220 : (Jvm.Cond.code ({ cls := "HillTapModel", name := "levelAt", desc := "(I)I" } : Jvm.MethodName) prog_11_method_33_code (2 : Nat) (Option.some Jvm.ClassFile.FieldType.int)) ∈ tb := tbm_6 220 rfl rfl
theorem mT_6_221 : (Jvm.Cond.methodLink "HillTapLaw" (95 : Nat) ({ cls := "HillTapModel", name := "tap", desc := "(I)I" } : Jvm.MethodName)) ∈ tb := tbm_6 221 rfl rfl
theorem mT_6_222 : (Jvm.Cond.instanceMethod ({ cls := "HillTapModel", name := "tap", desc := "(I)I" } : Jvm.MethodName)) ∈ tb := tbm_6 222 rfl rfl
theorem mT_6_223 : (Jvm.Cond.selects "HillTapModel" ({ cls := "HillTapModel", name := "tap", desc := "(I)I" } : Jvm.MethodName) ({ cls := "HillTapModel", name := "tap", desc := "(I)I" } : Jvm.MethodName)) ∈ tb := tbm_6 223 rfl rfl
theorem mT_6_224 : (Jvm.Cond.code ({ cls := "HillTapModel", name := "tap", desc := "(I)I" } : Jvm.MethodName) prog_11_method_67_code (2 : Nat) (Option.some Jvm.ClassFile.FieldType.int)) ∈ tb := tbm_6 224 rfl rfl
theorem mT_6_225 : (Jvm.Cond.methodLink "HillTapModel" (390 : Nat) ({ cls := "HillTapModel", name := "tapOf", desc := "(I)I" } : Jvm.MethodName)) ∈ tb := tbm_6 225 rfl rfl
theorem mT_6_227 : (Jvm.Cond.instanceMethod ({ cls := "HillTapModel", name := "tapOf", desc := "(I)I" } : Jvm.MethodName)) ∈ tb := tbm_6 227 rfl rfl
theorem mT_6_228 : (Jvm.Cond.code ({ cls := "HillTapModel", name := "tapOf", desc := "(I)I" } : Jvm.MethodName) prog_11_method_66_code (4 : Nat) (Option.some Jvm.ClassFile.FieldType.int)) ∈ tb := tbm_6 228 rfl rfl
theorem mT_6_229 : (Jvm.Cond.methodLink "HillTapModel" (387 : Nat) ({ cls := "HillTapModel", name := "isHeld", desc := "(I)Z" } : Jvm.MethodName)) ∈ tb := tbm_6 229 rfl rfl
theorem mT_6_231 : (Jvm.Cond.instanceMethod ({ cls := "HillTapModel", name := "isHeld", desc := "(I)Z" } : Jvm.MethodName)) ∈ tb := tbm_6 231 rfl rfl
theorem mT_6_232 : (Jvm.Cond.code ({ cls := "HillTapModel", name := "isHeld", desc := "(I)Z" } : Jvm.MethodName) prog_11_method_65_code (3 : Nat) (Option.some Jvm.ClassFile.FieldType.boolean)) ∈ tb := tbm_6 232 rfl rfl
theorem mT_6_233 : (Jvm.Cond.methodLink "HillTapLaw" (99 : Nat) ({ cls := "HillTapModel", name := "fooled", desc := "(I)I" } : Jvm.MethodName)) ∈ tb := tbm_6 233 rfl rfl
theorem mT_6_234 : (Jvm.Cond.instanceMethod ({ cls := "HillTapModel", name := "fooled", desc := "(I)I" } : Jvm.MethodName)) ∈ tb := tbm_6 234 rfl rfl
theorem mT_6_235 : (Jvm.Cond.selects "HillTapModel" ({ cls := "HillTapModel", name := "fooled", desc := "(I)I" } : Jvm.MethodName) ({ cls := "HillTapModel", name := "fooled", desc := "(I)I" } : Jvm.MethodName)) ∈ tb := tbm_6 235 rfl rfl
theorem mT_6_236 : (Jvm.Cond.code ({ cls := "HillTapModel", name := "fooled", desc := "(I)I" } : Jvm.MethodName) prog_11_method_68_code (3 : Nat) (Option.some Jvm.ClassFile.FieldType.int)) ∈ tb := tbm_6 236 rfl rfl
theorem mT_6_237 : (Jvm.Cond.methodLink "HillTapLaw" (104 : Nat) ({ cls := "HillTapModel", name := "nought", desc := "(III)I" } : Jvm.MethodName)) ∈ tb := tbm_6 237 rfl rfl
theorem mT_6_238 : (Jvm.Cond.instanceMethod ({ cls := "HillTapModel", name := "nought", desc := "(III)I" } : Jvm.MethodName)) ∈ tb := tbm_6 238 rfl rfl
theorem mT_6_239 : (Jvm.Cond.selects "HillTapModel" ({ cls := "HillTapModel", name := "nought", desc := "(III)I" } : Jvm.MethodName) ({ cls := "HillTapModel", name := "nought", desc := "(III)I" } : Jvm.MethodName)) ∈ tb := tbm_6 239 rfl rfl
theorem mT_7_0 : (Jvm.Cond.code ({ cls := "HillTapModel", name := "nought", desc := "(III)I" } : Jvm.MethodName) prog_11_method_71_code (5 : Nat) (Option.some Jvm.ClassFile.FieldType.int)) ∈ tb := tbm_7 0 rfl rfl
theorem mT_7_1 : (Jvm.Cond.methodLink "HillTapModel" (393 : Nat) ({ cls := "HillTapModel", name := "isLine", desc := "(III)Z" } : Jvm.MethodName)) ∈ tb := tbm_7 1 rfl rfl
theorem mT_7_3 : (Jvm.Cond.instanceMethod ({ cls := "HillTapModel", name := "isLine", desc := "(III)Z" } : Jvm.MethodName)) ∈ tb := tbm_7 3 rfl rfl
theorem mT_7_4 : (Jvm.Cond.code ({ cls := "HillTapModel", name := "isLine", desc := "(III)Z" } : Jvm.MethodName) prog_11_method_70_code (4 : Nat) (Option.some Jvm.ClassFile.FieldType.boolean)) ∈ tb := tbm_7 4 rfl rfl
theorem mT_7_5 : (Jvm.Cond.methodLink "HillTapModel" (396 : Nat) ({ cls := "HillTapModel", name := "noughtBy", desc := "(III)I" } : Jvm.MethodName)) ∈ tb := tbm_7 5 rfl rfl
theorem mT_7_6 : (Jvm.Cond.static ({ cls := "HillTapModel", name := "noughtBy", desc := "(III)I" } : Jvm.MethodName)) ∈ tb := tbm_7 6 rfl rfl
theorem mT_7_7 : (Jvm.Cond.code ({ cls := "HillTapModel", name := "noughtBy", desc := "(III)I" } : Jvm.MethodName) prog_11_method_69_code (3 : Nat) (Option.some Jvm.ClassFile.FieldType.int)) ∈ tb := tbm_7 7 rfl rfl
theorem mT_7_8 : (Jvm.Cond.methodLink "HillTapLaw" (109 : Nat) ({ cls := "HillTapModel", name := "span", desc := "(IIIIZ)I" } : Jvm.MethodName)) ∈ tb := tbm_7 8 rfl rfl
theorem mT_7_9 : (Jvm.Cond.instanceMethod ({ cls := "HillTapModel", name := "span", desc := "(IIIIZ)I" } : Jvm.MethodName)) ∈ tb := tbm_7 9 rfl rfl
theorem mT_7_10 : (Jvm.Cond.selects "HillTapModel" ({ cls := "HillTapModel", name := "span", desc := "(IIIIZ)I" } : Jvm.MethodName) ({ cls := "HillTapModel", name := "span", desc := "(IIIIZ)I" } : Jvm.MethodName)) ∈ tb := tbm_7 10 rfl rfl
theorem mT_7_11 : (Jvm.Cond.code ({ cls := "HillTapModel", name := "span", desc := "(IIIIZ)I" } : Jvm.MethodName) prog_11_method_72_code (11 : Nat) (Option.some Jvm.ClassFile.FieldType.int)) ∈ tb := tbm_7 11 rfl rfl
theorem mT_7_12 : (Jvm.Cond.methodLink "HillTapLaw" (113 : Nat) ({ cls := "HillTapModel", name := "helps", desc := "(II)I" } : Jvm.MethodName)) ∈ tb := tbm_7 12 rfl rfl
theorem mT_7_13 : (Jvm.Cond.instanceMethod ({ cls := "HillTapModel", name := "helps", desc := "(II)I" } : Jvm.MethodName)) ∈ tb := tbm_7 13 rfl rfl
theorem mT_7_14 : (Jvm.Cond.selects "HillTapModel" ({ cls := "HillTapModel", name := "helps", desc := "(II)I" } : Jvm.MethodName) ({ cls := "HillTapModel", name := "helps", desc := "(II)I" } : Jvm.MethodName)) ∈ tb := tbm_7 14 rfl rfl
theorem mT_7_15 : (Jvm.Cond.code ({ cls := "HillTapModel", name := "helps", desc := "(II)I" } : Jvm.MethodName) prog_11_method_74_code (3 : Nat) (Option.some Jvm.ClassFile.FieldType.int)) ∈ tb := tbm_7 15 rfl rfl
theorem mT_7_16 : (Jvm.Cond.methodLink "HillTapModel" (400 : Nat) ({ cls := "HillTapModel", name := "isHelp", desc := "(II)Z" } : Jvm.MethodName)) ∈ tb := tbm_7 16 rfl rfl
theorem mT_7_18 : (Jvm.Cond.instanceMethod ({ cls := "HillTapModel", name := "isHelp", desc := "(II)Z" } : Jvm.MethodName)) ∈ tb := tbm_7 18 rfl rfl
theorem mT_7_19 : (Jvm.Cond.code ({ cls := "HillTapModel", name := "isHelp", desc := "(II)Z" } : Jvm.MethodName) prog_11_method_73_code (3 : Nat) (Option.some Jvm.ClassFile.FieldType.boolean)) ∈ tb := tbm_7 19 rfl rfl
theorem mT_7_20 : (Jvm.Cond.methodLink "HillTapLaw" (117 : Nat) ({ cls := "HillTapModel", name := "last", desc := "(I)I" } : Jvm.MethodName)) ∈ tb := tbm_7 20 rfl rfl
theorem mT_7_21 : (Jvm.Cond.instanceMethod ({ cls := "HillTapModel", name := "last", desc := "(I)I" } : Jvm.MethodName)) ∈ tb := tbm_7 21 rfl rfl
theorem mT_7_22 : (Jvm.Cond.selects "HillTapModel" ({ cls := "HillTapModel", name := "last", desc := "(I)I" } : Jvm.MethodName) ({ cls := "HillTapModel", name := "last", desc := "(I)I" } : Jvm.MethodName)) ∈ tb := tbm_7 22 rfl rfl
theorem mT_7_23 : (Jvm.Cond.code ({ cls := "HillTapModel", name := "last", desc := "(I)I" } : Jvm.MethodName) prog_11_method_75_code (3 : Nat) (Option.some Jvm.ClassFile.FieldType.int)) ∈ tb := tbm_7 23 rfl rfl
theorem mT_7_24 : (Jvm.Cond.methodLink "HillTapLaw" (121 : Nat) ({ cls := "HillTapModel", name := "safe", desc := "(I)I" } : Jvm.MethodName)) ∈ tb := tbm_7 24 rfl rfl
theorem mT_7_25 : (Jvm.Cond.instanceMethod ({ cls := "HillTapModel", name := "safe", desc := "(I)I" } : Jvm.MethodName)) ∈ tb := tbm_7 25 rfl rfl
theorem mT_7_26 : (Jvm.Cond.selects "HillTapModel" ({ cls := "HillTapModel", name := "safe", desc := "(I)I" } : Jvm.MethodName) ({ cls := "HillTapModel", name := "safe", desc := "(I)I" } : Jvm.MethodName)) ∈ tb := tbm_7 26 rfl rfl
theorem mT_7_27 : (Jvm.Cond.code ({ cls := "HillTapModel", name := "safe", desc := "(I)I" } : Jvm.MethodName) prog_11_method_76_code (3 : Nat) (Option.some Jvm.ClassFile.FieldType.int)) ∈ tb := tbm_7 27 rfl rfl
theorem mT_7_28 : (Jvm.Cond.methodLink "HillTapLaw" (125 : Nat) ({ cls := "HillTapModel", name := "found", desc := "(II)I" } : Jvm.MethodName)) ∈ tb := tbm_7 28 rfl rfl
theorem mT_7_29 : (Jvm.Cond.instanceMethod ({ cls := "HillTapModel", name := "found", desc := "(II)I" } : Jvm.MethodName)) ∈ tb := tbm_7 29 rfl rfl
theorem mT_7_30 : (Jvm.Cond.selects "HillTapModel" ({ cls := "HillTapModel", name := "found", desc := "(II)I" } : Jvm.MethodName) ({ cls := "HillTapModel", name := "found", desc := "(II)I" } : Jvm.MethodName)) ∈ tb := tbm_7 30 rfl rfl
theorem mT_7_31 : (Jvm.Cond.code ({ cls := "HillTapModel", name := "found", desc := "(II)I" } : Jvm.MethodName) prog_11_method_78_code (3 : Nat) (Option.some Jvm.ClassFile.FieldType.int)) ∈ tb := tbm_7 31 rfl rfl
theorem mT_7_32 : (Jvm.Cond.methodLink "HillTapModel" (403 : Nat) ({ cls := "HillTapModel", name := "foundBy", desc := "(II)I" } : Jvm.MethodName)) ∈ tb := tbm_7 32 rfl rfl
theorem mT_7_34 : (Jvm.Cond.instanceMethod ({ cls := "HillTapModel", name := "foundBy", desc := "(II)I" } : Jvm.MethodName)) ∈ tb := tbm_7 34 rfl rfl
theorem mT_7_35 : (Jvm.Cond.code ({ cls := "HillTapModel", name := "foundBy", desc := "(II)I" } : Jvm.MethodName) prog_11_method_77_code (4 : Nat) (Option.some Jvm.ClassFile.FieldType.int)) ∈ tb := tbm_7 35 rfl rfl
theorem mT_7_36 : (Jvm.Cond.methodLink "HillTapLaw" (129 : Nat) ({ cls := "HillTapModel", name := "bore", desc := "()I" } : Jvm.MethodName)) ∈ tb := tbm_7 36 rfl rfl
theorem mT_7_37 : (Jvm.Cond.instanceMethod ({ cls := "HillTapModel", name := "bore", desc := "()I" } : Jvm.MethodName)) ∈ tb := tbm_7 37 rfl rfl
theorem mT_7_38 : (Jvm.Cond.selects "HillTapModel" ({ cls := "HillTapModel", name := "bore", desc := "()I" } : Jvm.MethodName) ({ cls := "HillTapModel", name := "bore", desc := "()I" } : Jvm.MethodName)) ∈ tb := tbm_7 38 rfl rfl
theorem mT_7_39 : (Jvm.Cond.code ({ cls := "HillTapModel", name := "bore", desc := "()I" } : Jvm.MethodName) prog_11_method_80_code (3 : Nat) (Option.some Jvm.ClassFile.FieldType.int)) ∈ tb := tbm_7 39 rfl rfl
theorem mT_7_40 : (Jvm.Cond.methodLink "HillTapModel" (406 : Nat) ({ cls := "HillTapModel", name := "alikeAt", desc := "(I)I" } : Jvm.MethodName)) ∈ tb := tbm_7 40 rfl rfl
theorem mT_7_42 : (Jvm.Cond.instanceMethod ({ cls := "HillTapModel", name := "alikeAt", desc := "(I)I" } : Jvm.MethodName)) ∈ tb := tbm_7 42 rfl rfl
theorem mT_7_43 : (Jvm.Cond.code ({ cls := "HillTapModel", name := "alikeAt", desc := "(I)I" } : Jvm.MethodName) prog_11_method_79_code (6 : Nat) (Option.some Jvm.ClassFile.FieldType.int)) ∈ tb := tbm_7 43 rfl rfl
theorem mT_7_44 : (Jvm.Cond.methodLink "HillTapLaw" (133 : Nat) ({ cls := "HillTapModel", name := "struck", desc := "(II)I" } : Jvm.MethodName)) ∈ tb := tbm_7 44 rfl rfl
theorem mT_7_45 : (Jvm.Cond.instanceMethod ({ cls := "HillTapModel", name := "struck", desc := "(II)I" } : Jvm.MethodName)) ∈ tb := tbm_7 45 rfl rfl
theorem mT_7_46 : (Jvm.Cond.selects "HillTapModel" ({ cls := "HillTapModel", name := "struck", desc := "(II)I" } : Jvm.MethodName) ({ cls := "HillTapModel", name := "struck", desc := "(II)I" } : Jvm.MethodName)) ∈ tb := tbm_7 46 rfl rfl
theorem mT_7_47 : (Jvm.Cond.code ({ cls := "HillTapModel", name := "struck", desc := "(II)I" } : Jvm.MethodName) prog_11_method_82_code (3 : Nat) (Option.some Jvm.ClassFile.FieldType.int)) ∈ tb := tbm_7 47 rfl rfl
theorem mT_7_48 : (Jvm.Cond.methodLink "HillTapModel" (409 : Nat) ({ cls := "HillTapModel", name := "isVillage", desc := "(I)Z" } : Jvm.MethodName)) ∈ tb := tbm_7 48 rfl rfl
theorem mT_7_50 : (Jvm.Cond.instanceMethod ({ cls := "HillTapModel", name := "isVillage", desc := "(I)Z" } : Jvm.MethodName)) ∈ tb := tbm_7 50 rfl rfl
theorem mT_7_51 : (Jvm.Cond.code ({ cls := "HillTapModel", name := "isVillage", desc := "(I)Z" } : Jvm.MethodName) prog_11_method_37_code (2 : Nat) (Option.some Jvm.ClassFile.FieldType.boolean)) ∈ tb := tbm_7 51 rfl rfl
theorem mT_7_52 : (Jvm.Cond.methodLink "HillTapModel" (412 : Nat) ({ cls := "HillTapModel", name := "isStruck", desc := "(I)Z" } : Jvm.MethodName)) ∈ tb := tbm_7 52 rfl rfl
theorem mT_7_54 : (Jvm.Cond.instanceMethod ({ cls := "HillTapModel", name := "isStruck", desc := "(I)Z" } : Jvm.MethodName)) ∈ tb := tbm_7 54 rfl rfl
theorem mT_7_55 : (Jvm.Cond.code ({ cls := "HillTapModel", name := "isStruck", desc := "(I)Z" } : Jvm.MethodName) prog_11_method_81_code (2 : Nat) (Option.some Jvm.ClassFile.FieldType.boolean)) ∈ tb := tbm_7 55 rfl rfl
theorem mT_7_56 : (Jvm.Cond.methodLink "HillTapLaw" (137 : Nat) ({ cls := "HillTapModel", name := "dead", desc := "(II)I" } : Jvm.MethodName)) ∈ tb := tbm_7 56 rfl rfl
theorem mT_7_57 : (Jvm.Cond.instanceMethod ({ cls := "HillTapModel", name := "dead", desc := "(II)I" } : Jvm.MethodName)) ∈ tb := tbm_7 57 rfl rfl
theorem mT_7_58 : (Jvm.Cond.selects "HillTapModel" ({ cls := "HillTapModel", name := "dead", desc := "(II)I" } : Jvm.MethodName) ({ cls := "HillTapModel", name := "dead", desc := "(II)I" } : Jvm.MethodName)) ∈ tb := tbm_7 58 rfl rfl
theorem mT_7_59 : (Jvm.Cond.code ({ cls := "HillTapModel", name := "dead", desc := "(II)I" } : Jvm.MethodName) prog_11_method_83_code (5 : Nat) (Option.some Jvm.ClassFile.FieldType.int)) ∈ tb := tbm_7 59 rfl rfl
theorem mT_7_60 : (Jvm.Cond.methodLink "HillTapLaw" (141 : Nat) ({ cls := "HillTapModel", name := "tell", desc := "(II)I" } : Jvm.MethodName)) ∈ tb := tbm_7 60 rfl rfl
theorem mT_7_61 : (Jvm.Cond.instanceMethod ({ cls := "HillTapModel", name := "tell", desc := "(II)I" } : Jvm.MethodName)) ∈ tb := tbm_7 61 rfl rfl
theorem mT_7_62 : (Jvm.Cond.selects "HillTapModel" ({ cls := "HillTapModel", name := "tell", desc := "(II)I" } : Jvm.MethodName) ({ cls := "HillTapModel", name := "tell", desc := "(II)I" } : Jvm.MethodName)) ∈ tb := tbm_7 62 rfl rfl
theorem mT_7_63 : (Jvm.Cond.code ({ cls := "HillTapModel", name := "tell", desc := "(II)I" } : Jvm.MethodName) prog_11_method_84_code (9 : Nat) (Option.some Jvm.ClassFile.FieldType.int)) ∈ tb := tbm_7 63 rfl rfl
theorem mT_7_64 : (Jvm.Cond.constant "HillTapModel" (415 : Nat) (999999 : Int32)) ∈ tb := tbm_7 64 rfl rfl
theorem mT_7_65 : (Jvm.Cond.methodLink "HillTapLaw" (145 : Nat) ({ cls := "HillTapModel", name := "part", desc := "(III)I" } : Jvm.MethodName)) ∈ tb := tbm_7 65 rfl rfl
theorem mT_7_66 : (Jvm.Cond.instanceMethod ({ cls := "HillTapModel", name := "part", desc := "(III)I" } : Jvm.MethodName)) ∈ tb := tbm_7 66 rfl rfl
theorem mT_7_67 : (Jvm.Cond.selects "HillTapModel" ({ cls := "HillTapModel", name := "part", desc := "(III)I" } : Jvm.MethodName) ({ cls := "HillTapModel", name := "part", desc := "(III)I" } : Jvm.MethodName)) ∈ tb := tbm_7 67 rfl rfl
theorem mT_7_68 : (Jvm.Cond.code ({ cls := "HillTapModel", name := "part", desc := "(III)I" } : Jvm.MethodName) prog_11_method_85_code (5 : Nat) (Option.some Jvm.ClassFile.FieldType.int)) ∈ tb := tbm_7 68 rfl rfl
theorem mT_7_69 : (Jvm.Cond.methodLink "HillTapLaw" (149 : Nat) ({ cls := "HillTapModel", name := "knew", desc := "(I)I" } : Jvm.MethodName)) ∈ tb := tbm_7 69 rfl rfl
theorem mT_7_70 : (Jvm.Cond.instanceMethod ({ cls := "HillTapModel", name := "knew", desc := "(I)I" } : Jvm.MethodName)) ∈ tb := tbm_7 70 rfl rfl
theorem mT_7_71 : (Jvm.Cond.selects "HillTapModel" ({ cls := "HillTapModel", name := "knew", desc := "(I)I" } : Jvm.MethodName) ({ cls := "HillTapModel", name := "knew", desc := "(I)I" } : Jvm.MethodName)) ∈ tb := tbm_7 71 rfl rfl
theorem mT_7_72 : (Jvm.Cond.code ({ cls := "HillTapModel", name := "knew", desc := "(I)I" } : Jvm.MethodName) prog_11_method_86_code (4 : Nat) (Option.some Jvm.ClassFile.FieldType.int)) ∈ tb := tbm_7 72 rfl rfl
theorem mT_7_73 : (Jvm.Cond.methodLink "HillTapLaw" (155 : Nat) ({ cls := "HillTapModel", name := "led", desc := "(II)I" } : Jvm.MethodName)) ∈ tb := tbm_7 73 rfl rfl
theorem mT_7_74 : (Jvm.Cond.instanceMethod ({ cls := "HillTapModel", name := "led", desc := "(II)I" } : Jvm.MethodName)) ∈ tb := tbm_7 74 rfl rfl
theorem mT_7_75 : (Jvm.Cond.selects "HillTapModel" ({ cls := "HillTapModel", name := "led", desc := "(II)I" } : Jvm.MethodName) ({ cls := "HillTapModel", name := "led", desc := "(II)I" } : Jvm.MethodName)) ∈ tb := tbm_7 75 rfl rfl
theorem mT_7_76 : (Jvm.Cond.code ({ cls := "HillTapModel", name := "led", desc := "(II)I" } : Jvm.MethodName) prog_11_method_87_code (5 : Nat) (Option.some Jvm.ClassFile.FieldType.int)) ∈ tb := tbm_7 76 rfl rfl
theorem mT_7_77 : (Jvm.Cond.methodLink "HillTapLaw" (159 : Nat) ({ cls := "HillTapModel", name := "size", desc := "(I)I" } : Jvm.MethodName)) ∈ tb := tbm_7 77 rfl rfl
theorem mT_7_78 : (Jvm.Cond.instanceMethod ({ cls := "HillTapModel", name := "size", desc := "(I)I" } : Jvm.MethodName)) ∈ tb := tbm_7 78 rfl rfl
theorem mT_7_79 : (Jvm.Cond.selects "HillTapModel" ({ cls := "HillTapModel", name := "size", desc := "(I)I" } : Jvm.MethodName) ({ cls := "HillTapModel", name := "size", desc := "(I)I" } : Jvm.MethodName)) ∈ tb := tbm_7 79 rfl rfl
theorem mT_7_80 : (Jvm.Cond.code ({ cls := "HillTapModel", name := "size", desc := "(I)I" } : Jvm.MethodName) prog_11_method_88_code (2 : Nat) (Option.some Jvm.ClassFile.FieldType.int)) ∈ tb := tbm_7 80 rfl rfl
theorem mT_7_81 : (Jvm.Cond.methodLink "HillTapLaw" (163 : Nat) ({ cls := "HillTapModel", name := "trouble", desc := "()I" } : Jvm.MethodName)) ∈ tb := tbm_7 81 rfl rfl
theorem mT_7_82 : (Jvm.Cond.instanceMethod ({ cls := "HillTapModel", name := "trouble", desc := "()I" } : Jvm.MethodName)) ∈ tb := tbm_7 82 rfl rfl
theorem mT_7_83 : (Jvm.Cond.selects "HillTapModel" ({ cls := "HillTapModel", name := "trouble", desc := "()I" } : Jvm.MethodName) ({ cls := "HillTapModel", name := "trouble", desc := "()I" } : Jvm.MethodName)) ∈ tb := tbm_7 83 rfl rfl
theorem mT_7_84 : (Jvm.Cond.code ({ cls := "HillTapModel", name := "trouble", desc := "()I" } : Jvm.MethodName) prog_11_method_89_code (1 : Nat) (Option.some Jvm.ClassFile.FieldType.int)) ∈ tb := tbm_7 84 rfl rfl
theorem mT_7_100 : (Jvm.Cond.fieldLink "java/lang/String" (9 : Nat) "java/lang/String" "value" "[B") ∈ tb := tbm_7 100 rfl rfl
theorem mT_7_101 : (Jvm.Cond.fieldLink "java/lang/String" (15 : Nat) "java/lang/String" "coder" "B") ∈ tb := tbm_7 101 rfl rfl
theorem mP_0 : Cond.selects "HillTap" ⟨"HillTap", "refuse", "(I)I"⟩ ⟨"HillTap", "refuse", "(I)I"⟩ ∈ tb := tbm_p 0 rfl rfl
theorem mP_1 : Cond.selects "HillTap$Tokens" ⟨"HillTap$Tokens", "takeLetters", "()V"⟩ ⟨"HillTap$Tokens", "takeLetters", "()V"⟩ ∈ tb := tbm_p 1 rfl rfl
theorem mP_2 : Cond.selects "HillTap$Tokens" ⟨"HillTap$Tokens", "takeDigits", "()V"⟩ ⟨"HillTap$Tokens", "takeDigits", "()V"⟩ ∈ tb := tbm_p 2 rfl rfl
theorem mP_3 : Cond.selects "HillTap$Teller" ⟨"HillTap$Teller", "takeLine", "(LHillTap$Hill;)Z"⟩ ⟨"HillTap$Teller", "takeLine", "(LHillTap$Hill;)Z"⟩ ∈ tb := tbm_p 3 rfl rfl
theorem mP_4 : Cond.selects "HillTap$Teller" ⟨"HillTap$Teller", "takeLake", "(LHillTap$Lake;)Z"⟩ ⟨"HillTap$Teller", "takeLake", "(LHillTap$Lake;)Z"⟩ ∈ tb := tbm_p 4 rfl rfl
theorem mP_5 : Cond.selects "HillTap$Teller" ⟨"HillTap$Teller", "faulty", "(I)Z"⟩ ⟨"HillTap$Teller", "faulty", "(I)Z"⟩ ∈ tb := tbm_p 5 rfl rfl
theorem mP_6 : Cond.selects "HillTap$Teller" ⟨"HillTap$Teller", "takeNumber", "(Ljava/lang/String;II)Z"⟩ ⟨"HillTap$Teller", "takeNumber", "(Ljava/lang/String;II)Z"⟩ ∈ tb := tbm_p 6 rfl rfl
theorem mP_7 : Cond.selects "HillTap$Teller" ⟨"HillTap$Teller", "takeWhole", "(II)Z"⟩ ⟨"HillTap$Teller", "takeWhole", "(II)Z"⟩ ∈ tb := tbm_p 7 rfl rfl
theorem mP_8 : Cond.selects "HillTap$Teller" ⟨"HillTap$Teller", "takePeg", "(LHillTap$Hill;)Z"⟩ ⟨"HillTap$Teller", "takePeg", "(LHillTap$Hill;)Z"⟩ ∈ tb := tbm_p 8 rfl rfl
theorem mP_9 : Cond.selects "HillTap$Teller" ⟨"HillTap$Teller", "takeNewName", "()Z"⟩ ⟨"HillTap$Teller", "takeNewName", "()Z"⟩ ∈ tb := tbm_p 9 rfl rfl
theorem mP_10 : Cond.selects "HillTap$Teller" ⟨"HillTap$Teller", "isName", "()Z"⟩ ⟨"HillTap$Teller", "isName", "()Z"⟩ ∈ tb := tbm_p 10 rfl rfl
theorem mP_11 : Cond.selects "HillTap$Teller" ⟨"HillTap$Teller", "takeFrom", "(LHillTap$Lake;)Z"⟩ ⟨"HillTap$Teller", "takeFrom", "(LHillTap$Lake;)Z"⟩ ∈ tb := tbm_p 11 rfl rfl
theorem mP_12 : Cond.selects "HillTap$Teller" ⟨"HillTap$Teller", "takeRain", "(LHillTap$Hill;)Z"⟩ ⟨"HillTap$Teller", "takeRain", "(LHillTap$Hill;)Z"⟩ ∈ tb := tbm_p 12 rfl rfl
theorem mP_13 : Cond.selects "HillTap$Teller" ⟨"HillTap$Teller", "takeStory", "(LHillTap$Hill;)Z"⟩ ⟨"HillTap$Teller", "takeStory", "(LHillTap$Hill;)Z"⟩ ∈ tb := tbm_p 13 rfl rfl
theorem mP_14 : Cond.selects "HillTap$Teller" ⟨"HillTap$Teller", "kindHere", "()I"⟩ ⟨"HillTap$Teller", "kindHere", "()I"⟩ ∈ tb := tbm_p 14 rfl rfl
theorem mP_15 : Cond.selects "HillTap$Teller" ⟨"HillTap$Teller", "takeVillage", "(LHillTap$Hill;)Z"⟩ ⟨"HillTap$Teller", "takeVillage", "(LHillTap$Hill;)Z"⟩ ∈ tb := tbm_p 15 rfl rfl
theorem mP_16 : Cond.selects "HillTap$Teller" ⟨"HillTap$Teller", "takeKnower", "(LHillTap$Hill;)Z"⟩ ⟨"HillTap$Teller", "takeKnower", "(LHillTap$Hill;)Z"⟩ ∈ tb := tbm_p 16 rfl rfl
theorem mP_17 : Cond.selects "HillTap$Teller" ⟨"HillTap$Teller", "pegNamed", "(JI)I"⟩ ⟨"HillTap$Teller", "pegNamed", "(JI)I"⟩ ∈ tb := tbm_p 17 rfl rfl
theorem mP_18 : Cond.selects "HillTap" ⟨"HillTap", "planAnew", "()V"⟩ ⟨"HillTap", "planAnew", "()V"⟩ ∈ tb := tbm_p 18 rfl rfl
theorem mP_19 : Cond.selects "HillTap$Lake" ⟨"HillTap$Lake", "goalOf", "(I)I"⟩ ⟨"HillTap$Lake", "goalOf", "(I)I"⟩ ∈ tb := tbm_p 19 rfl rfl
theorem mP_20 : Cond.selects "HillTap$Lake" ⟨"HillTap$Lake", "towards", "(II)I"⟩ ⟨"HillTap$Lake", "towards", "(II)I"⟩ ∈ tb := tbm_p 20 rfl rfl
theorem mP_21 : Cond.selects "HillTap" ⟨"HillTap", "answer", "(I)I"⟩ ⟨"HillTap", "answer", "(I)I"⟩ ∈ tb := tbm_p 21 rfl rfl
theorem mP_22 : Cond.selects "HillTap" ⟨"HillTap", "noHill", "()Z"⟩ ⟨"HillTap", "noHill", "()Z"⟩ ∈ tb := tbm_p 22 rfl rfl
theorem mP_23 : Cond.selects "HillTap" ⟨"HillTap", "isPegDay", "(III)Z"⟩ ⟨"HillTap", "isPegDay", "(III)Z"⟩ ∈ tb := tbm_p 23 rfl rfl
theorem mP_24 : Cond.selects "HillTap" ⟨"HillTap", "isStory", "(I)Z"⟩ ⟨"HillTap", "isStory", "(I)Z"⟩ ∈ tb := tbm_p 24 rfl rfl
theorem mP_25 : Cond.selects "HillTap" ⟨"HillTap", "isPeg", "(I)Z"⟩ ⟨"HillTap", "isPeg", "(I)Z"⟩ ∈ tb := tbm_p 25 rfl rfl
theorem mP_26 : Cond.selects "HillTap" ⟨"HillTap", "courseOf", "(I)LHillTap$Course;"⟩ ⟨"HillTap", "courseOf", "(I)LHillTap$Course;"⟩ ∈ tb := tbm_p 26 rfl rfl
theorem mP_27 : Cond.selects "HillTap$Course" ⟨"HillTap$Course", "fillAdds", "(LHillTap$Hill;LHillTap$Story;[IZ)V"⟩ ⟨"HillTap$Course", "fillAdds", "(LHillTap$Hill;LHillTap$Story;[IZ)V"⟩ ∈ tb := tbm_p 27 rfl rfl
theorem mP_28 : Cond.selects "HillTap$Course" ⟨"HillTap$Course", "fillByRise", "(II[I)V"⟩ ⟨"HillTap$Course", "fillByRise", "(II[I)V"⟩ ∈ tb := tbm_p 28 rfl rfl
theorem mP_29 : Cond.selects "HillTap$Course" ⟨"HillTap$Course", "fillByMean", "(II[I)V"⟩ ⟨"HillTap$Course", "fillByMean", "(II[I)V"⟩ ∈ tb := tbm_p 29 rfl rfl
theorem mP_30 : Cond.selects "HillTap$Course" ⟨"HillTap$Course", "fillByRain", "(I[I)V"⟩ ⟨"HillTap$Course", "fillByRain", "(I[I)V"⟩ ∈ tb := tbm_p 30 rfl rfl
theorem mP_31 : Cond.selects "HillTap$Course" ⟨"HillTap$Course", "speedOf", "(LHillTap$Hill;LHillTap$Story;II)I"⟩ ⟨"HillTap$Course", "speedOf", "(LHillTap$Hill;LHillTap$Story;II)I"⟩ ∈ tb := tbm_p 31 rfl rfl
theorem mP_32 : Cond.selects "HillTap$Course" ⟨"HillTap$Course", "creepBy", "(ILHillTap$Story;II)V"⟩ ⟨"HillTap$Course", "creepBy", "(ILHillTap$Story;II)V"⟩ ∈ tb := tbm_p 32 rfl rfl
theorem mP_33 : Cond.selects "HillTap" ⟨"HillTap", "findFits", "()V"⟩ ⟨"HillTap", "findFits", "()V"⟩ ∈ tb := tbm_p 33 rfl rfl
theorem mP_34 : Cond.selects "HillTap" ⟨"HillTap", "countFitsUpTo", "(I)I"⟩ ⟨"HillTap", "countFitsUpTo", "(I)I"⟩ ∈ tb := tbm_p 34 rfl rfl
theorem mP_35 : Cond.selects "HillTap" ⟨"HillTap", "isFit", "(I)Z"⟩ ⟨"HillTap", "isFit", "(I)Z"⟩ ∈ tb := tbm_p 35 rfl rfl
theorem mP_36 : Cond.selects "HillTap" ⟨"HillTap", "weightOfFits", "()I"⟩ ⟨"HillTap", "weightOfFits", "()I"⟩ ∈ tb := tbm_p 36 rfl rfl
theorem mP_37 : Cond.selects "HillTap" ⟨"HillTap", "countLettings", "()I"⟩ ⟨"HillTap", "countLettings", "()I"⟩ ∈ tb := tbm_p 37 rfl rfl
theorem mP_38 : Cond.selects "HillTap" ⟨"HillTap", "isLetting", "(I)Z"⟩ ⟨"HillTap", "isLetting", "(I)Z"⟩ ∈ tb := tbm_p 38 rfl rfl
theorem mP_39 : Cond.selects "HillTap" ⟨"HillTap", "falls", "(I)Z"⟩ ⟨"HillTap", "falls", "(I)Z"⟩ ∈ tb := tbm_p 39 rfl rfl
theorem mP_40 : Cond.selects "HillTap" ⟨"HillTap", "tapOf", "(I)I"⟩ ⟨"HillTap", "tapOf", "(I)I"⟩ ∈ tb := tbm_p 40 rfl rfl
theorem mP_41 : Cond.selects "HillTap" ⟨"HillTap", "staysIfDownFrom", "(II)Z"⟩ ⟨"HillTap", "staysIfDownFrom", "(II)Z"⟩ ∈ tb := tbm_p 41 rfl rfl
theorem mP_42 : Cond.selects "HillTap" ⟨"HillTap", "staysIfSteady", "(II)Z"⟩ ⟨"HillTap", "staysIfSteady", "(II)Z"⟩ ∈ tb := tbm_p 42 rfl rfl
theorem mP_43 : Cond.selects "HillTap" ⟨"HillTap", "greatestAlike", "(I)I"⟩ ⟨"HillTap", "greatestAlike", "(I)I"⟩ ∈ tb := tbm_p 43 rfl rfl
theorem mP_44 : Cond.selects "HillTap" ⟨"HillTap", "weightFinding", "(I)I"⟩ ⟨"HillTap", "weightFinding", "(I)I"⟩ ∈ tb := tbm_p 44 rfl rfl
theorem mP_45 : Cond.selects "HillTap" ⟨"HillTap", "isVillage", "(I)Z"⟩ ⟨"HillTap", "isVillage", "(I)Z"⟩ ∈ tb := tbm_p 45 rfl rfl
theorem mP_46 : Cond.selects "HillTap" ⟨"HillTap", "strikes", "(II)Z"⟩ ⟨"HillTap", "strikes", "(II)Z"⟩ ∈ tb := tbm_p 46 rfl rfl
theorem mP_48 : Cond.selects "HillTapModel" ⟨"HillTapModel", "refused", "(I)I"⟩ ⟨"HillTapModel", "refused", "(I)I"⟩ ∈ tb := tbm_p 48 rfl rfl
theorem mP_49 : Cond.selects "HillTapModel" ⟨"HillTapModel", "goesOn", "()V"⟩ ⟨"HillTapModel", "goesOn", "()V"⟩ ∈ tb := tbm_p 49 rfl rfl
theorem mP_50 : Cond.selects "HillTapModel" ⟨"HillTapModel", "byteAt", "(I)I"⟩ ⟨"HillTapModel", "byteAt", "(I)I"⟩ ∈ tb := tbm_p 50 rfl rfl
theorem mP_51 : Cond.selects "HillTapModel" ⟨"HillTapModel", "readHill", "()V"⟩ ⟨"HillTapModel", "readHill", "()V"⟩ ∈ tb := tbm_p 51 rfl rfl
theorem mP_52 : Cond.selects "HillTapModel" ⟨"HillTapModel", "readLine", "()V"⟩ ⟨"HillTapModel", "readLine", "()V"⟩ ∈ tb := tbm_p 52 rfl rfl
theorem mP_53 : Cond.selects "HillTapModel" ⟨"HillTapModel", "isWord", "(Ljava/lang/String;)Z"⟩ ⟨"HillTapModel", "isWord", "(Ljava/lang/String;)Z"⟩ ∈ tb := tbm_p 53 rfl rfl
theorem mP_54 : Cond.selects "HillTapModel" ⟨"HillTapModel", "readLake", "()V"⟩ ⟨"HillTapModel", "readLake", "()V"⟩ ∈ tb := tbm_p 54 rfl rfl
theorem mP_55 : Cond.selects "HillTapModel" ⟨"HillTapModel", "wrong", "(I)V"⟩ ⟨"HillTapModel", "wrong", "(I)V"⟩ ∈ tb := tbm_p 55 rfl rfl
theorem mP_56 : Cond.selects "HillTapModel" ⟨"HillTapModel", "readPart", "(Ljava/lang/String;II)I"⟩ ⟨"HillTapModel", "readPart", "(Ljava/lang/String;II)I"⟩ ∈ tb := tbm_p 56 rfl rfl
theorem mP_57 : Cond.selects "HillTapModel" ⟨"HillTapModel", "readWhole", "(II)I"⟩ ⟨"HillTapModel", "readWhole", "(II)I"⟩ ∈ tb := tbm_p 57 rfl rfl
theorem mP_58 : Cond.selects "HillTapModel" ⟨"HillTapModel", "readPeg", "()V"⟩ ⟨"HillTapModel", "readPeg", "()V"⟩ ∈ tb := tbm_p 58 rfl rfl
theorem mP_59 : Cond.selects "HillTapModel" ⟨"HillTapModel", "begins", "(II)V"⟩ ⟨"HillTapModel", "begins", "(II)V"⟩ ∈ tb := tbm_p 59 rfl rfl
theorem mP_60 : Cond.selects "HillTapModel" ⟨"HillTapModel", "readFresh", "(II)V"⟩ ⟨"HillTapModel", "readFresh", "(II)V"⟩ ∈ tb := tbm_p 60 rfl rfl
theorem mP_61 : Cond.selects "HillTapModel" ⟨"HillTapModel", "isName", "()Z"⟩ ⟨"HillTapModel", "isName", "()Z"⟩ ∈ tb := tbm_p 61 rfl rfl
theorem mP_62 : Cond.selects "HillTapModel" ⟨"HillTapModel", "readFrom", "()V"⟩ ⟨"HillTapModel", "readFrom", "()V"⟩ ∈ tb := tbm_p 62 rfl rfl
theorem mP_63 : Cond.selects "HillTapModel" ⟨"HillTapModel", "readRain", "()V"⟩ ⟨"HillTapModel", "readRain", "()V"⟩ ∈ tb := tbm_p 63 rfl rfl
theorem mP_64 : Cond.selects "HillTapModel" ⟨"HillTapModel", "readStory", "()V"⟩ ⟨"HillTapModel", "readStory", "()V"⟩ ∈ tb := tbm_p 64 rfl rfl
theorem mP_65 : Cond.selects "HillTapModel" ⟨"HillTapModel", "readVillage", "()V"⟩ ⟨"HillTapModel", "readVillage", "()V"⟩ ∈ tb := tbm_p 65 rfl rfl
theorem mP_66 : Cond.selects "HillTapModel" ⟨"HillTapModel", "readKnower", "()V"⟩ ⟨"HillTapModel", "readKnower", "()V"⟩ ∈ tb := tbm_p 66 rfl rfl
theorem mP_67 : Cond.selects "HillTapModel" ⟨"HillTapModel", "done", "(I)I"⟩ ⟨"HillTapModel", "done", "(I)I"⟩ ∈ tb := tbm_p 67 rfl rfl
theorem mP_68 : Cond.selects "HillTapModel" ⟨"HillTapModel", "isDay", "(I)Z"⟩ ⟨"HillTapModel", "isDay", "(I)Z"⟩ ∈ tb := tbm_p 68 rfl rfl
theorem mP_69 : Cond.selects "HillTapModel" ⟨"HillTapModel", "fills", "(II)V"⟩ ⟨"HillTapModel", "fills", "(II)V"⟩ ∈ tb := tbm_p 69 rfl rfl
theorem mP_70 : Cond.selects "HillTapModel" ⟨"HillTapModel", "goalOf", "(I)I"⟩ ⟨"HillTapModel", "goalOf", "(I)I"⟩ ∈ tb := tbm_p 70 rfl rfl
theorem mP_71 : Cond.selects "HillTapModel" ⟨"HillTapModel", "isStory", "(I)Z"⟩ ⟨"HillTapModel", "isStory", "(I)Z"⟩ ∈ tb := tbm_p 71 rfl rfl
theorem mP_72 : Cond.selects "HillTapModel" ⟨"HillTapModel", "isPeg", "(I)Z"⟩ ⟨"HillTapModel", "isPeg", "(I)Z"⟩ ∈ tb := tbm_p 72 rfl rfl
theorem mP_73 : Cond.selects "HillTapModel" ⟨"HillTapModel", "runsAsTold", "(I)V"⟩ ⟨"HillTapModel", "runsAsTold", "(I)V"⟩ ∈ tb := tbm_p 73 rfl rfl
theorem mP_74 : Cond.selects "HillTapModel" ⟨"HillTapModel", "runs", "(IZ)V"⟩ ⟨"HillTapModel", "runs", "(IZ)V"⟩ ∈ tb := tbm_p 74 rfl rfl
theorem mP_75 : Cond.selects "HillTapModel" ⟨"HillTapModel", "addOf", "(IIZ)I"⟩ ⟨"HillTapModel", "addOf", "(IIZ)I"⟩ ∈ tb := tbm_p 75 rfl rfl
theorem mP_76 : Cond.selects "HillTapModel" ⟨"HillTapModel", "newOf", "(II)I"⟩ ⟨"HillTapModel", "newOf", "(II)I"⟩ ∈ tb := tbm_p 76 rfl rfl
theorem mP_77 : Cond.selects "HillTapModel" ⟨"HillTapModel", "meanOf", "(II)I"⟩ ⟨"HillTapModel", "meanOf", "(II)I"⟩ ∈ tb := tbm_p 77 rfl rfl
theorem mP_78 : Cond.selects "HillTapModel" ⟨"HillTapModel", "rainOf", "(I)I"⟩ ⟨"HillTapModel", "rainOf", "(I)I"⟩ ∈ tb := tbm_p 78 rfl rfl
theorem mP_79 : Cond.selects "HillTapModel" ⟨"HillTapModel", "speedOf", "(IIII)I"⟩ ⟨"HillTapModel", "speedOf", "(IIII)I"⟩ ∈ tb := tbm_p 79 rfl rfl
theorem mP_80 : Cond.selects "HillTapModel" ⟨"HillTapModel", "waveOf", "()I"⟩ ⟨"HillTapModel", "waveOf", "()I"⟩ ∈ tb := tbm_p 80 rfl rfl
theorem mP_81 : Cond.selects "HillTapModel" ⟨"HillTapModel", "speeds", "(I)I"⟩ ⟨"HillTapModel", "speeds", "(I)I"⟩ ∈ tb := tbm_p 81 rfl rfl
theorem mP_82 : Cond.selects "HillTapModel" ⟨"HillTapModel", "fitsUpTo", "(I)I"⟩ ⟨"HillTapModel", "fitsUpTo", "(I)I"⟩ ∈ tb := tbm_p 82 rfl rfl
theorem mP_83 : Cond.selects "HillTapModel" ⟨"HillTapModel", "agrees", "(II)Z"⟩ ⟨"HillTapModel", "agrees", "(II)Z"⟩ ∈ tb := tbm_p 83 rfl rfl
theorem mP_84 : Cond.selects "HillTapModel" ⟨"HillTapModel", "weighs", "()I"⟩ ⟨"HillTapModel", "weighs", "()I"⟩ ∈ tb := tbm_p 84 rfl rfl
theorem mP_85 : Cond.selects "HillTapModel" ⟨"HillTapModel", "lettingsOf", "()I"⟩ ⟨"HillTapModel", "lettingsOf", "()I"⟩ ∈ tb := tbm_p 85 rfl rfl
theorem mP_86 : Cond.selects "HillTapModel" ⟨"HillTapModel", "isLetting", "(I)Z"⟩ ⟨"HillTapModel", "isLetting", "(I)Z"⟩ ∈ tb := tbm_p 86 rfl rfl
theorem mP_87 : Cond.selects "HillTapModel" ⟨"HillTapModel", "levelAt", "(I)I"⟩ ⟨"HillTapModel", "levelAt", "(I)I"⟩ ∈ tb := tbm_p 87 rfl rfl
theorem mP_88 : Cond.selects "HillTapModel" ⟨"HillTapModel", "tapOf", "(I)I"⟩ ⟨"HillTapModel", "tapOf", "(I)I"⟩ ∈ tb := tbm_p 88 rfl rfl
theorem mP_89 : Cond.selects "HillTapModel" ⟨"HillTapModel", "isHeld", "(I)Z"⟩ ⟨"HillTapModel", "isHeld", "(I)Z"⟩ ∈ tb := tbm_p 89 rfl rfl
theorem mP_90 : Cond.selects "HillTapModel" ⟨"HillTapModel", "isLine", "(III)Z"⟩ ⟨"HillTapModel", "isLine", "(III)Z"⟩ ∈ tb := tbm_p 90 rfl rfl
theorem mP_91 : Cond.selects "HillTapModel" ⟨"HillTapModel", "isHelp", "(II)Z"⟩ ⟨"HillTapModel", "isHelp", "(II)Z"⟩ ∈ tb := tbm_p 91 rfl rfl
theorem mP_92 : Cond.selects "HillTapModel" ⟨"HillTapModel", "foundBy", "(II)I"⟩ ⟨"HillTapModel", "foundBy", "(II)I"⟩ ∈ tb := tbm_p 92 rfl rfl
theorem mP_93 : Cond.selects "HillTapModel" ⟨"HillTapModel", "alikeAt", "(I)I"⟩ ⟨"HillTapModel", "alikeAt", "(I)I"⟩ ∈ tb := tbm_p 93 rfl rfl
theorem mP_94 : Cond.selects "HillTapModel" ⟨"HillTapModel", "isVillage", "(I)Z"⟩ ⟨"HillTapModel", "isVillage", "(I)Z"⟩ ∈ tb := tbm_p 94 rfl rfl
theorem mP_95 : Cond.selects "HillTapModel" ⟨"HillTapModel", "isStruck", "(I)Z"⟩ ⟨"HillTapModel", "isStruck", "(I)Z"⟩ ∈ tb := tbm_p 95 rfl rfl


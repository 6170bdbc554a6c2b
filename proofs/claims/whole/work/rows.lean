section
-- ===== PART A: goes FIRST, ahead of the names: the tables' words, and 'selects' of the private methods out of them =====
/-- a private method of a class that the tables say can be made, by its rows of tables_1 -/
def lw_okq (q : MethodName × Nat) : Prop := (q.1.cls ≠ "java/lang/invoke/MethodHandle" ∧ q.1.cls ≠ "java/lang/invoke/VarHandle") ∧ Cond.instantiable q.1.cls q.2 ∈ tables_1 ∧ Cond.privateMethod q.1 ∈ tables_1 ∧ Cond.instanceMethod q.1 ∈ tables_1
theorem lw_p0 : lw_okq (⟨"SeatRacing$Reader", "readWord", "()V"⟩, 6) := ⟨⟨by decide +kernel, by decide +kernel⟩, List.mem_of_getElem? (i := 71) (by decide +kernel), List.mem_of_getElem? (i := 269) (by decide +kernel), List.mem_of_getElem? (i := 270) (by decide +kernel)⟩
theorem lw_p1 : lw_okq (⟨"SeatRacing$Reader", "isWord", "(Ljava/lang/String;)Z"⟩, 6) := ⟨⟨by decide +kernel, by decide +kernel⟩, List.mem_of_getElem? (i := 71) (by decide +kernel), List.mem_of_getElem? (i := 274) (by decide +kernel), List.mem_of_getElem? (i := 275) (by decide +kernel)⟩
theorem lw_p2 : lw_okq (⟨"SeatRacing$Reader", "readNumber", "()V"⟩, 6) := ⟨⟨by decide +kernel, by decide +kernel⟩, List.mem_of_getElem? (i := 71) (by decide +kernel), List.mem_of_getElem? (i := 334) (by decide +kernel), List.mem_of_getElem? (i := 335) (by decide +kernel)⟩
theorem lw_p3 : lw_okq (⟨"SeatRacing$Teller", "readRowers", "()Z"⟩, 6) := ⟨⟨by decide +kernel, by decide +kernel⟩, List.mem_of_getElem? (i := 65) (by decide +kernel), List.mem_of_getElem? (i := 338) (by decide +kernel), List.mem_of_getElem? (i := 339) (by decide +kernel)⟩
theorem lw_p4 : lw_okq (⟨"SeatRacing$Teller", "refuse", "(I)Z"⟩, 6) := ⟨⟨by decide +kernel, by decide +kernel⟩, List.mem_of_getElem? (i := 65) (by decide +kernel), List.mem_of_getElem? (i := 342) (by decide +kernel), List.mem_of_getElem? (i := 343) (by decide +kernel)⟩
theorem lw_p5 : lw_okq (⟨"SeatRacing$Teller", "readBound", "()Z"⟩, 6) := ⟨⟨by decide +kernel, by decide +kernel⟩, List.mem_of_getElem? (i := 65) (by decide +kernel), List.mem_of_getElem? (i := 353) (by decide +kernel), List.mem_of_getElem? (i := 354) (by decide +kernel)⟩
theorem lw_p6 : lw_okq (⟨"SeatRacing$Teller", "readRace", "()Z"⟩, 6) := ⟨⟨by decide +kernel, by decide +kernel⟩, List.mem_of_getElem? (i := 65) (by decide +kernel), List.mem_of_getElem? (i := 360) (by decide +kernel), List.mem_of_getElem? (i := 361) (by decide +kernel)⟩
theorem lw_p7 : lw_okq (⟨"SeatRacing$Teller", "readCrew", "(Z)Z"⟩, 6) := ⟨⟨by decide +kernel, by decide +kernel⟩, List.mem_of_getElem? (i := 65) (by decide +kernel), List.mem_of_getElem? (i := 368) (by decide +kernel), List.mem_of_getElem? (i := 369) (by decide +kernel)⟩
theorem lw_p8 : lw_okq (⟨"SeatRacing$Teller", "readMargin", "()Z"⟩, 6) := ⟨⟨by decide +kernel, by decide +kernel⟩, List.mem_of_getElem? (i := 65) (by decide +kernel), List.mem_of_getElem? (i := 382) (by decide +kernel), List.mem_of_getElem? (i := 383) (by decide +kernel)⟩
theorem lw_p9 : lw_okq (⟨"SeatRacing", "judge", "()V"⟩, 12) := ⟨⟨by decide +kernel, by decide +kernel⟩, List.mem_of_getElem? (i := 20) (by decide +kernel), List.mem_of_getElem? (i := 391) (by decide +kernel), List.mem_of_getElem? (i := 392) (by decide +kernel)⟩
theorem lw_p10 : lw_okq (⟨"SeatRacing$Fit", "sweep", "(I)V"⟩, 6) := ⟨⟨by decide +kernel, by decide +kernel⟩, List.mem_of_getElem? (i := 126) (by decide +kernel), List.mem_of_getElem? (i := 411) (by decide +kernel), List.mem_of_getElem? (i := 412) (by decide +kernel)⟩
theorem lw_p11 : lw_okq (⟨"SeatRacing$Fit", "sweptTimes", "(I)J"⟩, 6) := ⟨⟨by decide +kernel, by decide +kernel⟩, List.mem_of_getElem? (i := 126) (by decide +kernel), List.mem_of_getElem? (i := 467) (by decide +kernel), List.mem_of_getElem? (i := 468) (by decide +kernel)⟩
theorem lw_p12 : lw_okq (⟨"SeatRacing", "countGroups", "()I"⟩, 12) := ⟨⟨by decide +kernel, by decide +kernel⟩, List.mem_of_getElem? (i := 20) (by decide +kernel), List.mem_of_getElem? (i := 471) (by decide +kernel), List.mem_of_getElem? (i := 472) (by decide +kernel)⟩
theorem lw_p13 : lw_okq (⟨"SeatRacing", "groupOf", "(I)I"⟩, 12) := ⟨⟨by decide +kernel, by decide +kernel⟩, List.mem_of_getElem? (i := 20) (by decide +kernel), List.mem_of_getElem? (i := 475) (by decide +kernel), List.mem_of_getElem? (i := 476) (by decide +kernel)⟩
theorem lw_p14 : lw_okq (⟨"SeatRacing", "tellForm", "(IIIZZ)J"⟩, 12) := ⟨⟨by decide +kernel, by decide +kernel⟩, List.mem_of_getElem? (i := 20) (by decide +kernel), List.mem_of_getElem? (i := 486) (by decide +kernel), List.mem_of_getElem? (i := 487) (by decide +kernel)⟩
theorem lw_p15 : lw_okq (⟨"SeatRacing", "tellFraction", "(JJZ)J"⟩, 12) := ⟨⟨by decide +kernel, by decide +kernel⟩, List.mem_of_getElem? (i := 20) (by decide +kernel), List.mem_of_getElem? (i := 498) (by decide +kernel), List.mem_of_getElem? (i := 499) (by decide +kernel)⟩
def lw_privs_1 : List (MethodName × Nat) := [(⟨"SeatRacing$Reader", "readWord", "()V"⟩, 6), (⟨"SeatRacing$Reader", "isWord", "(Ljava/lang/String;)Z"⟩, 6), (⟨"SeatRacing$Reader", "readNumber", "()V"⟩, 6), (⟨"SeatRacing$Teller", "readRowers", "()Z"⟩, 6), (⟨"SeatRacing$Teller", "refuse", "(I)Z"⟩, 6), (⟨"SeatRacing$Teller", "readBound", "()Z"⟩, 6), (⟨"SeatRacing$Teller", "readRace", "()Z"⟩, 6), (⟨"SeatRacing$Teller", "readCrew", "(Z)Z"⟩, 6), (⟨"SeatRacing$Teller", "readMargin", "()Z"⟩, 6), (⟨"SeatRacing", "judge", "()V"⟩, 12), (⟨"SeatRacing$Fit", "sweep", "(I)V"⟩, 6), (⟨"SeatRacing$Fit", "sweptTimes", "(I)J"⟩, 6), (⟨"SeatRacing", "countGroups", "()I"⟩, 12), (⟨"SeatRacing", "groupOf", "(I)I"⟩, 12), (⟨"SeatRacing", "tellForm", "(IIIZZ)J"⟩, 12), (⟨"SeatRacing", "tellFraction", "(JJZ)J"⟩, 12)]
theorem lw_r1 : ∀ q ∈ lw_privs_1, lw_okq q := List.forall_mem_cons.mpr ⟨lw_p0, List.forall_mem_cons.mpr ⟨lw_p1, List.forall_mem_cons.mpr ⟨lw_p2, List.forall_mem_cons.mpr ⟨lw_p3, List.forall_mem_cons.mpr ⟨lw_p4, List.forall_mem_cons.mpr ⟨lw_p5, List.forall_mem_cons.mpr ⟨lw_p6, List.forall_mem_cons.mpr ⟨lw_p7, List.forall_mem_cons.mpr ⟨lw_p8, List.forall_mem_cons.mpr ⟨lw_p9, List.forall_mem_cons.mpr ⟨lw_p10, List.forall_mem_cons.mpr ⟨lw_p11, List.forall_mem_cons.mpr ⟨lw_p12, List.forall_mem_cons.mpr ⟨lw_p13, List.forall_mem_cons.mpr ⟨lw_p14, List.forall_mem_cons.mpr ⟨lw_p15, fun _ h => absurd h List.not_mem_nil⟩⟩⟩⟩⟩⟩⟩⟩⟩⟩⟩⟩⟩⟩⟩⟩
theorem lw_p16 : lw_okq (⟨"SeatRacing", "scaledRest", "(I)J"⟩, 12) := ⟨⟨by decide +kernel, by decide +kernel⟩, List.mem_of_getElem? (i := 20) (by decide +kernel), List.mem_of_getElem? (i := 524) (by decide +kernel), List.mem_of_getElem? (i := 525) (by decide +kernel)⟩
theorem lw_p17 : lw_okq (⟨"SeatRacing", "thoseAheadOf", "(II)I"⟩, 12) := ⟨⟨by decide +kernel, by decide +kernel⟩, List.mem_of_getElem? (i := 20) (by decide +kernel), List.mem_of_getElem? (i := 544) (by decide +kernel), List.mem_of_getElem? (i := 545) (by decide +kernel)⟩
theorem lw_p18 : lw_okq (⟨"SeatRacing", "isAhead", "(III)Z"⟩, 12) := ⟨⟨by decide +kernel, by decide +kernel⟩, List.mem_of_getElem? (i := 20) (by decide +kernel), List.mem_of_getElem? (i := 548) (by decide +kernel), List.mem_of_getElem? (i := 549) (by decide +kernel)⟩
theorem lw_p19 : lw_okq (⟨"SeatRacing", "countSurelyBehind", "(I)I"⟩, 12) := ⟨⟨by decide +kernel, by decide +kernel⟩, List.mem_of_getElem? (i := 20) (by decide +kernel), List.mem_of_getElem? (i := 553) (by decide +kernel), List.mem_of_getElem? (i := 554) (by decide +kernel)⟩
theorem lw_p20 : lw_okq (⟨"SeatRacing", "areTwo", "(II)Z"⟩, 12) := ⟨⟨by decide +kernel, by decide +kernel⟩, List.mem_of_getElem? (i := 20) (by decide +kernel), List.mem_of_getElem? (i := 561) (by decide +kernel), List.mem_of_getElem? (i := 562) (by decide +kernel)⟩
theorem lw_p21 : lw_okq (⟨"SeatRacing", "chooseNext", "(I)Z"⟩, 12) := ⟨⟨by decide +kernel, by decide +kernel⟩, List.mem_of_getElem? (i := 20) (by decide +kernel), List.mem_of_getElem? (i := 578) (by decide +kernel), List.mem_of_getElem? (i := 579) (by decide +kernel)⟩
theorem lw_p22 : lw_okq (⟨"SeatRacing", "listMatches", "(I)I"⟩, 12) := ⟨⟨by decide +kernel, by decide +kernel⟩, List.mem_of_getElem? (i := 20) (by decide +kernel), List.mem_of_getElem? (i := 582) (by decide +kernel), List.mem_of_getElem? (i := 583) (by decide +kernel)⟩
theorem lw_p23 : lw_okq (⟨"SeatRacing", "isMatch", "(II)Z"⟩, 12) := ⟨⟨by decide +kernel, by decide +kernel⟩, List.mem_of_getElem? (i := 20) (by decide +kernel), List.mem_of_getElem? (i := 586) (by decide +kernel), List.mem_of_getElem? (i := 587) (by decide +kernel)⟩
theorem lw_p24 : lw_okq (⟨"SeatRacing", "chooseEven", "(I)Z"⟩, 12) := ⟨⟨by decide +kernel, by decide +kernel⟩, List.mem_of_getElem? (i := 20) (by decide +kernel), List.mem_of_getElem? (i := 625) (by decide +kernel), List.mem_of_getElem? (i := 626) (by decide +kernel)⟩
theorem lw_p25 : lw_okq (⟨"java/lang/Throwable", "fillInStackTrace", "(I)Ljava/lang/Throwable;"⟩, 6) := ⟨⟨by decide +kernel, by decide +kernel⟩, List.mem_of_getElem? (i := 674) (by decide +kernel), List.mem_of_getElem? (i := 672) (by decide +kernel), List.mem_of_getElem? (i := 673) (by decide +kernel)⟩
theorem lw_p26 : lw_okq (⟨"SeatRacingModel", "areCrews", "(II)Z"⟩, 26) := ⟨⟨by decide +kernel, by decide +kernel⟩, List.mem_of_getElem? (i := 704) (by decide +kernel), List.mem_of_getElem? (i := 808) (by decide +kernel), List.mem_of_getElem? (i := 809) (by decide +kernel)⟩
theorem lw_p27 : lw_okq (⟨"SeatRacingModel", "n", "()I"⟩, 26) := ⟨⟨by decide +kernel, by decide +kernel⟩, List.mem_of_getElem? (i := 704) (by decide +kernel), List.mem_of_getElem? (i := 812) (by decide +kernel), List.mem_of_getElem? (i := 813) (by decide +kernel)⟩
theorem lw_p28 : lw_okq (⟨"SeatRacingModel", "races", "()I"⟩, 26) := ⟨⟨by decide +kernel, by decide +kernel⟩, List.mem_of_getElem? (i := 704) (by decide +kernel), List.mem_of_getElem? (i := 819) (by decide +kernel), List.mem_of_getElem? (i := 820) (by decide +kernel)⟩
theorem lw_p29 : lw_okq (⟨"SeatRacingModel", "more", "(IIII)V"⟩, 26) := ⟨⟨by decide +kernel, by decide +kernel⟩, List.mem_of_getElem? (i := 704) (by decide +kernel), List.mem_of_getElem? (i := 823) (by decide +kernel), List.mem_of_getElem? (i := 824) (by decide +kernel)⟩
theorem lw_p30 : lw_okq (⟨"SeatRacingModel", "goes", "(I)V"⟩, 26) := ⟨⟨by decide +kernel, by decide +kernel⟩, List.mem_of_getElem? (i := 704) (by decide +kernel), List.mem_of_getElem? (i := 831) (by decide +kernel), List.mem_of_getElem? (i := 832) (by decide +kernel)⟩
theorem lw_p31 : lw_okq (⟨"SeatRacingModel", "of", "(II)I"⟩, 26) := ⟨⟨by decide +kernel, by decide +kernel⟩, List.mem_of_getElem? (i := 704) (by decide +kernel), List.mem_of_getElem? (i := 839) (by decide +kernel), List.mem_of_getElem? (i := 840) (by decide +kernel)⟩
def lw_privs_2 : List (MethodName × Nat) := [(⟨"SeatRacing", "scaledRest", "(I)J"⟩, 12), (⟨"SeatRacing", "thoseAheadOf", "(II)I"⟩, 12), (⟨"SeatRacing", "isAhead", "(III)Z"⟩, 12), (⟨"SeatRacing", "countSurelyBehind", "(I)I"⟩, 12), (⟨"SeatRacing", "areTwo", "(II)Z"⟩, 12), (⟨"SeatRacing", "chooseNext", "(I)Z"⟩, 12), (⟨"SeatRacing", "listMatches", "(I)I"⟩, 12), (⟨"SeatRacing", "isMatch", "(II)Z"⟩, 12), (⟨"SeatRacing", "chooseEven", "(I)Z"⟩, 12), (⟨"java/lang/Throwable", "fillInStackTrace", "(I)Ljava/lang/Throwable;"⟩, 6), (⟨"SeatRacingModel", "areCrews", "(II)Z"⟩, 26), (⟨"SeatRacingModel", "n", "()I"⟩, 26), (⟨"SeatRacingModel", "races", "()I"⟩, 26), (⟨"SeatRacingModel", "more", "(IIII)V"⟩, 26), (⟨"SeatRacingModel", "goes", "(I)V"⟩, 26), (⟨"SeatRacingModel", "of", "(II)I"⟩, 26)]
theorem lw_r2 : ∀ q ∈ lw_privs_2, lw_okq q := List.forall_mem_cons.mpr ⟨lw_p16, List.forall_mem_cons.mpr ⟨lw_p17, List.forall_mem_cons.mpr ⟨lw_p18, List.forall_mem_cons.mpr ⟨lw_p19, List.forall_mem_cons.mpr ⟨lw_p20, List.forall_mem_cons.mpr ⟨lw_p21, List.forall_mem_cons.mpr ⟨lw_p22, List.forall_mem_cons.mpr ⟨lw_p23, List.forall_mem_cons.mpr ⟨lw_p24, List.forall_mem_cons.mpr ⟨lw_p25, List.forall_mem_cons.mpr ⟨lw_p26, List.forall_mem_cons.mpr ⟨lw_p27, List.forall_mem_cons.mpr ⟨lw_p28, List.forall_mem_cons.mpr ⟨lw_p29, List.forall_mem_cons.mpr ⟨lw_p30, List.forall_mem_cons.mpr ⟨lw_p31, fun _ h => absurd h List.not_mem_nil⟩⟩⟩⟩⟩⟩⟩⟩⟩⟩⟩⟩⟩⟩⟩⟩
theorem lw_p32 : lw_okq (⟨"SeatRacingModel", "put", "(I)V"⟩, 26) := ⟨⟨by decide +kernel, by decide +kernel⟩, List.mem_of_getElem? (i := 704) (by decide +kernel), List.mem_of_getElem? (i := 847) (by decide +kernel), List.mem_of_getElem? (i := 848) (by decide +kernel)⟩
theorem lw_p33 : lw_okq (⟨"SeatRacingModel", "here", "()I"⟩, 26) := ⟨⟨by decide +kernel, by decide +kernel⟩, List.mem_of_getElem? (i := 704) (by decide +kernel), List.mem_of_getElem? (i := 859) (by decide +kernel), List.mem_of_getElem? (i := 860) (by decide +kernel)⟩
theorem lw_p34 : lw_okq (⟨"SeatRacingModel", "told", "()V"⟩, 26) := ⟨⟨by decide +kernel, by decide +kernel⟩, List.mem_of_getElem? (i := 704) (by decide +kernel), List.mem_of_getElem? (i := 863) (by decide +kernel), List.mem_of_getElem? (i := 864) (by decide +kernel)⟩
theorem lw_p35 : lw_okq (⟨"SeatRacingModel", "word", "()I"⟩, 26) := ⟨⟨by decide +kernel, by decide +kernel⟩, List.mem_of_getElem? (i := 704) (by decide +kernel), List.mem_of_getElem? (i := 867) (by decide +kernel), List.mem_of_getElem? (i := 868) (by decide +kernel)⟩
theorem lw_p36 : lw_okq (⟨"SeatRacingModel", "numberIn", "(II)I"⟩, 26) := ⟨⟨by decide +kernel, by decide +kernel⟩, List.mem_of_getElem? (i := 704) (by decide +kernel), List.mem_of_getElem? (i := 874) (by decide +kernel), List.mem_of_getElem? (i := 875) (by decide +kernel)⟩
theorem lw_p37 : lw_okq (⟨"SeatRacingModel", "number", "()I"⟩, 26) := ⟨⟨by decide +kernel, by decide +kernel⟩, List.mem_of_getElem? (i := 704) (by decide +kernel), List.mem_of_getElem? (i := 878) (by decide +kernel), List.mem_of_getElem? (i := 879) (by decide +kernel)⟩
theorem lw_p38 : lw_okq (⟨"SeatRacingModel", "isNumber", "()Z"⟩, 26) := ⟨⟨by decide +kernel, by decide +kernel⟩, List.mem_of_getElem? (i := 704) (by decide +kernel), List.mem_of_getElem? (i := 882) (by decide +kernel), List.mem_of_getElem? (i := 883) (by decide +kernel)⟩
theorem lw_p39 : lw_okq (⟨"SeatRacingModel", "isDigitAt", "(I)Z"⟩, 26) := ⟨⟨by decide +kernel, by decide +kernel⟩, List.mem_of_getElem? (i := 704) (by decide +kernel), List.mem_of_getElem? (i := 886) (by decide +kernel), List.mem_of_getElem? (i := 887) (by decide +kernel)⟩
theorem lw_p40 : lw_okq (⟨"SeatRacingModel", "fails", "(II)V"⟩, 26) := ⟨⟨by decide +kernel, by decide +kernel⟩, List.mem_of_getElem? (i := 704) (by decide +kernel), List.mem_of_getElem? (i := 890) (by decide +kernel), List.mem_of_getElem? (i := 891) (by decide +kernel)⟩
theorem lw_p41 : lw_okq (⟨"SeatRacingModel", "raceTold", "()V"⟩, 26) := ⟨⟨by decide +kernel, by decide +kernel⟩, List.mem_of_getElem? (i := 704) (by decide +kernel), List.mem_of_getElem? (i := 894) (by decide +kernel), List.mem_of_getElem? (i := 895) (by decide +kernel)⟩
theorem lw_p42 : lw_okq (⟨"SeatRacingModel", "crewTold", "(IZ)I"⟩, 26) := ⟨⟨by decide +kernel, by decide +kernel⟩, List.mem_of_getElem? (i := 704) (by decide +kernel), List.mem_of_getElem? (i := 898) (by decide +kernel), List.mem_of_getElem? (i := 899) (by decide +kernel)⟩
theorem lw_p43 : lw_okq (⟨"SeatRacingModel", "rower", "(IIZ)I"⟩, 26) := ⟨⟨by decide +kernel, by decide +kernel⟩, List.mem_of_getElem? (i := 704) (by decide +kernel), List.mem_of_getElem? (i := 902) (by decide +kernel), List.mem_of_getElem? (i := 903) (by decide +kernel)⟩
theorem lw_p44 : lw_okq (⟨"SeatRacingModel", "isRower", "(I)Z"⟩, 26) := ⟨⟨by decide +kernel, by decide +kernel⟩, List.mem_of_getElem? (i := 704) (by decide +kernel), List.mem_of_getElem? (i := 906) (by decide +kernel), List.mem_of_getElem? (i := 907) (by decide +kernel)⟩
theorem lw_p45 : lw_okq (⟨"SeatRacingModel", "lays", "()V"⟩, 26) := ⟨⟨by decide +kernel, by decide +kernel⟩, List.mem_of_getElem? (i := 704) (by decide +kernel), List.mem_of_getElem? (i := 922) (by decide +kernel), List.mem_of_getElem? (i := 923) (by decide +kernel)⟩
theorem lw_p46 : lw_okq (⟨"SeatRacingModel", "formOf", "(III)V"⟩, 26) := ⟨⟨by decide +kernel, by decide +kernel⟩, List.mem_of_getElem? (i := 704) (by decide +kernel), List.mem_of_getElem? (i := 926) (by decide +kernel), List.mem_of_getElem? (i := 927) (by decide +kernel)⟩
theorem lw_p47 : lw_okq (⟨"SeatRacingModel", "clearsForm", "()V"⟩, 26) := ⟨⟨by decide +kernel, by decide +kernel⟩, List.mem_of_getElem? (i := 704) (by decide +kernel), List.mem_of_getElem? (i := 930) (by decide +kernel), List.mem_of_getElem? (i := 931) (by decide +kernel)⟩
def lw_privs_3 : List (MethodName × Nat) := [(⟨"SeatRacingModel", "put", "(I)V"⟩, 26), (⟨"SeatRacingModel", "here", "()I"⟩, 26), (⟨"SeatRacingModel", "told", "()V"⟩, 26), (⟨"SeatRacingModel", "word", "()I"⟩, 26), (⟨"SeatRacingModel", "numberIn", "(II)I"⟩, 26), (⟨"SeatRacingModel", "number", "()I"⟩, 26), (⟨"SeatRacingModel", "isNumber", "()Z"⟩, 26), (⟨"SeatRacingModel", "isDigitAt", "(I)Z"⟩, 26), (⟨"SeatRacingModel", "fails", "(II)V"⟩, 26), (⟨"SeatRacingModel", "raceTold", "()V"⟩, 26), (⟨"SeatRacingModel", "crewTold", "(IZ)I"⟩, 26), (⟨"SeatRacingModel", "rower", "(IIZ)I"⟩, 26), (⟨"SeatRacingModel", "isRower", "(I)Z"⟩, 26), (⟨"SeatRacingModel", "lays", "()V"⟩, 26), (⟨"SeatRacingModel", "formOf", "(III)V"⟩, 26), (⟨"SeatRacingModel", "clearsForm", "()V"⟩, 26)]
theorem lw_r3 : ∀ q ∈ lw_privs_3, lw_okq q := List.forall_mem_cons.mpr ⟨lw_p32, List.forall_mem_cons.mpr ⟨lw_p33, List.forall_mem_cons.mpr ⟨lw_p34, List.forall_mem_cons.mpr ⟨lw_p35, List.forall_mem_cons.mpr ⟨lw_p36, List.forall_mem_cons.mpr ⟨lw_p37, List.forall_mem_cons.mpr ⟨lw_p38, List.forall_mem_cons.mpr ⟨lw_p39, List.forall_mem_cons.mpr ⟨lw_p40, List.forall_mem_cons.mpr ⟨lw_p41, List.forall_mem_cons.mpr ⟨lw_p42, List.forall_mem_cons.mpr ⟨lw_p43, List.forall_mem_cons.mpr ⟨lw_p44, List.forall_mem_cons.mpr ⟨lw_p45, List.forall_mem_cons.mpr ⟨lw_p46, List.forall_mem_cons.mpr ⟨lw_p47, fun _ h => absurd h List.not_mem_nil⟩⟩⟩⟩⟩⟩⟩⟩⟩⟩⟩⟩⟩⟩⟩⟩
theorem lw_p48 : lw_okq (⟨"SeatRacingModel", "comes", "(I)V"⟩, 26) := ⟨⟨by decide +kernel, by decide +kernel⟩, List.mem_of_getElem? (i := 704) (by decide +kernel), List.mem_of_getElem? (i := 934) (by decide +kernel), List.mem_of_getElem? (i := 935) (by decide +kernel)⟩
theorem lw_p49 : lw_okq (⟨"SeatRacingModel", "difference", "(II)V"⟩, 26) := ⟨⟨by decide +kernel, by decide +kernel⟩, List.mem_of_getElem? (i := 704) (by decide +kernel), List.mem_of_getElem? (i := 938) (by decide +kernel), List.mem_of_getElem? (i := 939) (by decide +kernel)⟩
theorem lw_p50 : lw_okq (⟨"SeatRacingModel", "isKnown", "()Z"⟩, 26) := ⟨⟨by decide +kernel, by decide +kernel⟩, List.mem_of_getElem? (i := 704) (by decide +kernel), List.mem_of_getElem? (i := 942) (by decide +kernel), List.mem_of_getElem? (i := 943) (by decide +kernel)⟩
theorem lw_p51 : lw_okq (⟨"SeatRacingModel", "solves", "()Z"⟩, 26) := ⟨⟨by decide +kernel, by decide +kernel⟩, List.mem_of_getElem? (i := 704) (by decide +kernel), List.mem_of_getElem? (i := 946) (by decide +kernel), List.mem_of_getElem? (i := 947) (by decide +kernel)⟩
theorem lw_p52 : lw_okq (⟨"SeatRacingModel", "rowAt", "(II)J"⟩, 26) := ⟨⟨by decide +kernel, by decide +kernel⟩, List.mem_of_getElem? (i := 704) (by decide +kernel), List.mem_of_getElem? (i := 950) (by decide +kernel), List.mem_of_getElem? (i := 951) (by decide +kernel)⟩
theorem lw_p53 : lw_okq (⟨"SeatRacingModel", "swaps", "(II)V"⟩, 26) := ⟨⟨by decide +kernel, by decide +kernel⟩, List.mem_of_getElem? (i := 704) (by decide +kernel), List.mem_of_getElem? (i := 954) (by decide +kernel), List.mem_of_getElem? (i := 955) (by decide +kernel)⟩
theorem lw_p54 : lw_okq (⟨"SeatRacingModel", "value", "()J"⟩, 26) := ⟨⟨by decide +kernel, by decide +kernel⟩, List.mem_of_getElem? (i := 704) (by decide +kernel), List.mem_of_getElem? (i := 958) (by decide +kernel), List.mem_of_getElem? (i := 959) (by decide +kernel)⟩
theorem lw_p55 : lw_okq (⟨"SeatRacingModel", "doubt", "()J"⟩, 26) := ⟨⟨by decide +kernel, by decide +kernel⟩, List.mem_of_getElem? (i := 704) (by decide +kernel), List.mem_of_getElem? (i := 975) (by decide +kernel), List.mem_of_getElem? (i := 976) (by decide +kernel)⟩
theorem lw_p56 : lw_okq (⟨"SeatRacingModel", "restOf", "(I)J"⟩, 26) := ⟨⟨by decide +kernel, by decide +kernel⟩, List.mem_of_getElem? (i := 704) (by decide +kernel), List.mem_of_getElem? (i := 987) (by decide +kernel), List.mem_of_getElem? (i := 988) (by decide +kernel)⟩
theorem lw_p57 : lw_okq (⟨"SeatRacingModel", "sumsUp", "()V"⟩, 26) := ⟨⟨by decide +kernel, by decide +kernel⟩, List.mem_of_getElem? (i := 704) (by decide +kernel), List.mem_of_getElem? (i := 995) (by decide +kernel), List.mem_of_getElem? (i := 996) (by decide +kernel)⟩
theorem lw_p58 : lw_okq (⟨"SeatRacingModel", "groupOf", "(I)I"⟩, 26) := ⟨⟨by decide +kernel, by decide +kernel⟩, List.mem_of_getElem? (i := 704) (by decide +kernel), List.mem_of_getElem? (i := 1007) (by decide +kernel), List.mem_of_getElem? (i := 1008) (by decide +kernel)⟩
theorem lw_p59 : lw_okq (⟨"SeatRacingModel", "isAhead", "(II)I"⟩, 26) := ⟨⟨by decide +kernel, by decide +kernel⟩, List.mem_of_getElem? (i := 704) (by decide +kernel), List.mem_of_getElem? (i := 1011) (by decide +kernel), List.mem_of_getElem? (i := 1012) (by decide +kernel)⟩
theorem lw_p60 : lw_okq (⟨"SeatRacingModel", "couples", "()I"⟩, 26) := ⟨⟨by decide +kernel, by decide +kernel⟩, List.mem_of_getElem? (i := 704) (by decide +kernel), List.mem_of_getElem? (i := 1019) (by decide +kernel), List.mem_of_getElem? (i := 1020) (by decide +kernel)⟩
theorem lw_p61 : lw_okq (⟨"SeatRacingModel", "groups", "()I"⟩, 26) := ⟨⟨by decide +kernel, by decide +kernel⟩, List.mem_of_getElem? (i := 704) (by decide +kernel), List.mem_of_getElem? (i := 1023) (by decide +kernel), List.mem_of_getElem? (i := 1024) (by decide +kernel)⟩
theorem lw_p62 : lw_okq (⟨"SeatRacingModel", "rankNow", "()I"⟩, 26) := ⟨⟨by decide +kernel, by decide +kernel⟩, List.mem_of_getElem? (i := 704) (by decide +kernel), List.mem_of_getElem? (i := 1027) (by decide +kernel), List.mem_of_getElem? (i := 1028) (by decide +kernel)⟩
theorem lw_p63 : lw_okq (⟨"SeatRacingModel", "isSwap", "(IIII)Z"⟩, 26) := ⟨⟨by decide +kernel, by decide +kernel⟩, List.mem_of_getElem? (i := 704) (by decide +kernel), List.mem_of_getElem? (i := 1039) (by decide +kernel), List.mem_of_getElem? (i := 1040) (by decide +kernel)⟩
def lw_privs_4 : List (MethodName × Nat) := [(⟨"SeatRacingModel", "comes", "(I)V"⟩, 26), (⟨"SeatRacingModel", "difference", "(II)V"⟩, 26), (⟨"SeatRacingModel", "isKnown", "()Z"⟩, 26), (⟨"SeatRacingModel", "solves", "()Z"⟩, 26), (⟨"SeatRacingModel", "rowAt", "(II)J"⟩, 26), (⟨"SeatRacingModel", "swaps", "(II)V"⟩, 26), (⟨"SeatRacingModel", "value", "()J"⟩, 26), (⟨"SeatRacingModel", "doubt", "()J"⟩, 26), (⟨"SeatRacingModel", "restOf", "(I)J"⟩, 26), (⟨"SeatRacingModel", "sumsUp", "()V"⟩, 26), (⟨"SeatRacingModel", "groupOf", "(I)I"⟩, 26), (⟨"SeatRacingModel", "isAhead", "(II)I"⟩, 26), (⟨"SeatRacingModel", "couples", "()I"⟩, 26), (⟨"SeatRacingModel", "groups", "()I"⟩, 26), (⟨"SeatRacingModel", "rankNow", "()I"⟩, 26), (⟨"SeatRacingModel", "isSwap", "(IIII)Z"⟩, 26)]
theorem lw_r4 : ∀ q ∈ lw_privs_4, lw_okq q := List.forall_mem_cons.mpr ⟨lw_p48, List.forall_mem_cons.mpr ⟨lw_p49, List.forall_mem_cons.mpr ⟨lw_p50, List.forall_mem_cons.mpr ⟨lw_p51, List.forall_mem_cons.mpr ⟨lw_p52, List.forall_mem_cons.mpr ⟨lw_p53, List.forall_mem_cons.mpr ⟨lw_p54, List.forall_mem_cons.mpr ⟨lw_p55, List.forall_mem_cons.mpr ⟨lw_p56, List.forall_mem_cons.mpr ⟨lw_p57, List.forall_mem_cons.mpr ⟨lw_p58, List.forall_mem_cons.mpr ⟨lw_p59, List.forall_mem_cons.mpr ⟨lw_p60, List.forall_mem_cons.mpr ⟨lw_p61, List.forall_mem_cons.mpr ⟨lw_p62, List.forall_mem_cons.mpr ⟨lw_p63, fun _ h => absurd h List.not_mem_nil⟩⟩⟩⟩⟩⟩⟩⟩⟩⟩⟩⟩⟩⟩⟩⟩
theorem lw_p64 : lw_okq (⟨"SeatRacingModel", "isMatch", "(III)Z"⟩, 26) := ⟨⟨by decide +kernel, by decide +kernel⟩, List.mem_of_getElem? (i := 704) (by decide +kernel), List.mem_of_getElem? (i := 1049) (by decide +kernel), List.mem_of_getElem? (i := 1050) (by decide +kernel)⟩
theorem lw_p65 : lw_okq (⟨"SeatRacingModel", "matched", "(II)V"⟩, 26) := ⟨⟨by decide +kernel, by decide +kernel⟩, List.mem_of_getElem? (i := 704) (by decide +kernel), List.mem_of_getElem? (i := 1053) (by decide +kernel), List.mem_of_getElem? (i := 1054) (by decide +kernel)⟩
def lw_privs_5 : List (MethodName × Nat) := [(⟨"SeatRacingModel", "isMatch", "(III)Z"⟩, 26), (⟨"SeatRacingModel", "matched", "(II)V"⟩, 26)]
theorem lw_r5 : ∀ q ∈ lw_privs_5, lw_okq q := List.forall_mem_cons.mpr ⟨lw_p64, List.forall_mem_cons.mpr ⟨lw_p65, fun _ h => absurd h List.not_mem_nil⟩⟩
def lw_privs : List (MethodName × Nat) := lw_privs_1 ++ (lw_privs_2 ++ (lw_privs_3 ++ (lw_privs_4 ++ (lw_privs_5))))
def lw_tbl : List Cond := k2_sels lw_privs ++ tables_1
theorem lw_privs_ok : ∀ q ∈ lw_privs, lw_okq q := by
  show ∀ q ∈ lw_privs_1 ++ (lw_privs_2 ++ (lw_privs_3 ++ (lw_privs_4 ++ (lw_privs_5)))), lw_okq q
  exact List.forall_mem_append.mpr ⟨lw_r1, List.forall_mem_append.mpr ⟨lw_r2, List.forall_mem_append.mpr ⟨lw_r3, List.forall_mem_append.mpr ⟨lw_r4, lw_r5⟩⟩⟩⟩
end
section
def RX0 : String := "SeatRacing$Choice"
def TX0 : u_T := fun k => match k with
  | 0 => ("SeatRacing$Choice", "a", "I", false)
  | 1 => ("SeatRacing$Choice", "b", "I", false)
  | 2 => ("SeatRacing$Choice", "known", "I", false)
  | _ => ("SeatRacing$Choice", "doubts", "LSeatRacing$Fraction;", true)
def tyX0 : Nat → FieldType := fun k => match k with
  | 0 => .int
  | 1 => .int
  | 2 => .int
  | _ => .object "SeatRacing$Fraction"
abbrev wsX00 : List Cond := u_ws RX0 TX0 4
theorem nmX0 : ∀ a, a < 4 → ∀ b, b < 4 → a ≠ b → (TX0 a).2.1 ≠ (TX0 b).2.1 := by decide +kernel
theorem tyX0_ok : ∀ k, k < 4 → parseFieldDescriptor (TX0 k).2.2.1 = some (tyX0 k) := by decide +kernel
abbrev cX0_init : ByteArray := prog_2_method_1_code
def yX0_init : MethodName := ⟨RX0, "<init>", "()V"⟩
def RX1 : String := "SeatRacing$Fit"
def TX1 : u_T := fun k => match k with
  | 0 => ("SeatRacing$Fit", "scale", "J", false)
  | 1 => ("SeatRacing$Fit", "independent", "I", false)
  | 2 => ("SeatRacing$Fit", "gram", "[[J", true)
  | 3 => ("SeatRacing$Fit", "table", "[[J", true)
  | 4 => ("SeatRacing$Fit", "swept", "[Z", true)
  | _ => ("SeatRacing$Fit", "form", "[I", true)
def tyX1 : Nat → FieldType := fun k => match k with
  | 0 => .long
  | 1 => .int
  | 2 => .array (.array .long)
  | 3 => .array (.array .long)
  | 4 => .array .boolean
  | _ => .array .int
abbrev wsX10 : List Cond := u_ws RX1 TX1 6
theorem nmX1 : ∀ a, a < 6 → ∀ b, b < 6 → a ≠ b → (TX1 a).2.1 ≠ (TX1 b).2.1 := by decide +kernel
theorem tyX1_ok : ∀ k, k < 6 → parseFieldDescriptor (TX1 k).2.2.1 = some (tyX1 k) := by decide +kernel
abbrev cX1_init : ByteArray := prog_3_method_1_code
def yX1_init : MethodName := ⟨RX1, "<init>", "()V"⟩
abbrev cX1_clear : ByteArray := prog_3_method_2_code
def yX1_clear : MethodName := ⟨RX1, "clear", "()V"⟩
abbrev cX1_copyForms : ByteArray := prog_3_method_3_code
def yX1_copyForms : MethodName := ⟨RX1, "copyForms", "(LSeatRacing$Fit;)V"⟩
abbrev cX1_copyMargins : ByteArray := prog_3_method_4_code
def yX1_copyMargins : MethodName := ⟨RX1, "copyMargins", "(LSeatRacing$Fit;)V"⟩
abbrev cX1_load : ByteArray := prog_3_method_5_code
def yX1_load : MethodName := ⟨RX1, "load", "(IIII)V"⟩
abbrev cX1_include : ByteArray := prog_3_method_6_code
def yX1_include : MethodName := ⟨RX1, "include", "(I)V"⟩
abbrev cX1_solve : ByteArray := prog_3_method_7_code
def yX1_solve : MethodName := ⟨RX1, "solve", "()V"⟩
abbrev cX1_sweep : ByteArray := prog_3_method_8_code
def yX1_sweep : MethodName := ⟨RX1, "sweep", "(I)V"⟩
abbrev cX1_isKnown : ByteArray := prog_3_method_9_code
def yX1_isKnown : MethodName := ⟨RX1, "isKnown", "()Z"⟩
abbrev cX1_scaledValue : ByteArray := prog_3_method_10_code
def yX1_scaledValue : MethodName := ⟨RX1, "scaledValue", "()J"⟩
abbrev cX1_scaledDoubt : ByteArray := prog_3_method_11_code
def yX1_scaledDoubt : MethodName := ⟨RX1, "scaledDoubt", "()J"⟩
abbrev cX1_scaledSum : ByteArray := prog_3_method_12_code
def yX1_scaledSum : MethodName := ⟨RX1, "scaledSum", "()J"⟩
abbrev cX1_sweptTimes : ByteArray := prog_3_method_13_code
def yX1_sweptTimes : MethodName := ⟨RX1, "sweptTimes", "(I)J"⟩
abbrev cX1_couplesKnown : ByteArray := prog_3_method_14_code
def yX1_couplesKnown : MethodName := ⟨RX1, "couplesKnown", "(I)I"⟩
abbrev cX1_scaledDoubts : ByteArray := prog_3_method_15_code
def yX1_scaledDoubts : MethodName := ⟨RX1, "scaledDoubts", "(I)J"⟩
def RX2 : String := "SeatRacing$Fraction"
def TX2 : u_T := fun k => match k with
  | 0 => ("SeatRacing$Fraction", "upper", "J", false)
  | _ => ("SeatRacing$Fraction", "lower", "J", false)
def tyX2 : Nat → FieldType := fun k => match k with
  | 0 => .long
  | _ => .long
abbrev wsX20 : List Cond := u_ws RX2 TX2 2
theorem nmX2 : ∀ a, a < 2 → ∀ b, b < 2 → a ≠ b → (TX2 a).2.1 ≠ (TX2 b).2.1 := by decide +kernel
theorem tyX2_ok : ∀ k, k < 2 → parseFieldDescriptor (TX2 k).2.2.1 = some (tyX2 k) := by decide +kernel
abbrev cX2_init : ByteArray := prog_4_method_1_code
def yX2_init : MethodName := ⟨RX2, "<init>", "()V"⟩
abbrev cX2_set : ByteArray := prog_4_method_2_code
def yX2_set : MethodName := ⟨RX2, "set", "(JJ)V"⟩
abbrev cX2_copyFrom : ByteArray := prog_4_method_3_code
def yX2_copyFrom : MethodName := ⟨RX2, "copyFrom", "(LSeatRacing$Fraction;)V"⟩
abbrev cX2_isBelow : ByteArray := prog_4_method_4_code
def yX2_isBelow : MethodName := ⟨RX2, "isBelow", "(LSeatRacing$Fraction;)Z"⟩
abbrev cX2_commonDivisor : ByteArray := prog_4_method_5_code
def yX2_commonDivisor : MethodName := ⟨RX2, "commonDivisor", "(JJ)J"⟩
def RX3 : String := "SeatRacing$Log"
def TX3 : u_T := fun k => match k with
  | 0 => ("SeatRacing$Log", "rowers", "I", false)
  | 1 => ("SeatRacing$Log", "bound", "I", false)
  | 2 => ("SeatRacing$Log", "races", "I", false)
  | 3 => ("SeatRacing$Log", "crewA", "[I", true)
  | 4 => ("SeatRacing$Log", "crewB", "[I", true)
  | 5 => ("SeatRacing$Log", "margin", "[I", true)
  | _ => ("SeatRacing$Log", "stream", "[I", true)
def tyX3 : Nat → FieldType := fun k => match k with
  | 0 => .int
  | 1 => .int
  | 2 => .int
  | 3 => .array .int
  | 4 => .array .int
  | 5 => .array .int
  | _ => .array .int
abbrev wsX30 : List Cond := u_ws RX3 TX3 7
theorem nmX3 : ∀ a, a < 7 → ∀ b, b < 7 → a ≠ b → (TX3 a).2.1 ≠ (TX3 b).2.1 := by decide +kernel
theorem tyX3_ok : ∀ k, k < 7 → parseFieldDescriptor (TX3 k).2.2.1 = some (tyX3 k) := by decide +kernel
abbrev cX3_init : ByteArray := prog_5_method_1_code
def yX3_init : MethodName := ⟨RX3, "<init>", "()V"⟩
abbrev cX3_isRowerCount : ByteArray := prog_5_method_2_code
def yX3_isRowerCount : MethodName := ⟨RX3, "isRowerCount", "(I)Z"⟩
abbrev cX3_isBound : ByteArray := prog_5_method_3_code
def yX3_isBound : MethodName := ⟨RX3, "isBound", "(I)Z"⟩
abbrev cX3_begin : ByteArray := prog_5_method_4_code
def yX3_begin : MethodName := ⟨RX3, "begin", "(I)V"⟩
abbrev cX3_copyFrom : ByteArray := prog_5_method_5_code
def yX3_copyFrom : MethodName := ⟨RX3, "copyFrom", "(LSeatRacing$Log;)V"⟩
abbrev cX3_hasRower : ByteArray := prog_5_method_6_code
def yX3_hasRower : MethodName := ⟨RX3, "hasRower", "(I)Z"⟩
abbrev cX3_hasRace : ByteArray := prog_5_method_7_code
def yX3_hasRace : MethodName := ⟨RX3, "hasRace", "(I)Z"⟩
abbrev cX3_isFull : ByteArray := prog_5_method_8_code
def yX3_isFull : MethodName := ⟨RX3, "isFull", "()Z"⟩
abbrev cX3_canRow : ByteArray := prog_5_method_9_code
def yX3_canRow : MethodName := ⟨RX3, "canRow", "(III)Z"⟩
abbrev cX3_append : ByteArray := prog_5_method_10_code
def yX3_append : MethodName := ⟨RX3, "append", "(IIII)V"⟩
abbrev cX3_remove : ByteArray := prog_5_method_11_code
def yX3_remove : MethodName := ⟨RX3, "remove", "(I)V"⟩
abbrev cX3_isSwap : ByteArray := prog_5_method_12_code
def yX3_isSwap : MethodName := ⟨RX3, "isSwap", "(IIII)Z"⟩
def RX4 : String := "SeatRacing$Reader"
def TX4 : u_T := fun k => match k with
  | 0 => ("SeatRacing$Reader", "length", "I", false)
  | 1 => ("SeatRacing$Reader", "kind", "I", false)
  | 2 => ("SeatRacing$Reader", "place", "I", false)
  | 3 => ("SeatRacing$Reader", "value", "I", false)
  | 4 => ("SeatRacing$Reader", "behind", "I", false)
  | _ => ("SeatRacing$Reader", "bytes", "[B", true)
def tyX4 : Nat → FieldType := fun k => match k with
  | 0 => .int
  | 1 => .int
  | 2 => .int
  | 3 => .int
  | 4 => .int
  | _ => .array .byte
abbrev wsX40 : List Cond := u_ws RX4 TX4 6
theorem nmX4 : ∀ a, a < 6 → ∀ b, b < 6 → a ≠ b → (TX4 a).2.1 ≠ (TX4 b).2.1 := by decide +kernel
theorem tyX4_ok : ∀ k, k < 6 → parseFieldDescriptor (TX4 k).2.2.1 = some (tyX4 k) := by decide +kernel
abbrev cX4_init : ByteArray := prog_6_method_1_code
def yX4_init : MethodName := ⟨RX4, "<init>", "()V"⟩
abbrev cX4_append : ByteArray := prog_6_method_2_code
def yX4_append : MethodName := ⟨RX4, "append", "(I)V"⟩
abbrev cX4_rewind : ByteArray := prog_6_method_3_code
def yX4_rewind : MethodName := ⟨RX4, "rewind", "()V"⟩
abbrev cX4_step : ByteArray := prog_6_method_4_code
def yX4_step : MethodName := ⟨RX4, "step", "()V"⟩
abbrev cX4_readWord : ByteArray := prog_6_method_5_code
def yX4_readWord : MethodName := ⟨RX4, "readWord", "()V"⟩
abbrev cX4_readNumber : ByteArray := prog_6_method_6_code
def yX4_readNumber : MethodName := ⟨RX4, "readNumber", "()V"⟩
abbrev cX4_isWord : ByteArray := prog_6_method_7_code
def yX4_isWord : MethodName := ⟨RX4, "isWord", "(Ljava/lang/String;)Z"⟩
abbrev cX4_isLetter : ByteArray := prog_6_method_8_code
def yX4_isLetter : MethodName := ⟨RX4, "isLetter", "(I)Z"⟩
abbrev cX4_isDigit : ByteArray := prog_6_method_9_code
def yX4_isDigit : MethodName := ⟨RX4, "isDigit", "(I)Z"⟩
def RX5 : String := "SeatRacing$Teller"
def TX5 : u_T := fun k => match k with
  | 0 => ("SeatRacing$Teller", "statements", "I", false)
  | 1 => ("SeatRacing$Teller", "flaw", "I", false)
  | 2 => ("SeatRacing$Teller", "reader", "LSeatRacing$Reader;", true)
  | 3 => ("SeatRacing$Teller", "draft", "LSeatRacing$Log;", true)
  | 4 => ("SeatRacing$Teller", "crewA", "I", false)
  | _ => ("SeatRacing$Teller", "crewB", "I", false)
def tyX5 : Nat → FieldType := fun k => match k with
  | 0 => .int
  | 1 => .int
  | 2 => .object "SeatRacing$Reader"
  | 3 => .object "SeatRacing$Log"
  | 4 => .int
  | _ => .int
abbrev wsX50 : List Cond := u_ws RX5 TX5 6
theorem nmX5 : ∀ a, a < 6 → ∀ b, b < 6 → a ≠ b → (TX5 a).2.1 ≠ (TX5 b).2.1 := by decide +kernel
theorem tyX5_ok : ∀ k, k < 6 → parseFieldDescriptor (TX5 k).2.2.1 = some (tyX5 k) := by decide +kernel
abbrev cX5_init : ByteArray := prog_7_method_1_code
def yX5_init : MethodName := ⟨RX5, "<init>", "()V"⟩
abbrev cX5_readAll : ByteArray := prog_7_method_2_code
def yX5_readAll : MethodName := ⟨RX5, "readAll", "()Z"⟩
abbrev cX5_refuse : ByteArray := prog_7_method_3_code
def yX5_refuse : MethodName := ⟨RX5, "refuse", "(I)Z"⟩
abbrev cX5_readRowers : ByteArray := prog_7_method_4_code
def yX5_readRowers : MethodName := ⟨RX5, "readRowers", "()Z"⟩
abbrev cX5_readBound : ByteArray := prog_7_method_5_code
def yX5_readBound : MethodName := ⟨RX5, "readBound", "()Z"⟩
abbrev cX5_readRace : ByteArray := prog_7_method_6_code
def yX5_readRace : MethodName := ⟨RX5, "readRace", "()Z"⟩
abbrev cX5_readCrew : ByteArray := prog_7_method_7_code
def yX5_readCrew : MethodName := ⟨RX5, "readCrew", "(Z)Z"⟩
abbrev cX5_readMargin : ByteArray := prog_7_method_8_code
def yX5_readMargin : MethodName := ⟨RX5, "readMargin", "()Z"⟩
def RX6 : String := "SeatRacing"
def TX6 : u_T := fun k => match k with
  | 0 => ("SeatRacing", "log", "LSeatRacing$Log;", true)
  | 1 => ("SeatRacing", "teller", "LSeatRacing$Teller;", true)
  | 2 => ("SeatRacing", "fit", "LSeatRacing$Fit;", true)
  | 3 => ("SeatRacing", "trial", "LSeatRacing$Fit;", true)
  | 4 => ("SeatRacing", "told", "LSeatRacing$Fraction;", true)
  | 5 => ("SeatRacing", "candidate", "LSeatRacing$Fraction;", true)
  | 6 => ("SeatRacing", "least", "LSeatRacing$Fraction;", true)
  | 7 => ("SeatRacing", "choice", "LSeatRacing$Choice;", true)
  | 8 => ("SeatRacing", "matchA", "[I", true)
  | 9 => ("SeatRacing", "matchB", "[I", true)
  | 10 => ("SeatRacing", "latestFault", "I", false)
  | _ => ("SeatRacing", "faultStatement", "I", false)
def tyX6 : Nat → FieldType := fun k => match k with
  | 0 => .object "SeatRacing$Log"
  | 1 => .object "SeatRacing$Teller"
  | 2 => .object "SeatRacing$Fit"
  | 3 => .object "SeatRacing$Fit"
  | 4 => .object "SeatRacing$Fraction"
  | 5 => .object "SeatRacing$Fraction"
  | 6 => .object "SeatRacing$Fraction"
  | 7 => .object "SeatRacing$Choice"
  | 8 => .array .int
  | 9 => .array .int
  | 10 => .int
  | _ => .int
abbrev wsX60 : List Cond := u_ws RX6 TX6 12
theorem nmX6 : ∀ a, a < 12 → ∀ b, b < 12 → a ≠ b → (TX6 a).2.1 ≠ (TX6 b).2.1 := by decide +kernel
theorem tyX6_ok : ∀ k, k < 12 → parseFieldDescriptor (TX6 k).2.2.1 = some (tyX6 k) := by decide +kernel
abbrev cX6_init : ByteArray := prog_1_method_1_code
def yX6_init : MethodName := ⟨RX6, "<init>", "()V"⟩
abbrev cX6_feed : ByteArray := prog_1_method_2_code
def yX6_feed : MethodName := ⟨RX6, "feed", "(IIIII)I"⟩
abbrev cX6_end : ByteArray := prog_1_method_3_code
def yX6_end : MethodName := ⟨RX6, "end", "(I)Z"⟩
abbrev cX6_tell : ByteArray := prog_1_method_4_code
def yX6_tell : MethodName := ⟨RX6, "tell", "()I"⟩
abbrev cX6_fault : ByteArray := prog_1_method_5_code
def yX6_fault : MethodName := ⟨RX6, "fault", "(I)I"⟩
abbrev cX6_crew : ByteArray := prog_1_method_6_code
def yX6_crew : MethodName := ⟨RX6, "crew", "(I)Z"⟩
abbrev cX6_limit : ByteArray := prog_1_method_7_code
def yX6_limit : MethodName := ⟨RX6, "limit", "(I)Z"⟩
abbrev cX6_race : ByteArray := prog_1_method_8_code
def yX6_race : MethodName := ⟨RX6, "race", "(IIII)I"⟩
abbrev cX6_strike : ByteArray := prog_1_method_9_code
def yX6_strike : MethodName := ⟨RX6, "strike", "(I)I"⟩
abbrev cX6_count : ByteArray := prog_1_method_10_code
def yX6_count : MethodName := ⟨RX6, "count", "(I)I"⟩
abbrev cX6_raced : ByteArray := prog_1_method_11_code
def yX6_raced : MethodName := ⟨RX6, "raced", "(II)I"⟩
abbrev cX6_difference : ByteArray := prog_1_method_12_code
def yX6_difference : MethodName := ⟨RX6, "difference", "(IIZ)J"⟩
abbrev cX6_doubt : ByteArray := prog_1_method_13_code
def yX6_doubt : MethodName := ⟨RX6, "doubt", "(IIZ)J"⟩
abbrev cX6_drift : ByteArray := prog_1_method_14_code
def yX6_drift : MethodName := ⟨RX6, "drift", "(Z)J"⟩
abbrev cX6_rest : ByteArray := prog_1_method_15_code
def yX6_rest : MethodName := ⟨RX6, "rest", "(IZ)J"⟩
abbrev cX6_sum : ByteArray := prog_1_method_16_code
def yX6_sum : MethodName := ⟨RX6, "sum", "(Z)J"⟩
abbrev cX6_guess : ByteArray := prog_1_method_17_code
def yX6_guess : MethodName := ⟨RX6, "guess", "(IIIZZ)J"⟩
abbrev cX6_rank : ByteArray := prog_1_method_18_code
def yX6_rank : MethodName := ⟨RX6, "rank", "(II)I"⟩
abbrev cX6_suit : ByteArray := prog_1_method_19_code
def yX6_suit : MethodName := ⟨RX6, "suit", "(IIZ)J"⟩
abbrev cX6_swaps : ByteArray := prog_1_method_20_code
def yX6_swaps : MethodName := ⟨RX6, "swaps", "(III)J"⟩
abbrev cX6_next : ByteArray := prog_1_method_21_code
def yX6_next : MethodName := ⟨RX6, "next", "(II)J"⟩
abbrev cX6_fewest : ByteArray := prog_1_method_22_code
def yX6_fewest : MethodName := ⟨RX6, "fewest", "(I)I"⟩
abbrev cX6_odd : ByteArray := prog_1_method_23_code
def yX6_odd : MethodName := ⟨RX6, "odd", "(I)J"⟩
abbrev cX6_even : ByteArray := prog_1_method_24_code
def yX6_even : MethodName := ⟨RX6, "even", "(II)I"⟩
abbrev cX6_judge : ByteArray := prog_1_method_25_code
def yX6_judge : MethodName := ⟨RX6, "judge", "()V"⟩
abbrev cX6_areTwo : ByteArray := prog_1_method_26_code
def yX6_areTwo : MethodName := ⟨RX6, "areTwo", "(II)Z"⟩
abbrev cX6_tellFraction : ByteArray := prog_1_method_27_code
def yX6_tellFraction : MethodName := ⟨RX6, "tellFraction", "(JJZ)J"⟩
abbrev cX6_tellForm : ByteArray := prog_1_method_28_code
def yX6_tellForm : MethodName := ⟨RX6, "tellForm", "(IIIZZ)J"⟩
abbrev cX6_scaledRest : ByteArray := prog_1_method_29_code
def yX6_scaledRest : MethodName := ⟨RX6, "scaledRest", "(I)J"⟩
abbrev cX6_groupOf : ByteArray := prog_1_method_30_code
def yX6_groupOf : MethodName := ⟨RX6, "groupOf", "(I)I"⟩
abbrev cX6_countGroups : ByteArray := prog_1_method_31_code
def yX6_countGroups : MethodName := ⟨RX6, "countGroups", "()I"⟩
abbrev cX6_isAhead : ByteArray := prog_1_method_32_code
def yX6_isAhead : MethodName := ⟨RX6, "isAhead", "(III)Z"⟩
abbrev cX6_thoseAheadOf : ByteArray := prog_1_method_33_code
def yX6_thoseAheadOf : MethodName := ⟨RX6, "thoseAheadOf", "(II)I"⟩
abbrev cX6_countSurelyBehind : ByteArray := prog_1_method_34_code
def yX6_countSurelyBehind : MethodName := ⟨RX6, "countSurelyBehind", "(I)I"⟩
abbrev cX6_listMatches : ByteArray := prog_1_method_35_code
def yX6_listMatches : MethodName := ⟨RX6, "listMatches", "(I)I"⟩
abbrev cX6_isMatch : ByteArray := prog_1_method_36_code
def yX6_isMatch : MethodName := ⟨RX6, "isMatch", "(II)Z"⟩
abbrev cX6_chooseNext : ByteArray := prog_1_method_37_code
def yX6_chooseNext : MethodName := ⟨RX6, "chooseNext", "(I)Z"⟩
abbrev cX6_chooseEven : ByteArray := prog_1_method_38_code
def yX6_chooseEven : MethodName := ⟨RX6, "chooseEven", "(I)Z"⟩
def RX7 : String := "SeatRacingModel"
def TX7 : u_T := fun k => match k with
  | 0 => ("SeatRacingModel", "thrown", "I", false)
  | 1 => ("SeatRacingModel", "now", "[I", true)
  | 2 => ("SeatRacingModel", "kept", "[I", true)
  | 3 => ("SeatRacingModel", "tape", "[B", true)
  | 4 => ("SeatRacingModel", "taped", "I", false)
  | 5 => ("SeatRacingModel", "fault", "I", false)
  | 6 => ("SeatRacingModel", "statement", "I", false)
  | 7 => ("SeatRacingModel", "length", "I", false)
  | 8 => ("SeatRacingModel", "at", "I", false)
  | 9 => ("SeatRacingModel", "from", "I", false)
  | 10 => ("SeatRacingModel", "form", "[I", true)
  | 11 => ("SeatRacingModel", "products", "[J", true)
  | 12 => ("SeatRacingModel", "sums", "[J", true)
  | 13 => ("SeatRacingModel", "row", "[J", true)
  | 14 => ("SeatRacingModel", "solved", "[J", true)
  | 15 => ("SeatRacingModel", "lead", "[I", true)
  | 16 => ("SeatRacingModel", "rank", "I", false)
  | 17 => ("SeatRacingModel", "by", "J", false)
  | 18 => ("SeatRacingModel", "wide", "I", false)
  | 19 => ("SeatRacingModel", "sumUp", "J", false)
  | 20 => ("SeatRacingModel", "doubts", "J", false)
  | 21 => ("SeatRacingModel", "bestA", "I", false)
  | 22 => ("SeatRacingModel", "bestB", "I", false)
  | 23 => ("SeatRacingModel", "bestMany", "I", false)
  | 24 => ("SeatRacingModel", "bestUp", "J", false)
  | _ => ("SeatRacingModel", "bestUnder", "J", false)
def tyX7 : Nat → FieldType := fun k => match k with
  | 0 => .int
  | 1 => .array .int
  | 2 => .array .int
  | 3 => .array .byte
  | 4 => .int
  | 5 => .int
  | 6 => .int
  | 7 => .int
  | 8 => .int
  | 9 => .int
  | 10 => .array .int
  | 11 => .array .long
  | 12 => .array .long
  | 13 => .array .long
  | 14 => .array .long
  | 15 => .array .int
  | 16 => .int
  | 17 => .long
  | 18 => .int
  | 19 => .long
  | 20 => .long
  | 21 => .int
  | 22 => .int
  | 23 => .int
  | 24 => .long
  | _ => .long
abbrev wsX70 : List Cond := u_ws RX7 TX7 26
theorem nmX7 : ∀ a, a < 26 → ∀ b, b < 26 → a ≠ b → (TX7 a).2.1 ≠ (TX7 b).2.1 := by decide +kernel
theorem tyX7_ok : ∀ k, k < 26 → parseFieldDescriptor (TX7 k).2.2.1 = some (tyX7 k) := by decide +kernel
abbrev cX7_init : ByteArray := prog_9_method_1_code
def yX7_init : MethodName := ⟨RX7, "<init>", "()V"⟩
abbrev cX7_thrown : ByteArray := prog_9_method_2_code
def yX7_thrown : MethodName := ⟨RX7, "thrown", "()I"⟩
abbrev cX7_isIn : ByteArray := prog_9_method_3_code
def yX7_isIn : MethodName := ⟨RX7, "isIn", "(III)Z"⟩
abbrev cX7_has : ByteArray := prog_9_method_4_code
def yX7_has : MethodName := ⟨RX7, "has", "(II)Z"⟩
abbrev cX7_bits : ByteArray := prog_9_method_5_code
def yX7_bits : MethodName := ⟨RX7, "bits", "(I)I"⟩
abbrev cX7_size : ByteArray := prog_9_method_6_code
def yX7_size : MethodName := ⟨RX7, "size", "(J)J"⟩
abbrev cX7_n : ByteArray := prog_9_method_7_code
def yX7_n : MethodName := ⟨RX7, "n", "()I"⟩
abbrev cX7_races : ByteArray := prog_9_method_8_code
def yX7_races : MethodName := ⟨RX7, "races", "()I"⟩
abbrev cX7_of : ByteArray := prog_9_method_9_code
def yX7_of : MethodName := ⟨RX7, "of", "(II)I"⟩
abbrev cX7_isRower : ByteArray := prog_9_method_10_code
def yX7_isRower : MethodName := ⟨RX7, "isRower", "(I)Z"⟩
abbrev cX7_areCrews : ByteArray := prog_9_method_11_code
def yX7_areCrews : MethodName := ⟨RX7, "areCrews", "(II)Z"⟩
abbrev cX7_more : ByteArray := prog_9_method_12_code
def yX7_more : MethodName := ⟨RX7, "more", "(IIII)V"⟩
abbrev cX7_crew : ByteArray := prog_9_method_13_code
def yX7_crew : MethodName := ⟨RX7, "crew", "(I)Z"⟩
abbrev cX7_limit : ByteArray := prog_9_method_14_code
def yX7_limit : MethodName := ⟨RX7, "limit", "(I)Z"⟩
abbrev cX7_race : ByteArray := prog_9_method_15_code
def yX7_race : MethodName := ⟨RX7, "race", "(IIII)I"⟩
abbrev cX7_goes : ByteArray := prog_9_method_16_code
def yX7_goes : MethodName := ⟨RX7, "goes", "(I)V"⟩
abbrev cX7_strike : ByteArray := prog_9_method_17_code
def yX7_strike : MethodName := ⟨RX7, "strike", "(I)I"⟩
abbrev cX7_raced : ByteArray := prog_9_method_18_code
def yX7_raced : MethodName := ⟨RX7, "raced", "(II)I"⟩
abbrev cX7_put : ByteArray := prog_9_method_19_code
def yX7_put : MethodName := ⟨RX7, "put", "(I)V"⟩
abbrev cX7_feed : ByteArray := prog_9_method_20_code
def yX7_feed : MethodName := ⟨RX7, "feed", "(IIIII)I"⟩
abbrev cX7_end : ByteArray := prog_9_method_21_code
def yX7_end : MethodName := ⟨RX7, "end", "(I)Z"⟩
abbrev cX7_here : ByteArray := prog_9_method_22_code
def yX7_here : MethodName := ⟨RX7, "here", "()I"⟩
abbrev cX7_fails : ByteArray := prog_9_method_23_code
def yX7_fails : MethodName := ⟨RX7, "fails", "(II)V"⟩
abbrev cX7_isDigitAt : ByteArray := prog_9_method_24_code
def yX7_isDigitAt : MethodName := ⟨RX7, "isDigitAt", "(I)Z"⟩
abbrev cX7_isNumber : ByteArray := prog_9_method_25_code
def yX7_isNumber : MethodName := ⟨RX7, "isNumber", "()Z"⟩
abbrev cX7_number : ByteArray := prog_9_method_26_code
def yX7_number : MethodName := ⟨RX7, "number", "()I"⟩
abbrev cX7_numberIn : ByteArray := prog_9_method_27_code
def yX7_numberIn : MethodName := ⟨RX7, "numberIn", "(II)I"⟩
abbrev cX7_word : ByteArray := prog_9_method_28_code
def yX7_word : MethodName := ⟨RX7, "word", "()I"⟩
abbrev cX7_letters : ByteArray := prog_9_method_29_code
def yX7_letters : MethodName := ⟨RX7, "letters", "(IIIII)I"⟩
abbrev cX7_rower : ByteArray := prog_9_method_30_code
def yX7_rower : MethodName := ⟨RX7, "rower", "(IIZ)I"⟩
abbrev cX7_crewTold : ByteArray := prog_9_method_31_code
def yX7_crewTold : MethodName := ⟨RX7, "crewTold", "(IZ)I"⟩
abbrev cX7_raceTold : ByteArray := prog_9_method_32_code
def yX7_raceTold : MethodName := ⟨RX7, "raceTold", "()V"⟩
abbrev cX7_told : ByteArray := prog_9_method_33_code
def yX7_told : MethodName := ⟨RX7, "told", "()V"⟩
abbrev cX7_tell : ByteArray := prog_9_method_34_code
def yX7_tell : MethodName := ⟨RX7, "tell", "()I"⟩
abbrev cX7_fault : ByteArray := prog_9_method_35_code
def yX7_fault : MethodName := ⟨RX7, "fault", "(I)I"⟩
abbrev cX7_clearsForm : ByteArray := prog_9_method_36_code
def yX7_clearsForm : MethodName := ⟨RX7, "clearsForm", "()V"⟩
abbrev cX7_formOf : ByteArray := prog_9_method_37_code
def yX7_formOf : MethodName := ⟨RX7, "formOf", "(III)V"⟩
abbrev cX7_difference : ByteArray := prog_9_method_38_code
def yX7_difference : MethodName := ⟨RX7, "difference", "(II)V"⟩
abbrev cX7_comes : ByteArray := prog_9_method_39_code
def yX7_comes : MethodName := ⟨RX7, "comes", "(I)V"⟩
abbrev cX7_lays : ByteArray := prog_9_method_40_code
def yX7_lays : MethodName := ⟨RX7, "lays", "()V"⟩
abbrev cX7_rowAt : ByteArray := prog_9_method_41_code
def yX7_rowAt : MethodName := ⟨RX7, "rowAt", "(II)J"⟩
abbrev cX7_swaps : ByteArray := prog_9_method_42_code
def yX7_swaps : MethodName := ⟨RX7, "swaps", "(II)V"⟩
abbrev cX7_solves : ByteArray := prog_9_method_43_code
def yX7_solves : MethodName := ⟨RX7, "solves", "()Z"⟩
abbrev cX7_isKnown : ByteArray := prog_9_method_44_code
def yX7_isKnown : MethodName := ⟨RX7, "isKnown", "()Z"⟩
abbrev cX7_value : ByteArray := prog_9_method_45_code
def yX7_value : MethodName := ⟨RX7, "value", "()J"⟩
abbrev cX7_doubt : ByteArray := prog_9_method_46_code
def yX7_doubt : MethodName := ⟨RX7, "doubt", "()J"⟩
abbrev cX7_common : ByteArray := prog_9_method_47_code
def yX7_common : MethodName := ⟨RX7, "common", "(JJ)J"⟩
abbrev cX7_told_ : ByteArray := prog_9_method_48_code
def yX7_told_ : MethodName := ⟨RX7, "told", "(JJZ)J"⟩
abbrev cX7_compared : ByteArray := prog_9_method_49_code
def yX7_compared : MethodName := ⟨RX7, "compared", "(JJJJ)I"⟩
abbrev cX7_difference_ : ByteArray := prog_9_method_50_code
def yX7_difference_ : MethodName := ⟨RX7, "difference", "(IIZ)J"⟩
abbrev cX7_doubt_ : ByteArray := prog_9_method_51_code
def yX7_doubt_ : MethodName := ⟨RX7, "doubt", "(IIZ)J"⟩
abbrev cX7_drift : ByteArray := prog_9_method_52_code
def yX7_drift : MethodName := ⟨RX7, "drift", "(Z)J"⟩
abbrev cX7_restOf : ByteArray := prog_9_method_53_code
def yX7_restOf : MethodName := ⟨RX7, "restOf", "(I)J"⟩
abbrev cX7_rest : ByteArray := prog_9_method_54_code
def yX7_rest : MethodName := ⟨RX7, "rest", "(IZ)J"⟩
abbrev cX7_sumsUp : ByteArray := prog_9_method_55_code
def yX7_sumsUp : MethodName := ⟨RX7, "sumsUp", "()V"⟩
abbrev cX7_sum : ByteArray := prog_9_method_56_code
def yX7_sum : MethodName := ⟨RX7, "sum", "(Z)J"⟩
abbrev cX7_guess : ByteArray := prog_9_method_57_code
def yX7_guess : MethodName := ⟨RX7, "guess", "(IIIZZ)J"⟩
abbrev cX7_isAhead : ByteArray := prog_9_method_58_code
def yX7_isAhead : MethodName := ⟨RX7, "isAhead", "(II)I"⟩
abbrev cX7_groupOf : ByteArray := prog_9_method_59_code
def yX7_groupOf : MethodName := ⟨RX7, "groupOf", "(I)I"⟩
abbrev cX7_rank : ByteArray := prog_9_method_60_code
def yX7_rank : MethodName := ⟨RX7, "rank", "(II)I"⟩
abbrev cX7_couples : ByteArray := prog_9_method_61_code
def yX7_couples : MethodName := ⟨RX7, "couples", "()I"⟩
abbrev cX7_rankNow : ByteArray := prog_9_method_62_code
def yX7_rankNow : MethodName := ⟨RX7, "rankNow", "()I"⟩
abbrev cX7_groups : ByteArray := prog_9_method_63_code
def yX7_groups : MethodName := ⟨RX7, "groups", "()I"⟩
abbrev cX7_count : ByteArray := prog_9_method_64_code
def yX7_count : MethodName := ⟨RX7, "count", "(I)I"⟩
abbrev cX7_suit : ByteArray := prog_9_method_65_code
def yX7_suit : MethodName := ⟨RX7, "suit", "(IIZ)J"⟩
abbrev cX7_isSwap : ByteArray := prog_9_method_66_code
def yX7_isSwap : MethodName := ⟨RX7, "isSwap", "(IIII)Z"⟩
abbrev cX7_swaps_ : ByteArray := prog_9_method_67_code
def yX7_swaps_ : MethodName := ⟨RX7, "swaps", "(III)J"⟩
abbrev cX7_isMatch : ByteArray := prog_9_method_68_code
def yX7_isMatch : MethodName := ⟨RX7, "isMatch", "(III)Z"⟩
abbrev cX7_matched : ByteArray := prog_9_method_69_code
def yX7_matched : MethodName := ⟨RX7, "matched", "(II)V"⟩
abbrev cX7_next : ByteArray := prog_9_method_70_code
def yX7_next : MethodName := ⟨RX7, "next", "(II)J"⟩
abbrev cX7_fewest : ByteArray := prog_9_method_71_code
def yX7_fewest : MethodName := ⟨RX7, "fewest", "(I)I"⟩
abbrev cX7_odd : ByteArray := prog_9_method_72_code
def yX7_odd : MethodName := ⟨RX7, "odd", "(I)J"⟩
abbrev cX7_even : ByteArray := prog_9_method_73_code
def yX7_even : MethodName := ⟨RX7, "even", "(II)I"⟩
def RJx145de : String := "java/io/Serializable"
def TJx145de : u_T := fun k => match k with
  | _ => ("", "", "", false)
def tyJx145de : Nat → FieldType := fun k => match k with
  | _ => .int
abbrev wsJx145de0 : List Cond := u_ws RJx145de TJx145de 0
theorem nmJx145de : ∀ a, a < 0 → ∀ b, b < 0 → a ≠ b → (TJx145de a).2.1 ≠ (TJx145de b).2.1 := by decide +kernel
theorem tyJx145de_ok : ∀ k, k < 0 → parseFieldDescriptor (TJx145de k).2.2.1 = some (tyJx145de k) := by decide +kernel
def RJx9f9b0 : String := "java/lang/CharSequence"
def TJx9f9b0 : u_T := fun k => match k with
  | _ => ("", "", "", false)
def tyJx9f9b0 : Nat → FieldType := fun k => match k with
  | _ => .int
abbrev wsJx9f9b00 : List Cond := u_ws RJx9f9b0 TJx9f9b0 0
theorem nmJx9f9b0 : ∀ a, a < 0 → ∀ b, b < 0 → a ≠ b → (TJx9f9b0 a).2.1 ≠ (TJx9f9b0 b).2.1 := by decide +kernel
theorem tyJx9f9b0_ok : ∀ k, k < 0 → parseFieldDescriptor (TJx9f9b0 k).2.2.1 = some (tyJx9f9b0 k) := by decide +kernel
def RJxb160c : String := "java/lang/Comparable"
def TJxb160c : u_T := fun k => match k with
  | _ => ("", "", "", false)
def tyJxb160c : Nat → FieldType := fun k => match k with
  | _ => .int
abbrev wsJxb160c0 : List Cond := u_ws RJxb160c TJxb160c 0
theorem nmJxb160c : ∀ a, a < 0 → ∀ b, b < 0 → a ≠ b → (TJxb160c a).2.1 ≠ (TJxb160c b).2.1 := by decide +kernel
theorem tyJxb160c_ok : ∀ k, k < 0 → parseFieldDescriptor (TJxb160c k).2.2.1 = some (tyJxb160c k) := by decide +kernel
def RJ6 : String := "java/lang/Integer"
def TJ6 : u_T := fun k => match k with
  | _ => ("", "", "", false)
def tyJ6 : Nat → FieldType := fun k => match k with
  | _ => .int
abbrev wsJ60 : List Cond := u_ws RJ6 TJ6 0
theorem nmJ6 : ∀ a, a < 0 → ∀ b, b < 0 → a ≠ b → (TJ6 a).2.1 ≠ (TJ6 b).2.1 := by decide +kernel
theorem tyJ6_ok : ∀ k, k < 0 → parseFieldDescriptor (TJ6 k).2.2.1 = some (tyJ6 k) := by decide +kernel
abbrev cJ6_bitCount_0f7a4 : ByteArray := prog_14_method_49_code
def yJ6_bitCount_0f7a4 : MethodName := ⟨RJ6, "bitCount", "(I)I"⟩
def RJ9 : String := "java/lang/Math"
def TJ9 : u_T := fun k => match k with
  | _ => ("", "", "", false)
def tyJ9 : Nat → FieldType := fun k => match k with
  | _ => .int
abbrev wsJ90 : List Cond := u_ws RJ9 TJ9 0
theorem nmJ9 : ∀ a, a < 0 → ∀ b, b < 0 → a ≠ b → (TJ9 a).2.1 ≠ (TJ9 b).2.1 := by decide +kernel
theorem tyJ9_ok : ∀ k, k < 0 → parseFieldDescriptor (TJ9 k).2.2.1 = some (tyJ9 k) := by decide +kernel
abbrev cJ9_abs_067f4 : ByteArray := prog_15_method_61_code
def yJ9_abs_067f4 : MethodName := ⟨RJ9, "abs", "(J)J"⟩
def RJ0 : String := "java/lang/String"
def TJ0 : u_T := fun k => match k with
  | _ => ("", "", "", false)
def tyJ0 : Nat → FieldType := fun k => match k with
  | _ => .int
abbrev wsJ00 : List Cond := u_ws RJ0 TJ0 0
theorem nmJ0 : ∀ a, a < 0 → ∀ b, b < 0 → a ≠ b → (TJ0 a).2.1 ≠ (TJ0 b).2.1 := by decide +kernel
theorem tyJ0_ok : ∀ k, k < 0 → parseFieldDescriptor (TJ0 k).2.2.1 = some (tyJ0 k) := by decide +kernel
abbrev cJ0_length_8abf5 : ByteArray := prog_17_method_54_code
def yJ0_length_8abf5 : MethodName := ⟨RJ0, "length", "()I"⟩
abbrev cJ0_charAt_5068e : ByteArray := prog_17_method_56_code
def yJ0_charAt_5068e : MethodName := ⟨RJ0, "charAt", "(I)C"⟩
abbrev cJ0_coder_7d493 : ByteArray := prog_17_method_152_code
def yJ0_coder_7d493 : MethodName := ⟨RJ0, "coder", "()B"⟩
abbrev cJ0_isLatin1_aae02 : ByteArray := prog_17_method_154_code
def yJ0_isLatin1_aae02 : MethodName := ⟨RJ0, "isLatin1", "()Z"⟩
abbrev cJ0_checkIndex_df160 : ByteArray := prog_17_method_155_code
def yJ0_checkIndex_df160 : MethodName := ⟨RJ0, "checkIndex", "(II)V"⟩
def RJ1 : String := "java/lang/StringLatin1"
def TJ1 : u_T := fun k => match k with
  | _ => ("", "", "", false)
def tyJ1 : Nat → FieldType := fun k => match k with
  | _ => .int
abbrev wsJ10 : List Cond := u_ws RJ1 TJ1 0
theorem nmJ1 : ∀ a, a < 0 → ∀ b, b < 0 → a ≠ b → (TJ1 a).2.1 ≠ (TJ1 b).2.1 := by decide +kernel
theorem tyJ1_ok : ∀ k, k < 0 → parseFieldDescriptor (TJ1 k).2.2.1 = some (tyJ1 k) := by decide +kernel
abbrev cJ1_charAt_3b067 : ByteArray := prog_18_method_2_code
def yJ1_charAt_3b067 : MethodName := ⟨RJ1, "charAt", "([BI)C"⟩
def RJ2 : String := "java/lang/StringUTF16"
def TJ2 : u_T := fun k => match k with
  | _ => ("", "", "", false)
def tyJ2 : Nat → FieldType := fun k => match k with
  | _ => .int
abbrev wsJ20 : List Cond := u_ws RJ2 TJ2 0
theorem nmJ2 : ∀ a, a < 0 → ∀ b, b < 0 → a ≠ b → (TJ2 a).2.1 ≠ (TJ2 b).2.1 := by decide +kernel
theorem tyJ2_ok : ∀ k, k < 0 → parseFieldDescriptor (TJ2 k).2.2.1 = some (tyJ2 k) := by decide +kernel
abbrev cJ2_getChar_3b067 : ByteArray := prog_19_method_5_code
def yJ2_getChar_3b067 : MethodName := ⟨RJ2, "getChar", "([BI)C"⟩
abbrev cJ2_length_9d52b : ByteArray := prog_19_method_6_code
def yJ2_length_9d52b : MethodName := ⟨RJ2, "length", "([B)I"⟩
abbrev cJ2_charAt_3b067 : ByteArray := prog_19_method_83_code
def yJ2_charAt_3b067 : MethodName := ⟨RJ2, "charAt", "([BI)C"⟩
abbrev cJ2_checkIndex_2214a : ByteArray := prog_19_method_91_code
def yJ2_checkIndex_2214a : MethodName := ⟨RJ2, "checkIndex", "(I[B)V"⟩
def RJxfd54e : String := "java/lang/constant/Constable"
def TJxfd54e : u_T := fun k => match k with
  | _ => ("", "", "", false)
def tyJxfd54e : Nat → FieldType := fun k => match k with
  | _ => .int
abbrev wsJxfd54e0 : List Cond := u_ws RJxfd54e TJxfd54e 0
theorem nmJxfd54e : ∀ a, a < 0 → ∀ b, b < 0 → a ≠ b → (TJxfd54e a).2.1 ≠ (TJxfd54e b).2.1 := by decide +kernel
theorem tyJxfd54e_ok : ∀ k, k < 0 → parseFieldDescriptor (TJxfd54e k).2.2.1 = some (tyJxfd54e k) := by decide +kernel
def RJx3cf43 : String := "java/lang/constant/ConstantDesc"
def TJx3cf43 : u_T := fun k => match k with
  | _ => ("", "", "", false)
def tyJx3cf43 : Nat → FieldType := fun k => match k with
  | _ => .int
abbrev wsJx3cf430 : List Cond := u_ws RJx3cf43 TJx3cf43 0
theorem nmJx3cf43 : ∀ a, a < 0 → ∀ b, b < 0 → a ≠ b → (TJx3cf43 a).2.1 ≠ (TJx3cf43 b).2.1 := by decide +kernel
theorem tyJx3cf43_ok : ∀ k, k < 0 → parseFieldDescriptor (TJx3cf43 k).2.2.1 = some (tyJx3cf43 k) := by decide +kernel
def RJ3 : String := "jdk/internal/util/Preconditions"
def TJ3 : u_T := fun k => match k with
  | _ => ("", "", "", false)
def tyJ3 : Nat → FieldType := fun k => match k with
  | _ => .int
abbrev wsJ30 : List Cond := u_ws RJ3 TJ3 0
theorem nmJ3 : ∀ a, a < 0 → ∀ b, b < 0 → a ≠ b → (TJ3 a).2.1 ≠ (TJ3 b).2.1 := by decide +kernel
theorem tyJ3_ok : ∀ k, k < 0 → parseFieldDescriptor (TJ3 k).2.2.1 = some (tyJ3 k) := by decide +kernel
abbrev cJ3_checkIndex_8e157 : ByteArray := prog_24_method_11_code
def yJ3_checkIndex_8e157 : MethodName := ⟨RJ3, "checkIndex", "(IILjava/util/function/BiFunction;)I"⟩
def RL : String := "SeatRacingLaw"
abbrev cL_raced : ByteArray := method_3_code
def yL_raced : MethodName := ⟨RL, "raced", "(LSeatRacing;II[J)I"⟩
abbrev cL_law : ByteArray := code
def yL_law : MethodName := ⟨RL, "law", "([I)Z"⟩
set_option maxRecDepth 20000 in
abbrev vwCl : List vw_C := [(RX0, TX0, 4), (RX1, TX1, 6), (RX2, TX2, 2), (RX3, TX3, 7), (RX4, TX4, 6), (RX5, TX5, 6), (RX6, TX6, 12), (RX7, TX7, 26)]
end
section
theorem dJ6_bitCount_0f7a4_0 : decode cJ6_bitCount_0f7a4 0 = .ok (.iload_n 0, 1) := by decide +kernel
theorem dJ6_bitCount_0f7a4_1 : decode cJ6_bitCount_0f7a4 1 = .ok (.iload_n 0, 1) := by decide +kernel
theorem dJ6_bitCount_0f7a4_2 : decode cJ6_bitCount_0f7a4 2 = .ok (.iconst 1, 1) := by decide +kernel
theorem dJ6_bitCount_0f7a4_3 : decode cJ6_bitCount_0f7a4 3 = .ok (.iushr, 1) := by decide +kernel
theorem dJ6_bitCount_0f7a4_4 : decode cJ6_bitCount_0f7a4 4 = .ok (.ldc_w 265, 3) := by decide +kernel
theorem dJ6_bitCount_0f7a4_7 : decode cJ6_bitCount_0f7a4 7 = .ok (.iand, 1) := by decide +kernel
theorem dJ6_bitCount_0f7a4_8 : decode cJ6_bitCount_0f7a4 8 = .ok (.isub, 1) := by decide +kernel
theorem dJ6_bitCount_0f7a4_9 : decode cJ6_bitCount_0f7a4 9 = .ok (.istore_n 0, 1) := by decide +kernel
theorem dJ6_bitCount_0f7a4_10 : decode cJ6_bitCount_0f7a4 10 = .ok (.iload_n 0, 1) := by decide +kernel
theorem dJ6_bitCount_0f7a4_11 : decode cJ6_bitCount_0f7a4 11 = .ok (.ldc_w 266, 3) := by decide +kernel
theorem dJ6_bitCount_0f7a4_14 : decode cJ6_bitCount_0f7a4 14 = .ok (.iand, 1) := by decide +kernel
theorem dJ6_bitCount_0f7a4_15 : decode cJ6_bitCount_0f7a4 15 = .ok (.iload_n 0, 1) := by decide +kernel
theorem dJ6_bitCount_0f7a4_16 : decode cJ6_bitCount_0f7a4 16 = .ok (.iconst 2, 1) := by decide +kernel
theorem dJ6_bitCount_0f7a4_17 : decode cJ6_bitCount_0f7a4 17 = .ok (.iushr, 1) := by decide +kernel
theorem dJ6_bitCount_0f7a4_18 : decode cJ6_bitCount_0f7a4 18 = .ok (.ldc_w 266, 3) := by decide +kernel
theorem dJ6_bitCount_0f7a4_21 : decode cJ6_bitCount_0f7a4 21 = .ok (.iand, 1) := by decide +kernel
theorem dJ6_bitCount_0f7a4_22 : decode cJ6_bitCount_0f7a4 22 = .ok (.iadd, 1) := by decide +kernel
theorem dJ6_bitCount_0f7a4_23 : decode cJ6_bitCount_0f7a4 23 = .ok (.istore_n 0, 1) := by decide +kernel
theorem dJ6_bitCount_0f7a4_24 : decode cJ6_bitCount_0f7a4 24 = .ok (.iload_n 0, 1) := by decide +kernel
theorem dJ6_bitCount_0f7a4_25 : decode cJ6_bitCount_0f7a4 25 = .ok (.iload_n 0, 1) := by decide +kernel
theorem dJ6_bitCount_0f7a4_26 : decode cJ6_bitCount_0f7a4 26 = .ok (.iconst 4, 1) := by decide +kernel
theorem dJ6_bitCount_0f7a4_27 : decode cJ6_bitCount_0f7a4 27 = .ok (.iushr, 1) := by decide +kernel
theorem dJ6_bitCount_0f7a4_28 : decode cJ6_bitCount_0f7a4 28 = .ok (.iadd, 1) := by decide +kernel
theorem dJ6_bitCount_0f7a4_29 : decode cJ6_bitCount_0f7a4 29 = .ok (.ldc_w 267, 3) := by decide +kernel
theorem dJ6_bitCount_0f7a4_32 : decode cJ6_bitCount_0f7a4 32 = .ok (.iand, 1) := by decide +kernel
theorem dJ6_bitCount_0f7a4_33 : decode cJ6_bitCount_0f7a4 33 = .ok (.istore_n 0, 1) := by decide +kernel
theorem dJ6_bitCount_0f7a4_34 : decode cJ6_bitCount_0f7a4 34 = .ok (.iload_n 0, 1) := by decide +kernel
theorem dJ6_bitCount_0f7a4_35 : decode cJ6_bitCount_0f7a4 35 = .ok (.iload_n 0, 1) := by decide +kernel
theorem dJ6_bitCount_0f7a4_36 : decode cJ6_bitCount_0f7a4 36 = .ok (.bipush 8, 2) := by decide +kernel
theorem dJ6_bitCount_0f7a4_38 : decode cJ6_bitCount_0f7a4 38 = .ok (.iushr, 1) := by decide +kernel
theorem dJ6_bitCount_0f7a4_39 : decode cJ6_bitCount_0f7a4 39 = .ok (.iadd, 1) := by decide +kernel
theorem dJ6_bitCount_0f7a4_40 : decode cJ6_bitCount_0f7a4 40 = .ok (.istore_n 0, 1) := by decide +kernel
theorem dJ6_bitCount_0f7a4_41 : decode cJ6_bitCount_0f7a4 41 = .ok (.iload_n 0, 1) := by decide +kernel
theorem dJ6_bitCount_0f7a4_42 : decode cJ6_bitCount_0f7a4 42 = .ok (.iload_n 0, 1) := by decide +kernel
theorem dJ6_bitCount_0f7a4_43 : decode cJ6_bitCount_0f7a4 43 = .ok (.bipush 16, 2) := by decide +kernel
theorem dJ6_bitCount_0f7a4_45 : decode cJ6_bitCount_0f7a4 45 = .ok (.iushr, 1) := by decide +kernel
theorem dJ6_bitCount_0f7a4_46 : decode cJ6_bitCount_0f7a4 46 = .ok (.iadd, 1) := by decide +kernel
theorem dJ6_bitCount_0f7a4_47 : decode cJ6_bitCount_0f7a4 47 = .ok (.istore_n 0, 1) := by decide +kernel
theorem dJ6_bitCount_0f7a4_48 : decode cJ6_bitCount_0f7a4 48 = .ok (.iload_n 0, 1) := by decide +kernel
theorem dJ6_bitCount_0f7a4_49 : decode cJ6_bitCount_0f7a4 49 = .ok (.bipush 63, 2) := by decide +kernel
theorem dJ6_bitCount_0f7a4_51 : decode cJ6_bitCount_0f7a4 51 = .ok (.iand, 1) := by decide +kernel
theorem dJ6_bitCount_0f7a4_52 : decode cJ6_bitCount_0f7a4 52 = .ok (.ireturn, 1) := by decide +kernel
theorem dJ9_abs_067f4_0 : decode cJ9_abs_067f4 0 = .ok (.lload_n 0, 1) := by decide +kernel
theorem dJ9_abs_067f4_1 : decode cJ9_abs_067f4 1 = .ok (.lconst 0, 1) := by decide +kernel
theorem dJ9_abs_067f4_2 : decode cJ9_abs_067f4 2 = .ok (.lcmp, 1) := by decide +kernel
theorem dJ9_abs_067f4_3 : decode cJ9_abs_067f4 3 = .ok (.ifCond .ge 8, 3) := by decide +kernel
theorem dJ9_abs_067f4_6 : decode cJ9_abs_067f4 6 = .ok (.lload_n 0, 1) := by decide +kernel
theorem dJ9_abs_067f4_7 : decode cJ9_abs_067f4 7 = .ok (.lneg, 1) := by decide +kernel
theorem dJ9_abs_067f4_8 : decode cJ9_abs_067f4 8 = .ok (.goto 4, 3) := by decide +kernel
theorem dJ9_abs_067f4_11 : decode cJ9_abs_067f4 11 = .ok (.lload_n 0, 1) := by decide +kernel
theorem dJ9_abs_067f4_12 : decode cJ9_abs_067f4 12 = .ok (.lreturn, 1) := by decide +kernel
theorem dJ0_length_8abf5_0 : decode cJ0_length_8abf5 0 = .ok (.aload_n 0, 1) := by decide +kernel
theorem dJ0_length_8abf5_1 : decode cJ0_length_8abf5 1 = .ok (.getfield 9, 3) := by decide +kernel
theorem dJ0_length_8abf5_4 : decode cJ0_length_8abf5 4 = .ok (.arraylength, 1) := by decide +kernel
theorem dJ0_length_8abf5_5 : decode cJ0_length_8abf5 5 = .ok (.aload_n 0, 1) := by decide +kernel
theorem dJ0_length_8abf5_6 : decode cJ0_length_8abf5 6 = .ok (.invokevirtual 335, 3) := by decide +kernel
theorem dJ0_length_8abf5_9 : decode cJ0_length_8abf5 9 = .ok (.ishr, 1) := by decide +kernel
theorem dJ0_length_8abf5_10 : decode cJ0_length_8abf5 10 = .ok (.ireturn, 1) := by decide +kernel
theorem dJ0_charAt_5068e_0 : decode cJ0_charAt_5068e 0 = .ok (.aload_n 0, 1) := by decide +kernel
theorem dJ0_charAt_5068e_1 : decode cJ0_charAt_5068e 1 = .ok (.invokevirtual 492, 3) := by decide +kernel
theorem dJ0_charAt_5068e_4 : decode cJ0_charAt_5068e 4 = .ok (.ifCond .eq 12, 3) := by decide +kernel
theorem dJ0_charAt_5068e_7 : decode cJ0_charAt_5068e 7 = .ok (.aload_n 0, 1) := by decide +kernel
theorem dJ0_charAt_5068e_8 : decode cJ0_charAt_5068e 8 = .ok (.getfield 9, 3) := by decide +kernel
theorem dJ0_charAt_5068e_11 : decode cJ0_charAt_5068e 11 = .ok (.iload_n 1, 1) := by decide +kernel
theorem dJ0_charAt_5068e_12 : decode cJ0_charAt_5068e 12 = .ok (.invokestatic 495, 3) := by decide +kernel
theorem dJ0_charAt_5068e_15 : decode cJ0_charAt_5068e 15 = .ok (.ireturn, 1) := by decide +kernel
theorem dJ0_charAt_5068e_16 : decode cJ0_charAt_5068e 16 = .ok (.aload_n 0, 1) := by decide +kernel
theorem dJ0_charAt_5068e_17 : decode cJ0_charAt_5068e 17 = .ok (.getfield 9, 3) := by decide +kernel
theorem dJ0_charAt_5068e_20 : decode cJ0_charAt_5068e 20 = .ok (.iload_n 1, 1) := by decide +kernel
theorem dJ0_charAt_5068e_21 : decode cJ0_charAt_5068e 21 = .ok (.invokestatic 498, 3) := by decide +kernel
theorem dJ0_charAt_5068e_24 : decode cJ0_charAt_5068e 24 = .ok (.ireturn, 1) := by decide +kernel
theorem dJ0_coder_7d493_0 : decode cJ0_coder_7d493 0 = .ok (.getstatic 38, 3) := by decide +kernel
theorem dJ0_coder_7d493_3 : decode cJ0_coder_7d493 3 = .ok (.ifCond .eq 10, 3) := by decide +kernel
theorem dJ0_coder_7d493_6 : decode cJ0_coder_7d493 6 = .ok (.aload_n 0, 1) := by decide +kernel
theorem dJ0_coder_7d493_7 : decode cJ0_coder_7d493 7 = .ok (.getfield 15, 3) := by decide +kernel
theorem dJ0_coder_7d493_10 : decode cJ0_coder_7d493 10 = .ok (.goto 4, 3) := by decide +kernel
theorem dJ0_coder_7d493_13 : decode cJ0_coder_7d493 13 = .ok (.iconst 1, 1) := by decide +kernel
theorem dJ0_coder_7d493_14 : decode cJ0_coder_7d493 14 = .ok (.ireturn, 1) := by decide +kernel
theorem dJ0_isLatin1_aae02_0 : decode cJ0_isLatin1_aae02 0 = .ok (.getstatic 38, 3) := by decide +kernel
theorem dJ0_isLatin1_aae02_3 : decode cJ0_isLatin1_aae02 3 = .ok (.ifCond .eq 14, 3) := by decide +kernel
theorem dJ0_isLatin1_aae02_6 : decode cJ0_isLatin1_aae02 6 = .ok (.aload_n 0, 1) := by decide +kernel
theorem dJ0_isLatin1_aae02_7 : decode cJ0_isLatin1_aae02 7 = .ok (.getfield 15, 3) := by decide +kernel
theorem dJ0_isLatin1_aae02_10 : decode cJ0_isLatin1_aae02 10 = .ok (.ifCond .ne 7, 3) := by decide +kernel
theorem dJ0_isLatin1_aae02_13 : decode cJ0_isLatin1_aae02 13 = .ok (.iconst 1, 1) := by decide +kernel
theorem dJ0_isLatin1_aae02_14 : decode cJ0_isLatin1_aae02 14 = .ok (.goto 4, 3) := by decide +kernel
theorem dJ0_isLatin1_aae02_17 : decode cJ0_isLatin1_aae02 17 = .ok (.iconst 0, 1) := by decide +kernel
theorem dJ0_isLatin1_aae02_18 : decode cJ0_isLatin1_aae02 18 = .ok (.ireturn, 1) := by decide +kernel
theorem dJ0_checkIndex_df160_0 : decode cJ0_checkIndex_df160 0 = .ok (.iload_n 0, 1) := by decide +kernel
theorem dJ0_checkIndex_df160_1 : decode cJ0_checkIndex_df160 1 = .ok (.iload_n 1, 1) := by decide +kernel
theorem dJ0_checkIndex_df160_2 : decode cJ0_checkIndex_df160 2 = .ok (.getstatic 1053, 3) := by decide +kernel
theorem dJ0_checkIndex_df160_5 : decode cJ0_checkIndex_df160 5 = .ok (.invokestatic 1059, 3) := by decide +kernel
theorem dJ0_checkIndex_df160_8 : decode cJ0_checkIndex_df160 8 = .ok (.pop, 1) := by decide +kernel
theorem dJ0_checkIndex_df160_9 : decode cJ0_checkIndex_df160 9 = .ok (.return_, 1) := by decide +kernel
theorem dJ1_charAt_3b067_0 : decode cJ1_charAt_3b067 0 = .ok (.iload_n 1, 1) := by decide +kernel
theorem dJ1_charAt_3b067_1 : decode cJ1_charAt_3b067 1 = .ok (.aload_n 0, 1) := by decide +kernel
theorem dJ1_charAt_3b067_2 : decode cJ1_charAt_3b067 2 = .ok (.arraylength, 1) := by decide +kernel
theorem dJ1_charAt_3b067_3 : decode cJ1_charAt_3b067 3 = .ok (.invokestatic 9, 3) := by decide +kernel
theorem dJ1_charAt_3b067_6 : decode cJ1_charAt_3b067 6 = .ok (.aload_n 0, 1) := by decide +kernel
theorem dJ1_charAt_3b067_7 : decode cJ1_charAt_3b067 7 = .ok (.iload_n 1, 1) := by decide +kernel
theorem dJ1_charAt_3b067_8 : decode cJ1_charAt_3b067 8 = .ok (.baload, 1) := by decide +kernel
theorem dJ1_charAt_3b067_9 : decode cJ1_charAt_3b067 9 = .ok (.sipush 255, 3) := by decide +kernel
theorem dJ1_charAt_3b067_12 : decode cJ1_charAt_3b067 12 = .ok (.iand, 1) := by decide +kernel
theorem dJ1_charAt_3b067_13 : decode cJ1_charAt_3b067 13 = .ok (.i2c, 1) := by decide +kernel
theorem dJ1_charAt_3b067_14 : decode cJ1_charAt_3b067 14 = .ok (.ireturn, 1) := by decide +kernel
theorem dJ2_getChar_3b067_0 : decode cJ2_getChar_3b067 0 = .ok (.getstatic 44, 3) := by decide +kernel
theorem dJ2_getChar_3b067_3 : decode cJ2_getChar_3b067 3 = .ok (.ifCond .ne 25, 3) := by decide +kernel
theorem dJ2_getChar_3b067_6 : decode cJ2_getChar_3b067 6 = .ok (.iload_n 1, 1) := by decide +kernel
theorem dJ2_getChar_3b067_7 : decode cJ2_getChar_3b067 7 = .ok (.ifCond .lt 11, 3) := by decide +kernel
theorem dJ2_getChar_3b067_10 : decode cJ2_getChar_3b067 10 = .ok (.iload_n 1, 1) := by decide +kernel
theorem dJ2_getChar_3b067_11 : decode cJ2_getChar_3b067 11 = .ok (.aload_n 0, 1) := by decide +kernel
theorem dJ2_getChar_3b067_12 : decode cJ2_getChar_3b067 12 = .ok (.invokestatic 48, 3) := by decide +kernel
theorem dJ2_getChar_3b067_15 : decode cJ2_getChar_3b067 15 = .ok (.if_icmp .lt 13, 3) := by decide +kernel
theorem dJ2_getChar_3b067_18 : decode cJ2_getChar_3b067 18 = .ok (.new 52, 3) := by decide +kernel
theorem dJ2_getChar_3b067_21 : decode cJ2_getChar_3b067 21 = .ok (.dup, 1) := by decide +kernel
theorem dJ2_getChar_3b067_22 : decode cJ2_getChar_3b067 22 = .ok (.ldc 54, 2) := by decide +kernel
theorem dJ2_getChar_3b067_24 : decode cJ2_getChar_3b067 24 = .ok (.invokespecial 56, 3) := by decide +kernel
theorem dJ2_getChar_3b067_27 : decode cJ2_getChar_3b067 27 = .ok (.athrow, 1) := by decide +kernel
theorem dJ2_getChar_3b067_28 : decode cJ2_getChar_3b067 28 = .ok (.iload_n 1, 1) := by decide +kernel
theorem dJ2_getChar_3b067_29 : decode cJ2_getChar_3b067 29 = .ok (.iconst 1, 1) := by decide +kernel
theorem dJ2_getChar_3b067_30 : decode cJ2_getChar_3b067 30 = .ok (.ishl, 1) := by decide +kernel
theorem dJ2_getChar_3b067_31 : decode cJ2_getChar_3b067 31 = .ok (.istore_n 1, 1) := by decide +kernel
theorem dJ2_getChar_3b067_32 : decode cJ2_getChar_3b067 32 = .ok (.aload_n 0, 1) := by decide +kernel
theorem dJ2_getChar_3b067_33 : decode cJ2_getChar_3b067 33 = .ok (.iload_n 1, 1) := by decide +kernel
theorem dJ2_getChar_3b067_34 : decode cJ2_getChar_3b067 34 = .ok (.iinc 1 1, 3) := by decide +kernel
theorem dJ2_getChar_3b067_37 : decode cJ2_getChar_3b067 37 = .ok (.baload, 1) := by decide +kernel
theorem dJ2_getChar_3b067_38 : decode cJ2_getChar_3b067 38 = .ok (.sipush 255, 3) := by decide +kernel
theorem dJ2_getChar_3b067_41 : decode cJ2_getChar_3b067 41 = .ok (.iand, 1) := by decide +kernel
theorem dJ2_getChar_3b067_42 : decode cJ2_getChar_3b067 42 = .ok (.getstatic 59, 3) := by decide +kernel
theorem dJ2_getChar_3b067_45 : decode cJ2_getChar_3b067 45 = .ok (.ishl, 1) := by decide +kernel
theorem dJ2_getChar_3b067_46 : decode cJ2_getChar_3b067 46 = .ok (.aload_n 0, 1) := by decide +kernel
theorem dJ2_getChar_3b067_47 : decode cJ2_getChar_3b067 47 = .ok (.iload_n 1, 1) := by decide +kernel
theorem dJ2_getChar_3b067_48 : decode cJ2_getChar_3b067 48 = .ok (.baload, 1) := by decide +kernel
theorem dJ2_getChar_3b067_49 : decode cJ2_getChar_3b067 49 = .ok (.sipush 255, 3) := by decide +kernel
theorem dJ2_getChar_3b067_52 : decode cJ2_getChar_3b067 52 = .ok (.iand, 1) := by decide +kernel
theorem dJ2_getChar_3b067_53 : decode cJ2_getChar_3b067 53 = .ok (.getstatic 63, 3) := by decide +kernel
theorem dJ2_getChar_3b067_56 : decode cJ2_getChar_3b067 56 = .ok (.ishl, 1) := by decide +kernel
theorem dJ2_getChar_3b067_57 : decode cJ2_getChar_3b067 57 = .ok (.ior, 1) := by decide +kernel
theorem dJ2_getChar_3b067_58 : decode cJ2_getChar_3b067 58 = .ok (.i2c, 1) := by decide +kernel
theorem dJ2_getChar_3b067_59 : decode cJ2_getChar_3b067 59 = .ok (.ireturn, 1) := by decide +kernel
theorem dJ2_length_9d52b_0 : decode cJ2_length_9d52b 0 = .ok (.aload_n 0, 1) := by decide +kernel
theorem dJ2_length_9d52b_1 : decode cJ2_length_9d52b 1 = .ok (.arraylength, 1) := by decide +kernel
theorem dJ2_length_9d52b_2 : decode cJ2_length_9d52b 2 = .ok (.iconst 1, 1) := by decide +kernel
theorem dJ2_length_9d52b_3 : decode cJ2_length_9d52b 3 = .ok (.ishr, 1) := by decide +kernel
theorem dJ2_length_9d52b_4 : decode cJ2_length_9d52b 4 = .ok (.ireturn, 1) := by decide +kernel
theorem dJ2_charAt_3b067_0 : decode cJ2_charAt_3b067 0 = .ok (.iload_n 1, 1) := by decide +kernel
theorem dJ2_charAt_3b067_1 : decode cJ2_charAt_3b067 1 = .ok (.aload_n 0, 1) := by decide +kernel
theorem dJ2_charAt_3b067_2 : decode cJ2_charAt_3b067 2 = .ok (.invokestatic 67, 3) := by decide +kernel
theorem dJ2_charAt_3b067_5 : decode cJ2_charAt_3b067 5 = .ok (.aload_n 0, 1) := by decide +kernel
theorem dJ2_charAt_3b067_6 : decode cJ2_charAt_3b067 6 = .ok (.iload_n 1, 1) := by decide +kernel
theorem dJ2_charAt_3b067_7 : decode cJ2_charAt_3b067 7 = .ok (.invokestatic 71, 3) := by decide +kernel
theorem dJ2_charAt_3b067_10 : decode cJ2_charAt_3b067 10 = .ok (.ireturn, 1) := by decide +kernel
theorem dJ2_checkIndex_2214a_0 : decode cJ2_checkIndex_2214a 0 = .ok (.iload_n 0, 1) := by decide +kernel
theorem dJ2_checkIndex_2214a_1 : decode cJ2_checkIndex_2214a 1 = .ok (.aload_n 1, 1) := by decide +kernel
theorem dJ2_checkIndex_2214a_2 : decode cJ2_checkIndex_2214a 2 = .ok (.invokestatic 48, 3) := by decide +kernel
theorem dJ2_checkIndex_2214a_5 : decode cJ2_checkIndex_2214a 5 = .ok (.invokestatic 414, 3) := by decide +kernel
theorem dJ2_checkIndex_2214a_8 : decode cJ2_checkIndex_2214a 8 = .ok (.return_, 1) := by decide +kernel
theorem dJ3_checkIndex_8e157_0 : decode cJ3_checkIndex_8e157 0 = .ok (.iload_n 0, 1) := by decide +kernel
theorem dJ3_checkIndex_8e157_1 : decode cJ3_checkIndex_8e157 1 = .ok (.ifCond .lt 8, 3) := by decide +kernel
theorem dJ3_checkIndex_8e157_4 : decode cJ3_checkIndex_8e157 4 = .ok (.iload_n 0, 1) := by decide +kernel
theorem dJ3_checkIndex_8e157_5 : decode cJ3_checkIndex_8e157 5 = .ok (.iload_n 1, 1) := by decide +kernel
theorem dJ3_checkIndex_8e157_6 : decode cJ3_checkIndex_8e157 6 = .ok (.if_icmp .lt 10, 3) := by decide +kernel
theorem dJ3_checkIndex_8e157_9 : decode cJ3_checkIndex_8e157 9 = .ok (.aload_n 2, 1) := by decide +kernel
theorem dJ3_checkIndex_8e157_10 : decode cJ3_checkIndex_8e157 10 = .ok (.iload_n 0, 1) := by decide +kernel
theorem dJ3_checkIndex_8e157_11 : decode cJ3_checkIndex_8e157 11 = .ok (.iload_n 1, 1) := by decide +kernel
theorem dJ3_checkIndex_8e157_12 : decode cJ3_checkIndex_8e157 12 = .ok (.invokestatic 95, 3) := by decide +kernel
theorem dJ3_checkIndex_8e157_15 : decode cJ3_checkIndex_8e157 15 = .ok (.athrow, 1) := by decide +kernel
theorem dJ3_checkIndex_8e157_16 : decode cJ3_checkIndex_8e157 16 = .ok (.iload_n 0, 1) := by decide +kernel
theorem dJ3_checkIndex_8e157_17 : decode cJ3_checkIndex_8e157 17 = .ok (.ireturn, 1) := by decide +kernel
end
section
theorem dL_raced_0 : decode cL_raced 0 = .ok (.aload_n 3, 1) := by decide +kernel
theorem dL_raced_1 : decode cL_raced 1 = .ok (.iconst 0, 1) := by decide +kernel
theorem dL_raced_2 : decode cL_raced 2 = .ok (.aload_n 0, 1) := by decide +kernel
theorem dL_raced_3 : decode cL_raced 3 = .ok (.iload_n 1, 1) := by decide +kernel
theorem dL_raced_4 : decode cL_raced 4 = .ok (.iload_n 2, 1) := by decide +kernel
theorem dL_raced_5 : decode cL_raced 5 = .ok (.invokevirtual 7, 3) := by decide +kernel
theorem dL_raced_8 : decode cL_raced 8 = .ok (.i2l, 1) := by decide +kernel
theorem dL_raced_9 : decode cL_raced 9 = .ok (.lastore, 1) := by decide +kernel
theorem dL_raced_10 : decode cL_raced 10 = .ok (.goto 7, 3) := by decide +kernel
theorem dL_raced_13 : decode cL_raced 13 = .ok (.astore 4, 2) := by decide +kernel
theorem dL_raced_15 : decode cL_raced 15 = .ok (.iconst 1, 1) := by decide +kernel
theorem dL_raced_16 : decode cL_raced 16 = .ok (.ireturn, 1) := by decide +kernel
theorem dL_raced_17 : decode cL_raced 17 = .ok (.iconst 0, 1) := by decide +kernel
theorem dL_raced_18 : decode cL_raced 18 = .ok (.ireturn, 1) := by decide +kernel
theorem dL_law_0 : decode cL_law 0 = .ok (.new 8, 3) := by decide +kernel
theorem dL_law_3 : decode cL_law 3 = .ok (.dup, 1) := by decide +kernel
theorem dL_law_4 : decode cL_law 4 = .ok (.invokespecial 15, 3) := by decide +kernel
theorem dL_law_7 : decode cL_law 7 = .ok (.astore_n 1, 1) := by decide +kernel
theorem dL_law_8 : decode cL_law 8 = .ok (.new 16, 3) := by decide +kernel
theorem dL_law_11 : decode cL_law 11 = .ok (.dup, 1) := by decide +kernel
theorem dL_law_12 : decode cL_law 12 = .ok (.invokespecial 18, 3) := by decide +kernel
theorem dL_law_15 : decode cL_law 15 = .ok (.astore_n 2, 1) := by decide +kernel
theorem dL_law_16 : decode cL_law 16 = .ok (.iconst 1, 1) := by decide +kernel
theorem dL_law_17 : decode cL_law 17 = .ok (.newarray .long, 2) := by decide +kernel
theorem dL_law_19 : decode cL_law 19 = .ok (.astore_n 3, 1) := by decide +kernel
theorem dL_law_20 : decode cL_law 20 = .ok (.iconst 0, 1) := by decide +kernel
theorem dL_law_21 : decode cL_law 21 = .ok (.istore 4, 2) := by decide +kernel
theorem dL_law_23 : decode cL_law 23 = .ok (.iload 4, 2) := by decide +kernel
theorem dL_law_25 : decode cL_law 25 = .ok (.aload_n 0, 1) := by decide +kernel
theorem dL_law_26 : decode cL_law 26 = .ok (.arraylength, 1) := by decide +kernel
theorem dL_law_27 : decode cL_law 27 = .ok (.bipush 6, 2) := by decide +kernel
theorem dL_law_29 : decode cL_law 29 = .ok (.isub, 1) := by decide +kernel
theorem dL_law_30 : decode cL_law 30 = .ok (.if_icmp .gt 1144, 3) := by decide +kernel
theorem dL_law_33 : decode cL_law 33 = .ok (.aload_n 0, 1) := by decide +kernel
theorem dL_law_34 : decode cL_law 34 = .ok (.iload 4, 2) := by decide +kernel
theorem dL_law_36 : decode cL_law 36 = .ok (.iaload, 1) := by decide +kernel
theorem dL_law_37 : decode cL_law 37 = .ok (.bipush 31, 2) := by decide +kernel
theorem dL_law_39 : decode cL_law 39 = .ok (.iand, 1) := by decide +kernel
theorem dL_law_40 : decode cL_law 40 = .ok (.tableswitch 1128 0 22 #[108, 181, 206, 219, 244, 269, 294, 355, 380, 405, 473, 539, 605, 647, 701, 743, 849, 886, 952, 1002, 1040, 1065, 1091], 108) := by decide +kernel
theorem dL_law_148 : decode cL_law 148 = .ok (.aload_n 1, 1) := by decide +kernel
theorem dL_law_149 : decode cL_law 149 = .ok (.aload_n 0, 1) := by decide +kernel
theorem dL_law_150 : decode cL_law 150 = .ok (.iload 4, 2) := by decide +kernel
theorem dL_law_152 : decode cL_law 152 = .ok (.iconst 1, 1) := by decide +kernel
theorem dL_law_153 : decode cL_law 153 = .ok (.iadd, 1) := by decide +kernel
theorem dL_law_154 : decode cL_law 154 = .ok (.iaload, 1) := by decide +kernel
theorem dL_law_155 : decode cL_law 155 = .ok (.aload_n 0, 1) := by decide +kernel
theorem dL_law_156 : decode cL_law 156 = .ok (.iload 4, 2) := by decide +kernel
theorem dL_law_158 : decode cL_law 158 = .ok (.iconst 2, 1) := by decide +kernel
theorem dL_law_159 : decode cL_law 159 = .ok (.iadd, 1) := by decide +kernel
theorem dL_law_160 : decode cL_law 160 = .ok (.iaload, 1) := by decide +kernel
theorem dL_law_161 : decode cL_law 161 = .ok (.aload_n 0, 1) := by decide +kernel
theorem dL_law_162 : decode cL_law 162 = .ok (.iload 4, 2) := by decide +kernel
theorem dL_law_164 : decode cL_law 164 = .ok (.iconst 3, 1) := by decide +kernel
theorem dL_law_165 : decode cL_law 165 = .ok (.iadd, 1) := by decide +kernel
theorem dL_law_166 : decode cL_law 166 = .ok (.iaload, 1) := by decide +kernel
theorem dL_law_167 : decode cL_law 167 = .ok (.aload_n 0, 1) := by decide +kernel
theorem dL_law_168 : decode cL_law 168 = .ok (.iload 4, 2) := by decide +kernel
theorem dL_law_170 : decode cL_law 170 = .ok (.iconst 4, 1) := by decide +kernel
theorem dL_law_171 : decode cL_law 171 = .ok (.iadd, 1) := by decide +kernel
theorem dL_law_172 : decode cL_law 172 = .ok (.iaload, 1) := by decide +kernel
theorem dL_law_173 : decode cL_law 173 = .ok (.aload_n 0, 1) := by decide +kernel
theorem dL_law_174 : decode cL_law 174 = .ok (.iload 4, 2) := by decide +kernel
theorem dL_law_176 : decode cL_law 176 = .ok (.iconst 5, 1) := by decide +kernel
theorem dL_law_177 : decode cL_law 177 = .ok (.iadd, 1) := by decide +kernel
theorem dL_law_178 : decode cL_law 178 = .ok (.iaload, 1) := by decide +kernel
theorem dL_law_179 : decode cL_law 179 = .ok (.invokevirtual 19, 3) := by decide +kernel
theorem dL_law_182 : decode cL_law 182 = .ok (.aload_n 2, 1) := by decide +kernel
theorem dL_law_183 : decode cL_law 183 = .ok (.aload_n 0, 1) := by decide +kernel
theorem dL_law_184 : decode cL_law 184 = .ok (.iload 4, 2) := by decide +kernel
theorem dL_law_186 : decode cL_law 186 = .ok (.iconst 1, 1) := by decide +kernel
theorem dL_law_187 : decode cL_law 187 = .ok (.iadd, 1) := by decide +kernel
theorem dL_law_188 : decode cL_law 188 = .ok (.iaload, 1) := by decide +kernel
theorem dL_law_189 : decode cL_law 189 = .ok (.aload_n 0, 1) := by decide +kernel
theorem dL_law_190 : decode cL_law 190 = .ok (.iload 4, 2) := by decide +kernel
theorem dL_law_192 : decode cL_law 192 = .ok (.iconst 2, 1) := by decide +kernel
theorem dL_law_193 : decode cL_law 193 = .ok (.iadd, 1) := by decide +kernel
theorem dL_law_194 : decode cL_law 194 = .ok (.iaload, 1) := by decide +kernel
theorem dL_law_195 : decode cL_law 195 = .ok (.aload_n 0, 1) := by decide +kernel
theorem dL_law_196 : decode cL_law 196 = .ok (.iload 4, 2) := by decide +kernel
theorem dL_law_198 : decode cL_law 198 = .ok (.iconst 3, 1) := by decide +kernel
theorem dL_law_199 : decode cL_law 199 = .ok (.iadd, 1) := by decide +kernel
theorem dL_law_200 : decode cL_law 200 = .ok (.iaload, 1) := by decide +kernel
theorem dL_law_201 : decode cL_law 201 = .ok (.aload_n 0, 1) := by decide +kernel
theorem dL_law_202 : decode cL_law 202 = .ok (.iload 4, 2) := by decide +kernel
theorem dL_law_204 : decode cL_law 204 = .ok (.iconst 4, 1) := by decide +kernel
theorem dL_law_205 : decode cL_law 205 = .ok (.iadd, 1) := by decide +kernel
theorem dL_law_206 : decode cL_law 206 = .ok (.iaload, 1) := by decide +kernel
theorem dL_law_207 : decode cL_law 207 = .ok (.aload_n 0, 1) := by decide +kernel
theorem dL_law_208 : decode cL_law 208 = .ok (.iload 4, 2) := by decide +kernel
theorem dL_law_210 : decode cL_law 210 = .ok (.iconst 5, 1) := by decide +kernel
theorem dL_law_211 : decode cL_law 211 = .ok (.iadd, 1) := by decide +kernel
theorem dL_law_212 : decode cL_law 212 = .ok (.iaload, 1) := by decide +kernel
theorem dL_law_213 : decode cL_law 213 = .ok (.invokevirtual 23, 3) := by decide +kernel
theorem dL_law_216 : decode cL_law 216 = .ok (.if_icmp .eq 952, 3) := by decide +kernel
theorem dL_law_219 : decode cL_law 219 = .ok (.iconst 0, 1) := by decide +kernel
theorem dL_law_220 : decode cL_law 220 = .ok (.ireturn, 1) := by decide +kernel
theorem dL_law_221 : decode cL_law 221 = .ok (.aload_n 1, 1) := by decide +kernel
theorem dL_law_222 : decode cL_law 222 = .ok (.aload_n 0, 1) := by decide +kernel
theorem dL_law_223 : decode cL_law 223 = .ok (.iload 4, 2) := by decide +kernel
theorem dL_law_225 : decode cL_law 225 = .ok (.iconst 1, 1) := by decide +kernel
theorem dL_law_226 : decode cL_law 226 = .ok (.iadd, 1) := by decide +kernel
theorem dL_law_227 : decode cL_law 227 = .ok (.iaload, 1) := by decide +kernel
theorem dL_law_228 : decode cL_law 228 = .ok (.invokevirtual 24, 3) := by decide +kernel
theorem dL_law_231 : decode cL_law 231 = .ok (.aload_n 2, 1) := by decide +kernel
theorem dL_law_232 : decode cL_law 232 = .ok (.aload_n 0, 1) := by decide +kernel
theorem dL_law_233 : decode cL_law 233 = .ok (.iload 4, 2) := by decide +kernel
theorem dL_law_235 : decode cL_law 235 = .ok (.iconst 1, 1) := by decide +kernel
theorem dL_law_236 : decode cL_law 236 = .ok (.iadd, 1) := by decide +kernel
theorem dL_law_237 : decode cL_law 237 = .ok (.iaload, 1) := by decide +kernel
theorem dL_law_238 : decode cL_law 238 = .ok (.invokevirtual 28, 3) := by decide +kernel
theorem dL_law_241 : decode cL_law 241 = .ok (.if_icmp .eq 927, 3) := by decide +kernel
theorem dL_law_244 : decode cL_law 244 = .ok (.iconst 0, 1) := by decide +kernel
theorem dL_law_245 : decode cL_law 245 = .ok (.ireturn, 1) := by decide +kernel
theorem dL_law_246 : decode cL_law 246 = .ok (.aload_n 1, 1) := by decide +kernel
theorem dL_law_247 : decode cL_law 247 = .ok (.invokevirtual 29, 3) := by decide +kernel
theorem dL_law_250 : decode cL_law 250 = .ok (.aload_n 2, 1) := by decide +kernel
theorem dL_law_251 : decode cL_law 251 = .ok (.invokevirtual 33, 3) := by decide +kernel
theorem dL_law_254 : decode cL_law 254 = .ok (.if_icmp .eq 914, 3) := by decide +kernel
theorem dL_law_257 : decode cL_law 257 = .ok (.iconst 0, 1) := by decide +kernel
theorem dL_law_258 : decode cL_law 258 = .ok (.ireturn, 1) := by decide +kernel
theorem dL_law_259 : decode cL_law 259 = .ok (.aload_n 1, 1) := by decide +kernel
theorem dL_law_260 : decode cL_law 260 = .ok (.aload_n 0, 1) := by decide +kernel
theorem dL_law_261 : decode cL_law 261 = .ok (.iload 4, 2) := by decide +kernel
theorem dL_law_263 : decode cL_law 263 = .ok (.iconst 1, 1) := by decide +kernel
theorem dL_law_264 : decode cL_law 264 = .ok (.iadd, 1) := by decide +kernel
theorem dL_law_265 : decode cL_law 265 = .ok (.iaload, 1) := by decide +kernel
theorem dL_law_266 : decode cL_law 266 = .ok (.invokevirtual 34, 3) := by decide +kernel
theorem dL_law_269 : decode cL_law 269 = .ok (.aload_n 2, 1) := by decide +kernel
theorem dL_law_270 : decode cL_law 270 = .ok (.aload_n 0, 1) := by decide +kernel
theorem dL_law_271 : decode cL_law 271 = .ok (.iload 4, 2) := by decide +kernel
theorem dL_law_273 : decode cL_law 273 = .ok (.iconst 1, 1) := by decide +kernel
theorem dL_law_274 : decode cL_law 274 = .ok (.iadd, 1) := by decide +kernel
theorem dL_law_275 : decode cL_law 275 = .ok (.iaload, 1) := by decide +kernel
theorem dL_law_276 : decode cL_law 276 = .ok (.invokevirtual 38, 3) := by decide +kernel
theorem dL_law_279 : decode cL_law 279 = .ok (.if_icmp .eq 889, 3) := by decide +kernel
theorem dL_law_282 : decode cL_law 282 = .ok (.iconst 0, 1) := by decide +kernel
theorem dL_law_283 : decode cL_law 283 = .ok (.ireturn, 1) := by decide +kernel
theorem dL_law_284 : decode cL_law 284 = .ok (.aload_n 1, 1) := by decide +kernel
theorem dL_law_285 : decode cL_law 285 = .ok (.aload_n 0, 1) := by decide +kernel
theorem dL_law_286 : decode cL_law 286 = .ok (.iload 4, 2) := by decide +kernel
theorem dL_law_288 : decode cL_law 288 = .ok (.iconst 1, 1) := by decide +kernel
theorem dL_law_289 : decode cL_law 289 = .ok (.iadd, 1) := by decide +kernel
theorem dL_law_290 : decode cL_law 290 = .ok (.iaload, 1) := by decide +kernel
theorem dL_law_291 : decode cL_law 291 = .ok (.invokevirtual 39, 3) := by decide +kernel
theorem dL_law_294 : decode cL_law 294 = .ok (.aload_n 2, 1) := by decide +kernel
theorem dL_law_295 : decode cL_law 295 = .ok (.aload_n 0, 1) := by decide +kernel
theorem dL_law_296 : decode cL_law 296 = .ok (.iload 4, 2) := by decide +kernel
theorem dL_law_298 : decode cL_law 298 = .ok (.iconst 1, 1) := by decide +kernel
theorem dL_law_299 : decode cL_law 299 = .ok (.iadd, 1) := by decide +kernel
theorem dL_law_300 : decode cL_law 300 = .ok (.iaload, 1) := by decide +kernel
theorem dL_law_301 : decode cL_law 301 = .ok (.invokevirtual 42, 3) := by decide +kernel
theorem dL_law_304 : decode cL_law 304 = .ok (.if_icmp .eq 864, 3) := by decide +kernel
theorem dL_law_307 : decode cL_law 307 = .ok (.iconst 0, 1) := by decide +kernel
theorem dL_law_308 : decode cL_law 308 = .ok (.ireturn, 1) := by decide +kernel
theorem dL_law_309 : decode cL_law 309 = .ok (.aload_n 1, 1) := by decide +kernel
theorem dL_law_310 : decode cL_law 310 = .ok (.aload_n 0, 1) := by decide +kernel
theorem dL_law_311 : decode cL_law 311 = .ok (.iload 4, 2) := by decide +kernel
theorem dL_law_313 : decode cL_law 313 = .ok (.iconst 1, 1) := by decide +kernel
theorem dL_law_314 : decode cL_law 314 = .ok (.iadd, 1) := by decide +kernel
theorem dL_law_315 : decode cL_law 315 = .ok (.iaload, 1) := by decide +kernel
theorem dL_law_316 : decode cL_law 316 = .ok (.invokevirtual 43, 3) := by decide +kernel
theorem dL_law_319 : decode cL_law 319 = .ok (.aload_n 2, 1) := by decide +kernel
theorem dL_law_320 : decode cL_law 320 = .ok (.aload_n 0, 1) := by decide +kernel
theorem dL_law_321 : decode cL_law 321 = .ok (.iload 4, 2) := by decide +kernel
theorem dL_law_323 : decode cL_law 323 = .ok (.iconst 1, 1) := by decide +kernel
theorem dL_law_324 : decode cL_law 324 = .ok (.iadd, 1) := by decide +kernel
theorem dL_law_325 : decode cL_law 325 = .ok (.iaload, 1) := by decide +kernel
theorem dL_law_326 : decode cL_law 326 = .ok (.invokevirtual 46, 3) := by decide +kernel
theorem dL_law_329 : decode cL_law 329 = .ok (.if_icmp .eq 839, 3) := by decide +kernel
theorem dL_law_332 : decode cL_law 332 = .ok (.iconst 0, 1) := by decide +kernel
theorem dL_law_333 : decode cL_law 333 = .ok (.ireturn, 1) := by decide +kernel
theorem dL_law_334 : decode cL_law 334 = .ok (.aload_n 1, 1) := by decide +kernel
theorem dL_law_335 : decode cL_law 335 = .ok (.aload_n 0, 1) := by decide +kernel
theorem dL_law_336 : decode cL_law 336 = .ok (.iload 4, 2) := by decide +kernel
theorem dL_law_338 : decode cL_law 338 = .ok (.iconst 1, 1) := by decide +kernel
theorem dL_law_339 : decode cL_law 339 = .ok (.iadd, 1) := by decide +kernel
theorem dL_law_340 : decode cL_law 340 = .ok (.iaload, 1) := by decide +kernel
theorem dL_law_341 : decode cL_law 341 = .ok (.aload_n 0, 1) := by decide +kernel
theorem dL_law_342 : decode cL_law 342 = .ok (.iload 4, 2) := by decide +kernel
theorem dL_law_344 : decode cL_law 344 = .ok (.iconst 2, 1) := by decide +kernel
theorem dL_law_345 : decode cL_law 345 = .ok (.iadd, 1) := by decide +kernel
theorem dL_law_346 : decode cL_law 346 = .ok (.iaload, 1) := by decide +kernel
theorem dL_law_347 : decode cL_law 347 = .ok (.aload_n 0, 1) := by decide +kernel
theorem dL_law_348 : decode cL_law 348 = .ok (.iload 4, 2) := by decide +kernel
theorem dL_law_350 : decode cL_law 350 = .ok (.iconst 3, 1) := by decide +kernel
theorem dL_law_351 : decode cL_law 351 = .ok (.iadd, 1) := by decide +kernel
theorem dL_law_352 : decode cL_law 352 = .ok (.iaload, 1) := by decide +kernel
theorem dL_law_353 : decode cL_law 353 = .ok (.aload_n 0, 1) := by decide +kernel
theorem dL_law_354 : decode cL_law 354 = .ok (.iload 4, 2) := by decide +kernel
theorem dL_law_356 : decode cL_law 356 = .ok (.iconst 4, 1) := by decide +kernel
theorem dL_law_357 : decode cL_law 357 = .ok (.iadd, 1) := by decide +kernel
theorem dL_law_358 : decode cL_law 358 = .ok (.iaload, 1) := by decide +kernel
theorem dL_law_359 : decode cL_law 359 = .ok (.invokevirtual 47, 3) := by decide +kernel
theorem dL_law_362 : decode cL_law 362 = .ok (.aload_n 2, 1) := by decide +kernel
theorem dL_law_363 : decode cL_law 363 = .ok (.aload_n 0, 1) := by decide +kernel
theorem dL_law_364 : decode cL_law 364 = .ok (.iload 4, 2) := by decide +kernel
theorem dL_law_366 : decode cL_law 366 = .ok (.iconst 1, 1) := by decide +kernel
theorem dL_law_367 : decode cL_law 367 = .ok (.iadd, 1) := by decide +kernel
theorem dL_law_368 : decode cL_law 368 = .ok (.iaload, 1) := by decide +kernel
theorem dL_law_369 : decode cL_law 369 = .ok (.aload_n 0, 1) := by decide +kernel
theorem dL_law_370 : decode cL_law 370 = .ok (.iload 4, 2) := by decide +kernel
theorem dL_law_372 : decode cL_law 372 = .ok (.iconst 2, 1) := by decide +kernel
theorem dL_law_373 : decode cL_law 373 = .ok (.iadd, 1) := by decide +kernel
theorem dL_law_374 : decode cL_law 374 = .ok (.iaload, 1) := by decide +kernel
theorem dL_law_375 : decode cL_law 375 = .ok (.aload_n 0, 1) := by decide +kernel
theorem dL_law_376 : decode cL_law 376 = .ok (.iload 4, 2) := by decide +kernel
theorem dL_law_378 : decode cL_law 378 = .ok (.iconst 3, 1) := by decide +kernel
theorem dL_law_379 : decode cL_law 379 = .ok (.iadd, 1) := by decide +kernel
theorem dL_law_380 : decode cL_law 380 = .ok (.iaload, 1) := by decide +kernel
theorem dL_law_381 : decode cL_law 381 = .ok (.aload_n 0, 1) := by decide +kernel
theorem dL_law_382 : decode cL_law 382 = .ok (.iload 4, 2) := by decide +kernel
theorem dL_law_384 : decode cL_law 384 = .ok (.iconst 4, 1) := by decide +kernel
theorem dL_law_385 : decode cL_law 385 = .ok (.iadd, 1) := by decide +kernel
theorem dL_law_386 : decode cL_law 386 = .ok (.iaload, 1) := by decide +kernel
theorem dL_law_387 : decode cL_law 387 = .ok (.invokevirtual 51, 3) := by decide +kernel
theorem dL_law_390 : decode cL_law 390 = .ok (.if_icmp .eq 778, 3) := by decide +kernel
theorem dL_law_393 : decode cL_law 393 = .ok (.iconst 0, 1) := by decide +kernel
theorem dL_law_394 : decode cL_law 394 = .ok (.ireturn, 1) := by decide +kernel
theorem dL_law_395 : decode cL_law 395 = .ok (.aload_n 1, 1) := by decide +kernel
theorem dL_law_396 : decode cL_law 396 = .ok (.aload_n 0, 1) := by decide +kernel
theorem dL_law_397 : decode cL_law 397 = .ok (.iload 4, 2) := by decide +kernel
theorem dL_law_399 : decode cL_law 399 = .ok (.iconst 1, 1) := by decide +kernel
theorem dL_law_400 : decode cL_law 400 = .ok (.iadd, 1) := by decide +kernel
theorem dL_law_401 : decode cL_law 401 = .ok (.iaload, 1) := by decide +kernel
theorem dL_law_402 : decode cL_law 402 = .ok (.invokevirtual 52, 3) := by decide +kernel
theorem dL_law_405 : decode cL_law 405 = .ok (.aload_n 2, 1) := by decide +kernel
theorem dL_law_406 : decode cL_law 406 = .ok (.aload_n 0, 1) := by decide +kernel
theorem dL_law_407 : decode cL_law 407 = .ok (.iload 4, 2) := by decide +kernel
theorem dL_law_409 : decode cL_law 409 = .ok (.iconst 1, 1) := by decide +kernel
theorem dL_law_410 : decode cL_law 410 = .ok (.iadd, 1) := by decide +kernel
theorem dL_law_411 : decode cL_law 411 = .ok (.iaload, 1) := by decide +kernel
theorem dL_law_412 : decode cL_law 412 = .ok (.invokevirtual 55, 3) := by decide +kernel
theorem dL_law_415 : decode cL_law 415 = .ok (.if_icmp .eq 753, 3) := by decide +kernel
theorem dL_law_418 : decode cL_law 418 = .ok (.iconst 0, 1) := by decide +kernel
theorem dL_law_419 : decode cL_law 419 = .ok (.ireturn, 1) := by decide +kernel
theorem dL_law_420 : decode cL_law 420 = .ok (.aload_n 1, 1) := by decide +kernel
theorem dL_law_421 : decode cL_law 421 = .ok (.aload_n 0, 1) := by decide +kernel
theorem dL_law_422 : decode cL_law 422 = .ok (.iload 4, 2) := by decide +kernel
theorem dL_law_424 : decode cL_law 424 = .ok (.iconst 1, 1) := by decide +kernel
theorem dL_law_425 : decode cL_law 425 = .ok (.iadd, 1) := by decide +kernel
theorem dL_law_426 : decode cL_law 426 = .ok (.iaload, 1) := by decide +kernel
theorem dL_law_427 : decode cL_law 427 = .ok (.invokevirtual 56, 3) := by decide +kernel
theorem dL_law_430 : decode cL_law 430 = .ok (.aload_n 2, 1) := by decide +kernel
theorem dL_law_431 : decode cL_law 431 = .ok (.aload_n 0, 1) := by decide +kernel
theorem dL_law_432 : decode cL_law 432 = .ok (.iload 4, 2) := by decide +kernel
theorem dL_law_434 : decode cL_law 434 = .ok (.iconst 1, 1) := by decide +kernel
theorem dL_law_435 : decode cL_law 435 = .ok (.iadd, 1) := by decide +kernel
theorem dL_law_436 : decode cL_law 436 = .ok (.iaload, 1) := by decide +kernel
theorem dL_law_437 : decode cL_law 437 = .ok (.invokevirtual 59, 3) := by decide +kernel
theorem dL_law_440 : decode cL_law 440 = .ok (.if_icmp .eq 728, 3) := by decide +kernel
theorem dL_law_443 : decode cL_law 443 = .ok (.iconst 0, 1) := by decide +kernel
theorem dL_law_444 : decode cL_law 444 = .ok (.ireturn, 1) := by decide +kernel
theorem dL_law_445 : decode cL_law 445 = .ok (.aload_n 1, 1) := by decide +kernel
theorem dL_law_446 : decode cL_law 446 = .ok (.aload_n 0, 1) := by decide +kernel
theorem dL_law_447 : decode cL_law 447 = .ok (.iload 4, 2) := by decide +kernel
theorem dL_law_449 : decode cL_law 449 = .ok (.iconst 1, 1) := by decide +kernel
theorem dL_law_450 : decode cL_law 450 = .ok (.iadd, 1) := by decide +kernel
theorem dL_law_451 : decode cL_law 451 = .ok (.iaload, 1) := by decide +kernel
theorem dL_law_452 : decode cL_law 452 = .ok (.aload_n 0, 1) := by decide +kernel
theorem dL_law_453 : decode cL_law 453 = .ok (.iload 4, 2) := by decide +kernel
theorem dL_law_455 : decode cL_law 455 = .ok (.iconst 2, 1) := by decide +kernel
theorem dL_law_456 : decode cL_law 456 = .ok (.iadd, 1) := by decide +kernel
theorem dL_law_457 : decode cL_law 457 = .ok (.iaload, 1) := by decide +kernel
theorem dL_law_458 : decode cL_law 458 = .ok (.aload_n 3, 1) := by decide +kernel
theorem dL_law_459 : decode cL_law 459 = .ok (.invokestatic 60, 3) := by decide +kernel
theorem dL_law_462 : decode cL_law 462 = .ok (.istore 5, 2) := by decide +kernel
theorem dL_law_464 : decode cL_law 464 = .ok (.aload_n 2, 1) := by decide +kernel
theorem dL_law_465 : decode cL_law 465 = .ok (.aload_n 0, 1) := by decide +kernel
theorem dL_law_466 : decode cL_law 466 = .ok (.iload 4, 2) := by decide +kernel
theorem dL_law_468 : decode cL_law 468 = .ok (.iconst 1, 1) := by decide +kernel
theorem dL_law_469 : decode cL_law 469 = .ok (.iadd, 1) := by decide +kernel
theorem dL_law_470 : decode cL_law 470 = .ok (.iaload, 1) := by decide +kernel
theorem dL_law_471 : decode cL_law 471 = .ok (.aload_n 0, 1) := by decide +kernel
theorem dL_law_472 : decode cL_law 472 = .ok (.iload 4, 2) := by decide +kernel
theorem dL_law_474 : decode cL_law 474 = .ok (.iconst 2, 1) := by decide +kernel
theorem dL_law_475 : decode cL_law 475 = .ok (.iadd, 1) := by decide +kernel
theorem dL_law_476 : decode cL_law 476 = .ok (.iaload, 1) := by decide +kernel
theorem dL_law_477 : decode cL_law 477 = .ok (.invokevirtual 65, 3) := by decide +kernel
theorem dL_law_480 : decode cL_law 480 = .ok (.istore 6, 2) := by decide +kernel
theorem dL_law_482 : decode cL_law 482 = .ok (.aload_n 2, 1) := by decide +kernel
theorem dL_law_483 : decode cL_law 483 = .ok (.invokevirtual 66, 3) := by decide +kernel
theorem dL_law_486 : decode cL_law 486 = .ok (.iload 5, 2) := by decide +kernel
theorem dL_law_488 : decode cL_law 488 = .ok (.if_icmp .eq 5, 3) := by decide +kernel
theorem dL_law_491 : decode cL_law 491 = .ok (.iconst 0, 1) := by decide +kernel
theorem dL_law_492 : decode cL_law 492 = .ok (.ireturn, 1) := by decide +kernel
theorem dL_law_493 : decode cL_law 493 = .ok (.iload 5, 2) := by decide +kernel
theorem dL_law_495 : decode cL_law 495 = .ok (.ifCond .ne 15, 3) := by decide +kernel
theorem dL_law_498 : decode cL_law 498 = .ok (.aload_n 3, 1) := by decide +kernel
theorem dL_law_499 : decode cL_law 499 = .ok (.iconst 0, 1) := by decide +kernel
theorem dL_law_500 : decode cL_law 500 = .ok (.laload, 1) := by decide +kernel
theorem dL_law_501 : decode cL_law 501 = .ok (.iload 6, 2) := by decide +kernel
theorem dL_law_503 : decode cL_law 503 = .ok (.i2l, 1) := by decide +kernel
theorem dL_law_504 : decode cL_law 504 = .ok (.lcmp, 1) := by decide +kernel
theorem dL_law_505 : decode cL_law 505 = .ok (.ifCond .eq 5, 3) := by decide +kernel
theorem dL_law_508 : decode cL_law 508 = .ok (.iconst 0, 1) := by decide +kernel
theorem dL_law_509 : decode cL_law 509 = .ok (.ireturn, 1) := by decide +kernel
theorem dL_law_510 : decode cL_law 510 = .ok (.goto 658, 3) := by decide +kernel
theorem dL_law_513 : decode cL_law 513 = .ok (.aload_n 1, 1) := by decide +kernel
theorem dL_law_514 : decode cL_law 514 = .ok (.aload_n 0, 1) := by decide +kernel
theorem dL_law_515 : decode cL_law 515 = .ok (.iload 4, 2) := by decide +kernel
theorem dL_law_517 : decode cL_law 517 = .ok (.iconst 1, 1) := by decide +kernel
theorem dL_law_518 : decode cL_law 518 = .ok (.iadd, 1) := by decide +kernel
theorem dL_law_519 : decode cL_law 519 = .ok (.iaload, 1) := by decide +kernel
theorem dL_law_520 : decode cL_law 520 = .ok (.aload_n 0, 1) := by decide +kernel
theorem dL_law_521 : decode cL_law 521 = .ok (.iload 4, 2) := by decide +kernel
theorem dL_law_523 : decode cL_law 523 = .ok (.iconst 2, 1) := by decide +kernel
theorem dL_law_524 : decode cL_law 524 = .ok (.iadd, 1) := by decide +kernel
theorem dL_law_525 : decode cL_law 525 = .ok (.iaload, 1) := by decide +kernel
theorem dL_law_526 : decode cL_law 526 = .ok (.aload_n 0, 1) := by decide +kernel
theorem dL_law_527 : decode cL_law 527 = .ok (.iload 4, 2) := by decide +kernel
theorem dL_law_529 : decode cL_law 529 = .ok (.iconst 3, 1) := by decide +kernel
theorem dL_law_530 : decode cL_law 530 = .ok (.iadd, 1) := by decide +kernel
theorem dL_law_531 : decode cL_law 531 = .ok (.iaload, 1) := by decide +kernel
theorem dL_law_532 : decode cL_law 532 = .ok (.ifCond .eq 7, 3) := by decide +kernel
theorem dL_law_535 : decode cL_law 535 = .ok (.iconst 1, 1) := by decide +kernel
theorem dL_law_536 : decode cL_law 536 = .ok (.goto 4, 3) := by decide +kernel
theorem dL_law_539 : decode cL_law 539 = .ok (.iconst 0, 1) := by decide +kernel
theorem dL_law_540 : decode cL_law 540 = .ok (.invokevirtual 69, 3) := by decide +kernel
theorem dL_law_543 : decode cL_law 543 = .ok (.aload_n 2, 1) := by decide +kernel
theorem dL_law_544 : decode cL_law 544 = .ok (.aload_n 0, 1) := by decide +kernel
theorem dL_law_545 : decode cL_law 545 = .ok (.iload 4, 2) := by decide +kernel
theorem dL_law_547 : decode cL_law 547 = .ok (.iconst 1, 1) := by decide +kernel
theorem dL_law_548 : decode cL_law 548 = .ok (.iadd, 1) := by decide +kernel
theorem dL_law_549 : decode cL_law 549 = .ok (.iaload, 1) := by decide +kernel
theorem dL_law_550 : decode cL_law 550 = .ok (.aload_n 0, 1) := by decide +kernel
theorem dL_law_551 : decode cL_law 551 = .ok (.iload 4, 2) := by decide +kernel
theorem dL_law_553 : decode cL_law 553 = .ok (.iconst 2, 1) := by decide +kernel
theorem dL_law_554 : decode cL_law 554 = .ok (.iadd, 1) := by decide +kernel
theorem dL_law_555 : decode cL_law 555 = .ok (.iaload, 1) := by decide +kernel
theorem dL_law_556 : decode cL_law 556 = .ok (.aload_n 0, 1) := by decide +kernel
theorem dL_law_557 : decode cL_law 557 = .ok (.iload 4, 2) := by decide +kernel
theorem dL_law_559 : decode cL_law 559 = .ok (.iconst 3, 1) := by decide +kernel
theorem dL_law_560 : decode cL_law 560 = .ok (.iadd, 1) := by decide +kernel
theorem dL_law_561 : decode cL_law 561 = .ok (.iaload, 1) := by decide +kernel
theorem dL_law_562 : decode cL_law 562 = .ok (.ifCond .eq 7, 3) := by decide +kernel
theorem dL_law_565 : decode cL_law 565 = .ok (.iconst 1, 1) := by decide +kernel
theorem dL_law_566 : decode cL_law 566 = .ok (.goto 4, 3) := by decide +kernel
theorem dL_law_569 : decode cL_law 569 = .ok (.iconst 0, 1) := by decide +kernel
theorem dL_law_570 : decode cL_law 570 = .ok (.invokevirtual 73, 3) := by decide +kernel
theorem dL_law_573 : decode cL_law 573 = .ok (.lcmp, 1) := by decide +kernel
theorem dL_law_574 : decode cL_law 574 = .ok (.ifCond .eq 594, 3) := by decide +kernel
theorem dL_law_577 : decode cL_law 577 = .ok (.iconst 0, 1) := by decide +kernel
theorem dL_law_578 : decode cL_law 578 = .ok (.ireturn, 1) := by decide +kernel
theorem dL_law_579 : decode cL_law 579 = .ok (.aload_n 1, 1) := by decide +kernel
theorem dL_law_580 : decode cL_law 580 = .ok (.aload_n 0, 1) := by decide +kernel
theorem dL_law_581 : decode cL_law 581 = .ok (.iload 4, 2) := by decide +kernel
theorem dL_law_583 : decode cL_law 583 = .ok (.iconst 1, 1) := by decide +kernel
theorem dL_law_584 : decode cL_law 584 = .ok (.iadd, 1) := by decide +kernel
theorem dL_law_585 : decode cL_law 585 = .ok (.iaload, 1) := by decide +kernel
theorem dL_law_586 : decode cL_law 586 = .ok (.aload_n 0, 1) := by decide +kernel
theorem dL_law_587 : decode cL_law 587 = .ok (.iload 4, 2) := by decide +kernel
theorem dL_law_589 : decode cL_law 589 = .ok (.iconst 2, 1) := by decide +kernel
theorem dL_law_590 : decode cL_law 590 = .ok (.iadd, 1) := by decide +kernel
theorem dL_law_591 : decode cL_law 591 = .ok (.iaload, 1) := by decide +kernel
theorem dL_law_592 : decode cL_law 592 = .ok (.aload_n 0, 1) := by decide +kernel
theorem dL_law_593 : decode cL_law 593 = .ok (.iload 4, 2) := by decide +kernel
theorem dL_law_595 : decode cL_law 595 = .ok (.iconst 3, 1) := by decide +kernel
theorem dL_law_596 : decode cL_law 596 = .ok (.iadd, 1) := by decide +kernel
theorem dL_law_597 : decode cL_law 597 = .ok (.iaload, 1) := by decide +kernel
theorem dL_law_598 : decode cL_law 598 = .ok (.ifCond .eq 7, 3) := by decide +kernel
theorem dL_law_601 : decode cL_law 601 = .ok (.iconst 1, 1) := by decide +kernel
theorem dL_law_602 : decode cL_law 602 = .ok (.goto 4, 3) := by decide +kernel
theorem dL_law_605 : decode cL_law 605 = .ok (.iconst 0, 1) := by decide +kernel
theorem dL_law_606 : decode cL_law 606 = .ok (.invokevirtual 74, 3) := by decide +kernel
theorem dL_law_609 : decode cL_law 609 = .ok (.aload_n 2, 1) := by decide +kernel
theorem dL_law_610 : decode cL_law 610 = .ok (.aload_n 0, 1) := by decide +kernel
theorem dL_law_611 : decode cL_law 611 = .ok (.iload 4, 2) := by decide +kernel
theorem dL_law_613 : decode cL_law 613 = .ok (.iconst 1, 1) := by decide +kernel
theorem dL_law_614 : decode cL_law 614 = .ok (.iadd, 1) := by decide +kernel
theorem dL_law_615 : decode cL_law 615 = .ok (.iaload, 1) := by decide +kernel
theorem dL_law_616 : decode cL_law 616 = .ok (.aload_n 0, 1) := by decide +kernel
theorem dL_law_617 : decode cL_law 617 = .ok (.iload 4, 2) := by decide +kernel
theorem dL_law_619 : decode cL_law 619 = .ok (.iconst 2, 1) := by decide +kernel
theorem dL_law_620 : decode cL_law 620 = .ok (.iadd, 1) := by decide +kernel
theorem dL_law_621 : decode cL_law 621 = .ok (.iaload, 1) := by decide +kernel
theorem dL_law_622 : decode cL_law 622 = .ok (.aload_n 0, 1) := by decide +kernel
theorem dL_law_623 : decode cL_law 623 = .ok (.iload 4, 2) := by decide +kernel
theorem dL_law_625 : decode cL_law 625 = .ok (.iconst 3, 1) := by decide +kernel
theorem dL_law_626 : decode cL_law 626 = .ok (.iadd, 1) := by decide +kernel
theorem dL_law_627 : decode cL_law 627 = .ok (.iaload, 1) := by decide +kernel
theorem dL_law_628 : decode cL_law 628 = .ok (.ifCond .eq 7, 3) := by decide +kernel
theorem dL_law_631 : decode cL_law 631 = .ok (.iconst 1, 1) := by decide +kernel
theorem dL_law_632 : decode cL_law 632 = .ok (.goto 4, 3) := by decide +kernel
theorem dL_law_635 : decode cL_law 635 = .ok (.iconst 0, 1) := by decide +kernel
theorem dL_law_636 : decode cL_law 636 = .ok (.invokevirtual 77, 3) := by decide +kernel
theorem dL_law_639 : decode cL_law 639 = .ok (.lcmp, 1) := by decide +kernel
theorem dL_law_640 : decode cL_law 640 = .ok (.ifCond .eq 528, 3) := by decide +kernel
theorem dL_law_643 : decode cL_law 643 = .ok (.iconst 0, 1) := by decide +kernel
theorem dL_law_644 : decode cL_law 644 = .ok (.ireturn, 1) := by decide +kernel
theorem dL_law_645 : decode cL_law 645 = .ok (.aload_n 1, 1) := by decide +kernel
theorem dL_law_646 : decode cL_law 646 = .ok (.aload_n 0, 1) := by decide +kernel
theorem dL_law_647 : decode cL_law 647 = .ok (.iload 4, 2) := by decide +kernel
theorem dL_law_649 : decode cL_law 649 = .ok (.iconst 1, 1) := by decide +kernel
theorem dL_law_650 : decode cL_law 650 = .ok (.iadd, 1) := by decide +kernel
theorem dL_law_651 : decode cL_law 651 = .ok (.iaload, 1) := by decide +kernel
theorem dL_law_652 : decode cL_law 652 = .ok (.ifCond .eq 7, 3) := by decide +kernel
theorem dL_law_655 : decode cL_law 655 = .ok (.iconst 1, 1) := by decide +kernel
theorem dL_law_656 : decode cL_law 656 = .ok (.goto 4, 3) := by decide +kernel
theorem dL_law_659 : decode cL_law 659 = .ok (.iconst 0, 1) := by decide +kernel
theorem dL_law_660 : decode cL_law 660 = .ok (.invokevirtual 78, 3) := by decide +kernel
theorem dL_law_663 : decode cL_law 663 = .ok (.aload_n 2, 1) := by decide +kernel
theorem dL_law_664 : decode cL_law 664 = .ok (.aload_n 0, 1) := by decide +kernel
theorem dL_law_665 : decode cL_law 665 = .ok (.iload 4, 2) := by decide +kernel
theorem dL_law_667 : decode cL_law 667 = .ok (.iconst 1, 1) := by decide +kernel
theorem dL_law_668 : decode cL_law 668 = .ok (.iadd, 1) := by decide +kernel
theorem dL_law_669 : decode cL_law 669 = .ok (.iaload, 1) := by decide +kernel
theorem dL_law_670 : decode cL_law 670 = .ok (.ifCond .eq 7, 3) := by decide +kernel
theorem dL_law_673 : decode cL_law 673 = .ok (.iconst 1, 1) := by decide +kernel
theorem dL_law_674 : decode cL_law 674 = .ok (.goto 4, 3) := by decide +kernel
theorem dL_law_677 : decode cL_law 677 = .ok (.iconst 0, 1) := by decide +kernel
theorem dL_law_678 : decode cL_law 678 = .ok (.invokevirtual 82, 3) := by decide +kernel
theorem dL_law_681 : decode cL_law 681 = .ok (.lcmp, 1) := by decide +kernel
theorem dL_law_682 : decode cL_law 682 = .ok (.ifCond .eq 486, 3) := by decide +kernel
theorem dL_law_685 : decode cL_law 685 = .ok (.iconst 0, 1) := by decide +kernel
theorem dL_law_686 : decode cL_law 686 = .ok (.ireturn, 1) := by decide +kernel
theorem dL_law_687 : decode cL_law 687 = .ok (.aload_n 1, 1) := by decide +kernel
theorem dL_law_688 : decode cL_law 688 = .ok (.aload_n 0, 1) := by decide +kernel
theorem dL_law_689 : decode cL_law 689 = .ok (.iload 4, 2) := by decide +kernel
theorem dL_law_691 : decode cL_law 691 = .ok (.iconst 1, 1) := by decide +kernel
theorem dL_law_692 : decode cL_law 692 = .ok (.iadd, 1) := by decide +kernel
theorem dL_law_693 : decode cL_law 693 = .ok (.iaload, 1) := by decide +kernel
theorem dL_law_694 : decode cL_law 694 = .ok (.aload_n 0, 1) := by decide +kernel
theorem dL_law_695 : decode cL_law 695 = .ok (.iload 4, 2) := by decide +kernel
theorem dL_law_697 : decode cL_law 697 = .ok (.iconst 2, 1) := by decide +kernel
theorem dL_law_698 : decode cL_law 698 = .ok (.iadd, 1) := by decide +kernel
theorem dL_law_699 : decode cL_law 699 = .ok (.iaload, 1) := by decide +kernel
theorem dL_law_700 : decode cL_law 700 = .ok (.ifCond .eq 7, 3) := by decide +kernel
theorem dL_law_703 : decode cL_law 703 = .ok (.iconst 1, 1) := by decide +kernel
theorem dL_law_704 : decode cL_law 704 = .ok (.goto 4, 3) := by decide +kernel
theorem dL_law_707 : decode cL_law 707 = .ok (.iconst 0, 1) := by decide +kernel
theorem dL_law_708 : decode cL_law 708 = .ok (.invokevirtual 83, 3) := by decide +kernel
theorem dL_law_711 : decode cL_law 711 = .ok (.aload_n 2, 1) := by decide +kernel
theorem dL_law_712 : decode cL_law 712 = .ok (.aload_n 0, 1) := by decide +kernel
theorem dL_law_713 : decode cL_law 713 = .ok (.iload 4, 2) := by decide +kernel
theorem dL_law_715 : decode cL_law 715 = .ok (.iconst 1, 1) := by decide +kernel
theorem dL_law_716 : decode cL_law 716 = .ok (.iadd, 1) := by decide +kernel
theorem dL_law_717 : decode cL_law 717 = .ok (.iaload, 1) := by decide +kernel
theorem dL_law_718 : decode cL_law 718 = .ok (.aload_n 0, 1) := by decide +kernel
theorem dL_law_719 : decode cL_law 719 = .ok (.iload 4, 2) := by decide +kernel
theorem dL_law_721 : decode cL_law 721 = .ok (.iconst 2, 1) := by decide +kernel
theorem dL_law_722 : decode cL_law 722 = .ok (.iadd, 1) := by decide +kernel
theorem dL_law_723 : decode cL_law 723 = .ok (.iaload, 1) := by decide +kernel
theorem dL_law_724 : decode cL_law 724 = .ok (.ifCond .eq 7, 3) := by decide +kernel
theorem dL_law_727 : decode cL_law 727 = .ok (.iconst 1, 1) := by decide +kernel
theorem dL_law_728 : decode cL_law 728 = .ok (.goto 4, 3) := by decide +kernel
theorem dL_law_731 : decode cL_law 731 = .ok (.iconst 0, 1) := by decide +kernel
theorem dL_law_732 : decode cL_law 732 = .ok (.invokevirtual 87, 3) := by decide +kernel
theorem dL_law_735 : decode cL_law 735 = .ok (.lcmp, 1) := by decide +kernel
theorem dL_law_736 : decode cL_law 736 = .ok (.ifCond .eq 432, 3) := by decide +kernel
theorem dL_law_739 : decode cL_law 739 = .ok (.iconst 0, 1) := by decide +kernel
theorem dL_law_740 : decode cL_law 740 = .ok (.ireturn, 1) := by decide +kernel
theorem dL_law_741 : decode cL_law 741 = .ok (.aload_n 1, 1) := by decide +kernel
theorem dL_law_742 : decode cL_law 742 = .ok (.aload_n 0, 1) := by decide +kernel
theorem dL_law_743 : decode cL_law 743 = .ok (.iload 4, 2) := by decide +kernel
theorem dL_law_745 : decode cL_law 745 = .ok (.iconst 1, 1) := by decide +kernel
theorem dL_law_746 : decode cL_law 746 = .ok (.iadd, 1) := by decide +kernel
theorem dL_law_747 : decode cL_law 747 = .ok (.iaload, 1) := by decide +kernel
theorem dL_law_748 : decode cL_law 748 = .ok (.ifCond .eq 7, 3) := by decide +kernel
theorem dL_law_751 : decode cL_law 751 = .ok (.iconst 1, 1) := by decide +kernel
theorem dL_law_752 : decode cL_law 752 = .ok (.goto 4, 3) := by decide +kernel
theorem dL_law_755 : decode cL_law 755 = .ok (.iconst 0, 1) := by decide +kernel
theorem dL_law_756 : decode cL_law 756 = .ok (.invokevirtual 88, 3) := by decide +kernel
theorem dL_law_759 : decode cL_law 759 = .ok (.aload_n 2, 1) := by decide +kernel
theorem dL_law_760 : decode cL_law 760 = .ok (.aload_n 0, 1) := by decide +kernel
theorem dL_law_761 : decode cL_law 761 = .ok (.iload 4, 2) := by decide +kernel
theorem dL_law_763 : decode cL_law 763 = .ok (.iconst 1, 1) := by decide +kernel
theorem dL_law_764 : decode cL_law 764 = .ok (.iadd, 1) := by decide +kernel
theorem dL_law_765 : decode cL_law 765 = .ok (.iaload, 1) := by decide +kernel
theorem dL_law_766 : decode cL_law 766 = .ok (.ifCond .eq 7, 3) := by decide +kernel
theorem dL_law_769 : decode cL_law 769 = .ok (.iconst 1, 1) := by decide +kernel
theorem dL_law_770 : decode cL_law 770 = .ok (.goto 4, 3) := by decide +kernel
theorem dL_law_773 : decode cL_law 773 = .ok (.iconst 0, 1) := by decide +kernel
theorem dL_law_774 : decode cL_law 774 = .ok (.invokevirtual 91, 3) := by decide +kernel
theorem dL_law_777 : decode cL_law 777 = .ok (.lcmp, 1) := by decide +kernel
theorem dL_law_778 : decode cL_law 778 = .ok (.ifCond .eq 390, 3) := by decide +kernel
theorem dL_law_781 : decode cL_law 781 = .ok (.iconst 0, 1) := by decide +kernel
theorem dL_law_782 : decode cL_law 782 = .ok (.ireturn, 1) := by decide +kernel
theorem dL_law_783 : decode cL_law 783 = .ok (.aload_n 1, 1) := by decide +kernel
theorem dL_law_784 : decode cL_law 784 = .ok (.aload_n 0, 1) := by decide +kernel
theorem dL_law_785 : decode cL_law 785 = .ok (.iload 4, 2) := by decide +kernel
theorem dL_law_787 : decode cL_law 787 = .ok (.iconst 1, 1) := by decide +kernel
theorem dL_law_788 : decode cL_law 788 = .ok (.iadd, 1) := by decide +kernel
theorem dL_law_789 : decode cL_law 789 = .ok (.iaload, 1) := by decide +kernel
theorem dL_law_790 : decode cL_law 790 = .ok (.aload_n 0, 1) := by decide +kernel
theorem dL_law_791 : decode cL_law 791 = .ok (.iload 4, 2) := by decide +kernel
theorem dL_law_793 : decode cL_law 793 = .ok (.iconst 2, 1) := by decide +kernel
theorem dL_law_794 : decode cL_law 794 = .ok (.iadd, 1) := by decide +kernel
theorem dL_law_795 : decode cL_law 795 = .ok (.iaload, 1) := by decide +kernel
theorem dL_law_796 : decode cL_law 796 = .ok (.aload_n 0, 1) := by decide +kernel
theorem dL_law_797 : decode cL_law 797 = .ok (.iload 4, 2) := by decide +kernel
theorem dL_law_799 : decode cL_law 799 = .ok (.iconst 3, 1) := by decide +kernel
theorem dL_law_800 : decode cL_law 800 = .ok (.iadd, 1) := by decide +kernel
theorem dL_law_801 : decode cL_law 801 = .ok (.iaload, 1) := by decide +kernel
theorem dL_law_802 : decode cL_law 802 = .ok (.aload_n 0, 1) := by decide +kernel
theorem dL_law_803 : decode cL_law 803 = .ok (.iload 4, 2) := by decide +kernel
theorem dL_law_805 : decode cL_law 805 = .ok (.iconst 4, 1) := by decide +kernel
theorem dL_law_806 : decode cL_law 806 = .ok (.iadd, 1) := by decide +kernel
theorem dL_law_807 : decode cL_law 807 = .ok (.iaload, 1) := by decide +kernel
theorem dL_law_808 : decode cL_law 808 = .ok (.ifCond .eq 7, 3) := by decide +kernel
theorem dL_law_811 : decode cL_law 811 = .ok (.iconst 1, 1) := by decide +kernel
theorem dL_law_812 : decode cL_law 812 = .ok (.goto 4, 3) := by decide +kernel
theorem dL_law_815 : decode cL_law 815 = .ok (.iconst 0, 1) := by decide +kernel
theorem dL_law_816 : decode cL_law 816 = .ok (.aload_n 0, 1) := by decide +kernel
theorem dL_law_817 : decode cL_law 817 = .ok (.iload 4, 2) := by decide +kernel
theorem dL_law_819 : decode cL_law 819 = .ok (.iconst 5, 1) := by decide +kernel
theorem dL_law_820 : decode cL_law 820 = .ok (.iadd, 1) := by decide +kernel
theorem dL_law_821 : decode cL_law 821 = .ok (.iaload, 1) := by decide +kernel
theorem dL_law_822 : decode cL_law 822 = .ok (.ifCond .eq 7, 3) := by decide +kernel
theorem dL_law_825 : decode cL_law 825 = .ok (.iconst 1, 1) := by decide +kernel
theorem dL_law_826 : decode cL_law 826 = .ok (.goto 4, 3) := by decide +kernel
theorem dL_law_829 : decode cL_law 829 = .ok (.iconst 0, 1) := by decide +kernel
theorem dL_law_830 : decode cL_law 830 = .ok (.invokevirtual 92, 3) := by decide +kernel
theorem dL_law_833 : decode cL_law 833 = .ok (.aload_n 2, 1) := by decide +kernel
theorem dL_law_834 : decode cL_law 834 = .ok (.aload_n 0, 1) := by decide +kernel
theorem dL_law_835 : decode cL_law 835 = .ok (.iload 4, 2) := by decide +kernel
theorem dL_law_837 : decode cL_law 837 = .ok (.iconst 1, 1) := by decide +kernel
theorem dL_law_838 : decode cL_law 838 = .ok (.iadd, 1) := by decide +kernel
theorem dL_law_839 : decode cL_law 839 = .ok (.iaload, 1) := by decide +kernel
theorem dL_law_840 : decode cL_law 840 = .ok (.aload_n 0, 1) := by decide +kernel
theorem dL_law_841 : decode cL_law 841 = .ok (.iload 4, 2) := by decide +kernel
theorem dL_law_843 : decode cL_law 843 = .ok (.iconst 2, 1) := by decide +kernel
theorem dL_law_844 : decode cL_law 844 = .ok (.iadd, 1) := by decide +kernel
theorem dL_law_845 : decode cL_law 845 = .ok (.iaload, 1) := by decide +kernel
theorem dL_law_846 : decode cL_law 846 = .ok (.aload_n 0, 1) := by decide +kernel
theorem dL_law_847 : decode cL_law 847 = .ok (.iload 4, 2) := by decide +kernel
theorem dL_law_849 : decode cL_law 849 = .ok (.iconst 3, 1) := by decide +kernel
theorem dL_law_850 : decode cL_law 850 = .ok (.iadd, 1) := by decide +kernel
theorem dL_law_851 : decode cL_law 851 = .ok (.iaload, 1) := by decide +kernel
theorem dL_law_852 : decode cL_law 852 = .ok (.aload_n 0, 1) := by decide +kernel
theorem dL_law_853 : decode cL_law 853 = .ok (.iload 4, 2) := by decide +kernel
theorem dL_law_855 : decode cL_law 855 = .ok (.iconst 4, 1) := by decide +kernel
theorem dL_law_856 : decode cL_law 856 = .ok (.iadd, 1) := by decide +kernel
theorem dL_law_857 : decode cL_law 857 = .ok (.iaload, 1) := by decide +kernel
theorem dL_law_858 : decode cL_law 858 = .ok (.ifCond .eq 7, 3) := by decide +kernel
theorem dL_law_861 : decode cL_law 861 = .ok (.iconst 1, 1) := by decide +kernel
theorem dL_law_862 : decode cL_law 862 = .ok (.goto 4, 3) := by decide +kernel
theorem dL_law_865 : decode cL_law 865 = .ok (.iconst 0, 1) := by decide +kernel
theorem dL_law_866 : decode cL_law 866 = .ok (.aload_n 0, 1) := by decide +kernel
theorem dL_law_867 : decode cL_law 867 = .ok (.iload 4, 2) := by decide +kernel
theorem dL_law_869 : decode cL_law 869 = .ok (.iconst 5, 1) := by decide +kernel
theorem dL_law_870 : decode cL_law 870 = .ok (.iadd, 1) := by decide +kernel
theorem dL_law_871 : decode cL_law 871 = .ok (.iaload, 1) := by decide +kernel
theorem dL_law_872 : decode cL_law 872 = .ok (.ifCond .eq 7, 3) := by decide +kernel
theorem dL_law_875 : decode cL_law 875 = .ok (.iconst 1, 1) := by decide +kernel
theorem dL_law_876 : decode cL_law 876 = .ok (.goto 4, 3) := by decide +kernel
theorem dL_law_879 : decode cL_law 879 = .ok (.iconst 0, 1) := by decide +kernel
theorem dL_law_880 : decode cL_law 880 = .ok (.invokevirtual 96, 3) := by decide +kernel
theorem dL_law_883 : decode cL_law 883 = .ok (.lcmp, 1) := by decide +kernel
theorem dL_law_884 : decode cL_law 884 = .ok (.ifCond .eq 284, 3) := by decide +kernel
theorem dL_law_887 : decode cL_law 887 = .ok (.iconst 0, 1) := by decide +kernel
theorem dL_law_888 : decode cL_law 888 = .ok (.ireturn, 1) := by decide +kernel
theorem dL_law_889 : decode cL_law 889 = .ok (.aload_n 1, 1) := by decide +kernel
theorem dL_law_890 : decode cL_law 890 = .ok (.aload_n 0, 1) := by decide +kernel
theorem dL_law_891 : decode cL_law 891 = .ok (.iload 4, 2) := by decide +kernel
theorem dL_law_893 : decode cL_law 893 = .ok (.iconst 1, 1) := by decide +kernel
theorem dL_law_894 : decode cL_law 894 = .ok (.iadd, 1) := by decide +kernel
theorem dL_law_895 : decode cL_law 895 = .ok (.iaload, 1) := by decide +kernel
theorem dL_law_896 : decode cL_law 896 = .ok (.aload_n 0, 1) := by decide +kernel
theorem dL_law_897 : decode cL_law 897 = .ok (.iload 4, 2) := by decide +kernel
theorem dL_law_899 : decode cL_law 899 = .ok (.iconst 2, 1) := by decide +kernel
theorem dL_law_900 : decode cL_law 900 = .ok (.iadd, 1) := by decide +kernel
theorem dL_law_901 : decode cL_law 901 = .ok (.iaload, 1) := by decide +kernel
theorem dL_law_902 : decode cL_law 902 = .ok (.invokevirtual 97, 3) := by decide +kernel
theorem dL_law_905 : decode cL_law 905 = .ok (.aload_n 2, 1) := by decide +kernel
theorem dL_law_906 : decode cL_law 906 = .ok (.aload_n 0, 1) := by decide +kernel
theorem dL_law_907 : decode cL_law 907 = .ok (.iload 4, 2) := by decide +kernel
theorem dL_law_909 : decode cL_law 909 = .ok (.iconst 1, 1) := by decide +kernel
theorem dL_law_910 : decode cL_law 910 = .ok (.iadd, 1) := by decide +kernel
theorem dL_law_911 : decode cL_law 911 = .ok (.iaload, 1) := by decide +kernel
theorem dL_law_912 : decode cL_law 912 = .ok (.aload_n 0, 1) := by decide +kernel
theorem dL_law_913 : decode cL_law 913 = .ok (.iload 4, 2) := by decide +kernel
theorem dL_law_915 : decode cL_law 915 = .ok (.iconst 2, 1) := by decide +kernel
theorem dL_law_916 : decode cL_law 916 = .ok (.iadd, 1) := by decide +kernel
theorem dL_law_917 : decode cL_law 917 = .ok (.iaload, 1) := by decide +kernel
theorem dL_law_918 : decode cL_law 918 = .ok (.invokevirtual 100, 3) := by decide +kernel
theorem dL_law_921 : decode cL_law 921 = .ok (.if_icmp .eq 247, 3) := by decide +kernel
theorem dL_law_924 : decode cL_law 924 = .ok (.iconst 0, 1) := by decide +kernel
theorem dL_law_925 : decode cL_law 925 = .ok (.ireturn, 1) := by decide +kernel
theorem dL_law_926 : decode cL_law 926 = .ok (.aload_n 1, 1) := by decide +kernel
theorem dL_law_927 : decode cL_law 927 = .ok (.aload_n 0, 1) := by decide +kernel
theorem dL_law_928 : decode cL_law 928 = .ok (.iload 4, 2) := by decide +kernel
theorem dL_law_930 : decode cL_law 930 = .ok (.iconst 1, 1) := by decide +kernel
theorem dL_law_931 : decode cL_law 931 = .ok (.iadd, 1) := by decide +kernel
theorem dL_law_932 : decode cL_law 932 = .ok (.iaload, 1) := by decide +kernel
theorem dL_law_933 : decode cL_law 933 = .ok (.aload_n 0, 1) := by decide +kernel
theorem dL_law_934 : decode cL_law 934 = .ok (.iload 4, 2) := by decide +kernel
theorem dL_law_936 : decode cL_law 936 = .ok (.iconst 2, 1) := by decide +kernel
theorem dL_law_937 : decode cL_law 937 = .ok (.iadd, 1) := by decide +kernel
theorem dL_law_938 : decode cL_law 938 = .ok (.iaload, 1) := by decide +kernel
theorem dL_law_939 : decode cL_law 939 = .ok (.aload_n 0, 1) := by decide +kernel
theorem dL_law_940 : decode cL_law 940 = .ok (.iload 4, 2) := by decide +kernel
theorem dL_law_942 : decode cL_law 942 = .ok (.iconst 3, 1) := by decide +kernel
theorem dL_law_943 : decode cL_law 943 = .ok (.iadd, 1) := by decide +kernel
theorem dL_law_944 : decode cL_law 944 = .ok (.iaload, 1) := by decide +kernel
theorem dL_law_945 : decode cL_law 945 = .ok (.ifCond .eq 7, 3) := by decide +kernel
theorem dL_law_948 : decode cL_law 948 = .ok (.iconst 1, 1) := by decide +kernel
theorem dL_law_949 : decode cL_law 949 = .ok (.goto 4, 3) := by decide +kernel
theorem dL_law_952 : decode cL_law 952 = .ok (.iconst 0, 1) := by decide +kernel
theorem dL_law_953 : decode cL_law 953 = .ok (.invokevirtual 101, 3) := by decide +kernel
theorem dL_law_956 : decode cL_law 956 = .ok (.aload_n 2, 1) := by decide +kernel
theorem dL_law_957 : decode cL_law 957 = .ok (.aload_n 0, 1) := by decide +kernel
theorem dL_law_958 : decode cL_law 958 = .ok (.iload 4, 2) := by decide +kernel
theorem dL_law_960 : decode cL_law 960 = .ok (.iconst 1, 1) := by decide +kernel
theorem dL_law_961 : decode cL_law 961 = .ok (.iadd, 1) := by decide +kernel
theorem dL_law_962 : decode cL_law 962 = .ok (.iaload, 1) := by decide +kernel
theorem dL_law_963 : decode cL_law 963 = .ok (.aload_n 0, 1) := by decide +kernel
theorem dL_law_964 : decode cL_law 964 = .ok (.iload 4, 2) := by decide +kernel
theorem dL_law_966 : decode cL_law 966 = .ok (.iconst 2, 1) := by decide +kernel
theorem dL_law_967 : decode cL_law 967 = .ok (.iadd, 1) := by decide +kernel
theorem dL_law_968 : decode cL_law 968 = .ok (.iaload, 1) := by decide +kernel
theorem dL_law_969 : decode cL_law 969 = .ok (.aload_n 0, 1) := by decide +kernel
theorem dL_law_970 : decode cL_law 970 = .ok (.iload 4, 2) := by decide +kernel
theorem dL_law_972 : decode cL_law 972 = .ok (.iconst 3, 1) := by decide +kernel
theorem dL_law_973 : decode cL_law 973 = .ok (.iadd, 1) := by decide +kernel
theorem dL_law_974 : decode cL_law 974 = .ok (.iaload, 1) := by decide +kernel
theorem dL_law_975 : decode cL_law 975 = .ok (.ifCond .eq 7, 3) := by decide +kernel
theorem dL_law_978 : decode cL_law 978 = .ok (.iconst 1, 1) := by decide +kernel
theorem dL_law_979 : decode cL_law 979 = .ok (.goto 4, 3) := by decide +kernel
theorem dL_law_982 : decode cL_law 982 = .ok (.iconst 0, 1) := by decide +kernel
theorem dL_law_983 : decode cL_law 983 = .ok (.invokevirtual 104, 3) := by decide +kernel
theorem dL_law_986 : decode cL_law 986 = .ok (.lcmp, 1) := by decide +kernel
theorem dL_law_987 : decode cL_law 987 = .ok (.ifCond .eq 181, 3) := by decide +kernel
theorem dL_law_990 : decode cL_law 990 = .ok (.iconst 0, 1) := by decide +kernel
theorem dL_law_991 : decode cL_law 991 = .ok (.ireturn, 1) := by decide +kernel
theorem dL_law_992 : decode cL_law 992 = .ok (.aload_n 1, 1) := by decide +kernel
theorem dL_law_993 : decode cL_law 993 = .ok (.aload_n 0, 1) := by decide +kernel
theorem dL_law_994 : decode cL_law 994 = .ok (.iload 4, 2) := by decide +kernel
theorem dL_law_996 : decode cL_law 996 = .ok (.iconst 1, 1) := by decide +kernel
theorem dL_law_997 : decode cL_law 997 = .ok (.iadd, 1) := by decide +kernel
theorem dL_law_998 : decode cL_law 998 = .ok (.iaload, 1) := by decide +kernel
theorem dL_law_999 : decode cL_law 999 = .ok (.aload_n 0, 1) := by decide +kernel
theorem dL_law_1000 : decode cL_law 1000 = .ok (.iload 4, 2) := by decide +kernel
theorem dL_law_1002 : decode cL_law 1002 = .ok (.iconst 2, 1) := by decide +kernel
theorem dL_law_1003 : decode cL_law 1003 = .ok (.iadd, 1) := by decide +kernel
theorem dL_law_1004 : decode cL_law 1004 = .ok (.iaload, 1) := by decide +kernel
theorem dL_law_1005 : decode cL_law 1005 = .ok (.aload_n 0, 1) := by decide +kernel
theorem dL_law_1006 : decode cL_law 1006 = .ok (.iload 4, 2) := by decide +kernel
theorem dL_law_1008 : decode cL_law 1008 = .ok (.iconst 3, 1) := by decide +kernel
theorem dL_law_1009 : decode cL_law 1009 = .ok (.iadd, 1) := by decide +kernel
theorem dL_law_1010 : decode cL_law 1010 = .ok (.iaload, 1) := by decide +kernel
theorem dL_law_1011 : decode cL_law 1011 = .ok (.invokevirtual 105, 3) := by decide +kernel
theorem dL_law_1014 : decode cL_law 1014 = .ok (.aload_n 2, 1) := by decide +kernel
theorem dL_law_1015 : decode cL_law 1015 = .ok (.aload_n 0, 1) := by decide +kernel
theorem dL_law_1016 : decode cL_law 1016 = .ok (.iload 4, 2) := by decide +kernel
theorem dL_law_1018 : decode cL_law 1018 = .ok (.iconst 1, 1) := by decide +kernel
theorem dL_law_1019 : decode cL_law 1019 = .ok (.iadd, 1) := by decide +kernel
theorem dL_law_1020 : decode cL_law 1020 = .ok (.iaload, 1) := by decide +kernel
theorem dL_law_1021 : decode cL_law 1021 = .ok (.aload_n 0, 1) := by decide +kernel
theorem dL_law_1022 : decode cL_law 1022 = .ok (.iload 4, 2) := by decide +kernel
theorem dL_law_1024 : decode cL_law 1024 = .ok (.iconst 2, 1) := by decide +kernel
theorem dL_law_1025 : decode cL_law 1025 = .ok (.iadd, 1) := by decide +kernel
theorem dL_law_1026 : decode cL_law 1026 = .ok (.iaload, 1) := by decide +kernel
theorem dL_law_1027 : decode cL_law 1027 = .ok (.aload_n 0, 1) := by decide +kernel
theorem dL_law_1028 : decode cL_law 1028 = .ok (.iload 4, 2) := by decide +kernel
theorem dL_law_1030 : decode cL_law 1030 = .ok (.iconst 3, 1) := by decide +kernel
theorem dL_law_1031 : decode cL_law 1031 = .ok (.iadd, 1) := by decide +kernel
theorem dL_law_1032 : decode cL_law 1032 = .ok (.iaload, 1) := by decide +kernel
theorem dL_law_1033 : decode cL_law 1033 = .ok (.invokevirtual 109, 3) := by decide +kernel
theorem dL_law_1036 : decode cL_law 1036 = .ok (.lcmp, 1) := by decide +kernel
theorem dL_law_1037 : decode cL_law 1037 = .ok (.ifCond .eq 131, 3) := by decide +kernel
theorem dL_law_1040 : decode cL_law 1040 = .ok (.iconst 0, 1) := by decide +kernel
theorem dL_law_1041 : decode cL_law 1041 = .ok (.ireturn, 1) := by decide +kernel
theorem dL_law_1042 : decode cL_law 1042 = .ok (.aload_n 1, 1) := by decide +kernel
theorem dL_law_1043 : decode cL_law 1043 = .ok (.aload_n 0, 1) := by decide +kernel
theorem dL_law_1044 : decode cL_law 1044 = .ok (.iload 4, 2) := by decide +kernel
theorem dL_law_1046 : decode cL_law 1046 = .ok (.iconst 1, 1) := by decide +kernel
theorem dL_law_1047 : decode cL_law 1047 = .ok (.iadd, 1) := by decide +kernel
theorem dL_law_1048 : decode cL_law 1048 = .ok (.iaload, 1) := by decide +kernel
theorem dL_law_1049 : decode cL_law 1049 = .ok (.aload_n 0, 1) := by decide +kernel
theorem dL_law_1050 : decode cL_law 1050 = .ok (.iload 4, 2) := by decide +kernel
theorem dL_law_1052 : decode cL_law 1052 = .ok (.iconst 2, 1) := by decide +kernel
theorem dL_law_1053 : decode cL_law 1053 = .ok (.iadd, 1) := by decide +kernel
theorem dL_law_1054 : decode cL_law 1054 = .ok (.iaload, 1) := by decide +kernel
theorem dL_law_1055 : decode cL_law 1055 = .ok (.invokevirtual 110, 3) := by decide +kernel
theorem dL_law_1058 : decode cL_law 1058 = .ok (.aload_n 2, 1) := by decide +kernel
theorem dL_law_1059 : decode cL_law 1059 = .ok (.aload_n 0, 1) := by decide +kernel
theorem dL_law_1060 : decode cL_law 1060 = .ok (.iload 4, 2) := by decide +kernel
theorem dL_law_1062 : decode cL_law 1062 = .ok (.iconst 1, 1) := by decide +kernel
theorem dL_law_1063 : decode cL_law 1063 = .ok (.iadd, 1) := by decide +kernel
theorem dL_law_1064 : decode cL_law 1064 = .ok (.iaload, 1) := by decide +kernel
theorem dL_law_1065 : decode cL_law 1065 = .ok (.aload_n 0, 1) := by decide +kernel
theorem dL_law_1066 : decode cL_law 1066 = .ok (.iload 4, 2) := by decide +kernel
theorem dL_law_1068 : decode cL_law 1068 = .ok (.iconst 2, 1) := by decide +kernel
theorem dL_law_1069 : decode cL_law 1069 = .ok (.iadd, 1) := by decide +kernel
theorem dL_law_1070 : decode cL_law 1070 = .ok (.iaload, 1) := by decide +kernel
theorem dL_law_1071 : decode cL_law 1071 = .ok (.invokevirtual 114, 3) := by decide +kernel
theorem dL_law_1074 : decode cL_law 1074 = .ok (.lcmp, 1) := by decide +kernel
theorem dL_law_1075 : decode cL_law 1075 = .ok (.ifCond .eq 93, 3) := by decide +kernel
theorem dL_law_1078 : decode cL_law 1078 = .ok (.iconst 0, 1) := by decide +kernel
theorem dL_law_1079 : decode cL_law 1079 = .ok (.ireturn, 1) := by decide +kernel
theorem dL_law_1080 : decode cL_law 1080 = .ok (.aload_n 1, 1) := by decide +kernel
theorem dL_law_1081 : decode cL_law 1081 = .ok (.aload_n 0, 1) := by decide +kernel
theorem dL_law_1082 : decode cL_law 1082 = .ok (.iload 4, 2) := by decide +kernel
theorem dL_law_1084 : decode cL_law 1084 = .ok (.iconst 1, 1) := by decide +kernel
theorem dL_law_1085 : decode cL_law 1085 = .ok (.iadd, 1) := by decide +kernel
theorem dL_law_1086 : decode cL_law 1086 = .ok (.iaload, 1) := by decide +kernel
theorem dL_law_1087 : decode cL_law 1087 = .ok (.invokevirtual 115, 3) := by decide +kernel
theorem dL_law_1090 : decode cL_law 1090 = .ok (.aload_n 2, 1) := by decide +kernel
theorem dL_law_1091 : decode cL_law 1091 = .ok (.aload_n 0, 1) := by decide +kernel
theorem dL_law_1092 : decode cL_law 1092 = .ok (.iload 4, 2) := by decide +kernel
theorem dL_law_1094 : decode cL_law 1094 = .ok (.iconst 1, 1) := by decide +kernel
theorem dL_law_1095 : decode cL_law 1095 = .ok (.iadd, 1) := by decide +kernel
theorem dL_law_1096 : decode cL_law 1096 = .ok (.iaload, 1) := by decide +kernel
theorem dL_law_1097 : decode cL_law 1097 = .ok (.invokevirtual 118, 3) := by decide +kernel
theorem dL_law_1100 : decode cL_law 1100 = .ok (.if_icmp .eq 68, 3) := by decide +kernel
theorem dL_law_1103 : decode cL_law 1103 = .ok (.iconst 0, 1) := by decide +kernel
theorem dL_law_1104 : decode cL_law 1104 = .ok (.ireturn, 1) := by decide +kernel
theorem dL_law_1105 : decode cL_law 1105 = .ok (.aload_n 1, 1) := by decide +kernel
theorem dL_law_1106 : decode cL_law 1106 = .ok (.aload_n 0, 1) := by decide +kernel
theorem dL_law_1107 : decode cL_law 1107 = .ok (.iload 4, 2) := by decide +kernel
theorem dL_law_1109 : decode cL_law 1109 = .ok (.iconst 1, 1) := by decide +kernel
theorem dL_law_1110 : decode cL_law 1110 = .ok (.iadd, 1) := by decide +kernel
theorem dL_law_1111 : decode cL_law 1111 = .ok (.iaload, 1) := by decide +kernel
theorem dL_law_1112 : decode cL_law 1112 = .ok (.invokevirtual 119, 3) := by decide +kernel
theorem dL_law_1115 : decode cL_law 1115 = .ok (.aload_n 2, 1) := by decide +kernel
theorem dL_law_1116 : decode cL_law 1116 = .ok (.aload_n 0, 1) := by decide +kernel
theorem dL_law_1117 : decode cL_law 1117 = .ok (.iload 4, 2) := by decide +kernel
theorem dL_law_1119 : decode cL_law 1119 = .ok (.iconst 1, 1) := by decide +kernel
theorem dL_law_1120 : decode cL_law 1120 = .ok (.iadd, 1) := by decide +kernel
theorem dL_law_1121 : decode cL_law 1121 = .ok (.iaload, 1) := by decide +kernel
theorem dL_law_1122 : decode cL_law 1122 = .ok (.invokevirtual 123, 3) := by decide +kernel
theorem dL_law_1125 : decode cL_law 1125 = .ok (.lcmp, 1) := by decide +kernel
theorem dL_law_1126 : decode cL_law 1126 = .ok (.ifCond .eq 42, 3) := by decide +kernel
theorem dL_law_1129 : decode cL_law 1129 = .ok (.iconst 0, 1) := by decide +kernel
theorem dL_law_1130 : decode cL_law 1130 = .ok (.ireturn, 1) := by decide +kernel
theorem dL_law_1131 : decode cL_law 1131 = .ok (.aload_n 1, 1) := by decide +kernel
theorem dL_law_1132 : decode cL_law 1132 = .ok (.aload_n 0, 1) := by decide +kernel
theorem dL_law_1133 : decode cL_law 1133 = .ok (.iload 4, 2) := by decide +kernel
theorem dL_law_1135 : decode cL_law 1135 = .ok (.iconst 1, 1) := by decide +kernel
theorem dL_law_1136 : decode cL_law 1136 = .ok (.iadd, 1) := by decide +kernel
theorem dL_law_1137 : decode cL_law 1137 = .ok (.iaload, 1) := by decide +kernel
theorem dL_law_1138 : decode cL_law 1138 = .ok (.aload_n 0, 1) := by decide +kernel
theorem dL_law_1139 : decode cL_law 1139 = .ok (.iload 4, 2) := by decide +kernel
theorem dL_law_1141 : decode cL_law 1141 = .ok (.iconst 2, 1) := by decide +kernel
theorem dL_law_1142 : decode cL_law 1142 = .ok (.iadd, 1) := by decide +kernel
theorem dL_law_1143 : decode cL_law 1143 = .ok (.iaload, 1) := by decide +kernel
theorem dL_law_1144 : decode cL_law 1144 = .ok (.invokevirtual 124, 3) := by decide +kernel
theorem dL_law_1147 : decode cL_law 1147 = .ok (.aload_n 2, 1) := by decide +kernel
theorem dL_law_1148 : decode cL_law 1148 = .ok (.aload_n 0, 1) := by decide +kernel
theorem dL_law_1149 : decode cL_law 1149 = .ok (.iload 4, 2) := by decide +kernel
theorem dL_law_1151 : decode cL_law 1151 = .ok (.iconst 1, 1) := by decide +kernel
theorem dL_law_1152 : decode cL_law 1152 = .ok (.iadd, 1) := by decide +kernel
theorem dL_law_1153 : decode cL_law 1153 = .ok (.iaload, 1) := by decide +kernel
theorem dL_law_1154 : decode cL_law 1154 = .ok (.aload_n 0, 1) := by decide +kernel
theorem dL_law_1155 : decode cL_law 1155 = .ok (.iload 4, 2) := by decide +kernel
theorem dL_law_1157 : decode cL_law 1157 = .ok (.iconst 2, 1) := by decide +kernel
theorem dL_law_1158 : decode cL_law 1158 = .ok (.iadd, 1) := by decide +kernel
theorem dL_law_1159 : decode cL_law 1159 = .ok (.iaload, 1) := by decide +kernel
theorem dL_law_1160 : decode cL_law 1160 = .ok (.invokevirtual 127, 3) := by decide +kernel
theorem dL_law_1163 : decode cL_law 1163 = .ok (.if_icmp .eq 5, 3) := by decide +kernel
theorem dL_law_1166 : decode cL_law 1166 = .ok (.iconst 0, 1) := by decide +kernel
theorem dL_law_1167 : decode cL_law 1167 = .ok (.ireturn, 1) := by decide +kernel
theorem dL_law_1168 : decode cL_law 1168 = .ok (.iinc 4 6, 3) := by decide +kernel
theorem dL_law_1171 : decode cL_law 1171 = .ok (.goto (-1148), 3) := by decide +kernel
theorem dL_law_1174 : decode cL_law 1174 = .ok (.iconst 1, 1) := by decide +kernel
theorem dL_law_1175 : decode cL_law 1175 = .ok (.ireturn, 1) := by decide +kernel
end
section
theorem dX0_init_0 : decode cX0_init 0 = .ok (.aload_n 0, 1) := by decide +kernel
theorem dX0_init_1 : decode cX0_init 1 = .ok (.invokespecial 3, 3) := by decide +kernel
theorem dX0_init_4 : decode cX0_init 4 = .ok (.aload_n 0, 1) := by decide +kernel
theorem dX0_init_5 : decode cX0_init 5 = .ok (.iconst 0, 1) := by decide +kernel
theorem dX0_init_6 : decode cX0_init 6 = .ok (.putfield 9, 3) := by decide +kernel
theorem dX0_init_9 : decode cX0_init 9 = .ok (.aload_n 0, 1) := by decide +kernel
theorem dX0_init_10 : decode cX0_init 10 = .ok (.iconst 0, 1) := by decide +kernel
theorem dX0_init_11 : decode cX0_init 11 = .ok (.putfield 15, 3) := by decide +kernel
theorem dX0_init_14 : decode cX0_init 14 = .ok (.aload_n 0, 1) := by decide +kernel
theorem dX0_init_15 : decode cX0_init 15 = .ok (.iconst (-1), 1) := by decide +kernel
theorem dX0_init_16 : decode cX0_init 16 = .ok (.putfield 18, 3) := by decide +kernel
theorem dX0_init_19 : decode cX0_init 19 = .ok (.aload_n 0, 1) := by decide +kernel
theorem dX0_init_20 : decode cX0_init 20 = .ok (.new 21, 3) := by decide +kernel
theorem dX0_init_23 : decode cX0_init 23 = .ok (.dup, 1) := by decide +kernel
theorem dX0_init_24 : decode cX0_init 24 = .ok (.invokespecial 23, 3) := by decide +kernel
theorem dX0_init_27 : decode cX0_init 27 = .ok (.putfield 24, 3) := by decide +kernel
theorem dX0_init_30 : decode cX0_init 30 = .ok (.return_, 1) := by decide +kernel
end
section
theorem dX1_init_0 : decode cX1_init 0 = .ok (.aload_n 0, 1) := by decide +kernel
theorem dX1_init_1 : decode cX1_init 1 = .ok (.invokespecial 5, 3) := by decide +kernel
theorem dX1_init_4 : decode cX1_init 4 = .ok (.aload_n 0, 1) := by decide +kernel
theorem dX1_init_5 : decode cX1_init 5 = .ok (.lconst 1, 1) := by decide +kernel
theorem dX1_init_6 : decode cX1_init 6 = .ok (.putfield 11, 3) := by decide +kernel
theorem dX1_init_9 : decode cX1_init 9 = .ok (.aload_n 0, 1) := by decide +kernel
theorem dX1_init_10 : decode cX1_init 10 = .ok (.iconst 0, 1) := by decide +kernel
theorem dX1_init_11 : decode cX1_init 11 = .ok (.putfield 15, 3) := by decide +kernel
theorem dX1_init_14 : decode cX1_init 14 = .ok (.aload_n 0, 1) := by decide +kernel
theorem dX1_init_15 : decode cX1_init 15 = .ok (.bipush 8, 2) := by decide +kernel
theorem dX1_init_17 : decode cX1_init 17 = .ok (.bipush 8, 2) := by decide +kernel
theorem dX1_init_19 : decode cX1_init 19 = .ok (.multianewarray 19 2, 4) := by decide +kernel
theorem dX1_init_23 : decode cX1_init 23 = .ok (.putfield 21, 3) := by decide +kernel
theorem dX1_init_26 : decode cX1_init 26 = .ok (.aload_n 0, 1) := by decide +kernel
theorem dX1_init_27 : decode cX1_init 27 = .ok (.bipush 8, 2) := by decide +kernel
theorem dX1_init_29 : decode cX1_init 29 = .ok (.bipush 8, 2) := by decide +kernel
theorem dX1_init_31 : decode cX1_init 31 = .ok (.multianewarray 19 2, 4) := by decide +kernel
theorem dX1_init_35 : decode cX1_init 35 = .ok (.putfield 24, 3) := by decide +kernel
theorem dX1_init_38 : decode cX1_init 38 = .ok (.aload_n 0, 1) := by decide +kernel
theorem dX1_init_39 : decode cX1_init 39 = .ok (.bipush 7, 2) := by decide +kernel
theorem dX1_init_41 : decode cX1_init 41 = .ok (.newarray .boolean, 2) := by decide +kernel
theorem dX1_init_43 : decode cX1_init 43 = .ok (.putfield 27, 3) := by decide +kernel
theorem dX1_init_46 : decode cX1_init 46 = .ok (.aload_n 0, 1) := by decide +kernel
theorem dX1_init_47 : decode cX1_init 47 = .ok (.bipush 8, 2) := by decide +kernel
theorem dX1_init_49 : decode cX1_init 49 = .ok (.newarray .int, 2) := by decide +kernel
theorem dX1_init_51 : decode cX1_init 51 = .ok (.putfield 31, 3) := by decide +kernel
theorem dX1_init_54 : decode cX1_init 54 = .ok (.return_, 1) := by decide +kernel
theorem dX1_clear_0 : decode cX1_clear 0 = .ok (.iconst 0, 1) := by decide +kernel
theorem dX1_clear_1 : decode cX1_clear 1 = .ok (.istore_n 1, 1) := by decide +kernel
theorem dX1_clear_2 : decode cX1_clear 2 = .ok (.iload_n 1, 1) := by decide +kernel
theorem dX1_clear_3 : decode cX1_clear 3 = .ok (.bipush 8, 2) := by decide +kernel
theorem dX1_clear_5 : decode cX1_clear 5 = .ok (.if_icmp .ge 32, 3) := by decide +kernel
theorem dX1_clear_8 : decode cX1_clear 8 = .ok (.iconst 0, 1) := by decide +kernel
theorem dX1_clear_9 : decode cX1_clear 9 = .ok (.istore_n 2, 1) := by decide +kernel
theorem dX1_clear_10 : decode cX1_clear 10 = .ok (.iload_n 2, 1) := by decide +kernel
theorem dX1_clear_11 : decode cX1_clear 11 = .ok (.bipush 8, 2) := by decide +kernel
theorem dX1_clear_13 : decode cX1_clear 13 = .ok (.if_icmp .ge 18, 3) := by decide +kernel
theorem dX1_clear_16 : decode cX1_clear 16 = .ok (.aload_n 0, 1) := by decide +kernel
theorem dX1_clear_17 : decode cX1_clear 17 = .ok (.getfield 21, 3) := by decide +kernel
theorem dX1_clear_20 : decode cX1_clear 20 = .ok (.iload_n 1, 1) := by decide +kernel
theorem dX1_clear_21 : decode cX1_clear 21 = .ok (.aaload, 1) := by decide +kernel
theorem dX1_clear_22 : decode cX1_clear 22 = .ok (.iload_n 2, 1) := by decide +kernel
theorem dX1_clear_23 : decode cX1_clear 23 = .ok (.lconst 0, 1) := by decide +kernel
theorem dX1_clear_24 : decode cX1_clear 24 = .ok (.lastore, 1) := by decide +kernel
theorem dX1_clear_25 : decode cX1_clear 25 = .ok (.iinc 2 1, 3) := by decide +kernel
theorem dX1_clear_28 : decode cX1_clear 28 = .ok (.goto (-18), 3) := by decide +kernel
theorem dX1_clear_31 : decode cX1_clear 31 = .ok (.iinc 1 1, 3) := by decide +kernel
theorem dX1_clear_34 : decode cX1_clear 34 = .ok (.goto (-32), 3) := by decide +kernel
theorem dX1_clear_37 : decode cX1_clear 37 = .ok (.return_, 1) := by decide +kernel
theorem dX1_copyForms_0 : decode cX1_copyForms 0 = .ok (.aload_n 0, 1) := by decide +kernel
theorem dX1_copyForms_1 : decode cX1_copyForms 1 = .ok (.invokevirtual 35, 3) := by decide +kernel
theorem dX1_copyForms_4 : decode cX1_copyForms 4 = .ok (.iconst 0, 1) := by decide +kernel
theorem dX1_copyForms_5 : decode cX1_copyForms 5 = .ok (.istore_n 2, 1) := by decide +kernel
theorem dX1_copyForms_6 : decode cX1_copyForms 6 = .ok (.iload_n 2, 1) := by decide +kernel
theorem dX1_copyForms_7 : decode cX1_copyForms 7 = .ok (.bipush 7, 2) := by decide +kernel
theorem dX1_copyForms_9 : decode cX1_copyForms 9 = .ok (.if_icmp .ge 39, 3) := by decide +kernel
theorem dX1_copyForms_12 : decode cX1_copyForms 12 = .ok (.iconst 0, 1) := by decide +kernel
theorem dX1_copyForms_13 : decode cX1_copyForms 13 = .ok (.istore_n 3, 1) := by decide +kernel
theorem dX1_copyForms_14 : decode cX1_copyForms 14 = .ok (.iload_n 3, 1) := by decide +kernel
theorem dX1_copyForms_15 : decode cX1_copyForms 15 = .ok (.bipush 7, 2) := by decide +kernel
theorem dX1_copyForms_17 : decode cX1_copyForms 17 = .ok (.if_icmp .ge 25, 3) := by decide +kernel
theorem dX1_copyForms_20 : decode cX1_copyForms 20 = .ok (.aload_n 0, 1) := by decide +kernel
theorem dX1_copyForms_21 : decode cX1_copyForms 21 = .ok (.getfield 21, 3) := by decide +kernel
theorem dX1_copyForms_24 : decode cX1_copyForms 24 = .ok (.iload_n 2, 1) := by decide +kernel
theorem dX1_copyForms_25 : decode cX1_copyForms 25 = .ok (.aaload, 1) := by decide +kernel
theorem dX1_copyForms_26 : decode cX1_copyForms 26 = .ok (.iload_n 3, 1) := by decide +kernel
theorem dX1_copyForms_27 : decode cX1_copyForms 27 = .ok (.aload_n 1, 1) := by decide +kernel
theorem dX1_copyForms_28 : decode cX1_copyForms 28 = .ok (.getfield 21, 3) := by decide +kernel
theorem dX1_copyForms_31 : decode cX1_copyForms 31 = .ok (.iload_n 2, 1) := by decide +kernel
theorem dX1_copyForms_32 : decode cX1_copyForms 32 = .ok (.aaload, 1) := by decide +kernel
theorem dX1_copyForms_33 : decode cX1_copyForms 33 = .ok (.iload_n 3, 1) := by decide +kernel
theorem dX1_copyForms_34 : decode cX1_copyForms 34 = .ok (.laload, 1) := by decide +kernel
theorem dX1_copyForms_35 : decode cX1_copyForms 35 = .ok (.lastore, 1) := by decide +kernel
theorem dX1_copyForms_36 : decode cX1_copyForms 36 = .ok (.iinc 3 1, 3) := by decide +kernel
theorem dX1_copyForms_39 : decode cX1_copyForms 39 = .ok (.goto (-25), 3) := by decide +kernel
theorem dX1_copyForms_42 : decode cX1_copyForms 42 = .ok (.iinc 2 1, 3) := by decide +kernel
theorem dX1_copyForms_45 : decode cX1_copyForms 45 = .ok (.goto (-39), 3) := by decide +kernel
theorem dX1_copyForms_48 : decode cX1_copyForms 48 = .ok (.return_, 1) := by decide +kernel
theorem dX1_copyMargins_0 : decode cX1_copyMargins 0 = .ok (.iconst 0, 1) := by decide +kernel
theorem dX1_copyMargins_1 : decode cX1_copyMargins 1 = .ok (.istore_n 2, 1) := by decide +kernel
theorem dX1_copyMargins_2 : decode cX1_copyMargins 2 = .ok (.iload_n 2, 1) := by decide +kernel
theorem dX1_copyMargins_3 : decode cX1_copyMargins 3 = .ok (.bipush 8, 2) := by decide +kernel
theorem dX1_copyMargins_5 : decode cX1_copyMargins 5 = .ok (.if_icmp .ge 45, 3) := by decide +kernel
theorem dX1_copyMargins_8 : decode cX1_copyMargins 8 = .ok (.aload_n 0, 1) := by decide +kernel
theorem dX1_copyMargins_9 : decode cX1_copyMargins 9 = .ok (.getfield 21, 3) := by decide +kernel
theorem dX1_copyMargins_12 : decode cX1_copyMargins 12 = .ok (.iload_n 2, 1) := by decide +kernel
theorem dX1_copyMargins_13 : decode cX1_copyMargins 13 = .ok (.aaload, 1) := by decide +kernel
theorem dX1_copyMargins_14 : decode cX1_copyMargins 14 = .ok (.bipush 7, 2) := by decide +kernel
theorem dX1_copyMargins_16 : decode cX1_copyMargins 16 = .ok (.aload_n 1, 1) := by decide +kernel
theorem dX1_copyMargins_17 : decode cX1_copyMargins 17 = .ok (.getfield 21, 3) := by decide +kernel
theorem dX1_copyMargins_20 : decode cX1_copyMargins 20 = .ok (.iload_n 2, 1) := by decide +kernel
theorem dX1_copyMargins_21 : decode cX1_copyMargins 21 = .ok (.aaload, 1) := by decide +kernel
theorem dX1_copyMargins_22 : decode cX1_copyMargins 22 = .ok (.bipush 7, 2) := by decide +kernel
theorem dX1_copyMargins_24 : decode cX1_copyMargins 24 = .ok (.laload, 1) := by decide +kernel
theorem dX1_copyMargins_25 : decode cX1_copyMargins 25 = .ok (.lastore, 1) := by decide +kernel
theorem dX1_copyMargins_26 : decode cX1_copyMargins 26 = .ok (.aload_n 0, 1) := by decide +kernel
theorem dX1_copyMargins_27 : decode cX1_copyMargins 27 = .ok (.getfield 21, 3) := by decide +kernel
theorem dX1_copyMargins_30 : decode cX1_copyMargins 30 = .ok (.bipush 7, 2) := by decide +kernel
theorem dX1_copyMargins_32 : decode cX1_copyMargins 32 = .ok (.aaload, 1) := by decide +kernel
theorem dX1_copyMargins_33 : decode cX1_copyMargins 33 = .ok (.iload_n 2, 1) := by decide +kernel
theorem dX1_copyMargins_34 : decode cX1_copyMargins 34 = .ok (.aload_n 1, 1) := by decide +kernel
theorem dX1_copyMargins_35 : decode cX1_copyMargins 35 = .ok (.getfield 21, 3) := by decide +kernel
theorem dX1_copyMargins_38 : decode cX1_copyMargins 38 = .ok (.bipush 7, 2) := by decide +kernel
theorem dX1_copyMargins_40 : decode cX1_copyMargins 40 = .ok (.aaload, 1) := by decide +kernel
theorem dX1_copyMargins_41 : decode cX1_copyMargins 41 = .ok (.iload_n 2, 1) := by decide +kernel
theorem dX1_copyMargins_42 : decode cX1_copyMargins 42 = .ok (.laload, 1) := by decide +kernel
theorem dX1_copyMargins_43 : decode cX1_copyMargins 43 = .ok (.lastore, 1) := by decide +kernel
theorem dX1_copyMargins_44 : decode cX1_copyMargins 44 = .ok (.iinc 2 1, 3) := by decide +kernel
theorem dX1_copyMargins_47 : decode cX1_copyMargins 47 = .ok (.goto (-45), 3) := by decide +kernel
theorem dX1_copyMargins_50 : decode cX1_copyMargins 50 = .ok (.return_, 1) := by decide +kernel
theorem dX1_load_0 : decode cX1_load 0 = .ok (.iconst 0, 1) := by decide +kernel
theorem dX1_load_1 : decode cX1_load 1 = .ok (.istore 5, 2) := by decide +kernel
theorem dX1_load_3 : decode cX1_load 3 = .ok (.iload 5, 2) := by decide +kernel
theorem dX1_load_5 : decode cX1_load 5 = .ok (.bipush 6, 2) := by decide +kernel
theorem dX1_load_7 : decode cX1_load 7 = .ok (.if_icmp .ge 29, 3) := by decide +kernel
theorem dX1_load_10 : decode cX1_load 10 = .ok (.aload_n 0, 1) := by decide +kernel
theorem dX1_load_11 : decode cX1_load 11 = .ok (.getfield 31, 3) := by decide +kernel
theorem dX1_load_14 : decode cX1_load 14 = .ok (.iload 5, 2) := by decide +kernel
theorem dX1_load_16 : decode cX1_load 16 = .ok (.iload_n 1, 1) := by decide +kernel
theorem dX1_load_17 : decode cX1_load 17 = .ok (.iload 5, 2) := by decide +kernel
theorem dX1_load_19 : decode cX1_load 19 = .ok (.ishr, 1) := by decide +kernel
theorem dX1_load_20 : decode cX1_load 20 = .ok (.iconst 1, 1) := by decide +kernel
theorem dX1_load_21 : decode cX1_load 21 = .ok (.iand, 1) := by decide +kernel
theorem dX1_load_22 : decode cX1_load 22 = .ok (.iload_n 2, 1) := by decide +kernel
theorem dX1_load_23 : decode cX1_load 23 = .ok (.iload 5, 2) := by decide +kernel
theorem dX1_load_25 : decode cX1_load 25 = .ok (.ishr, 1) := by decide +kernel
theorem dX1_load_26 : decode cX1_load 26 = .ok (.iconst 1, 1) := by decide +kernel
theorem dX1_load_27 : decode cX1_load 27 = .ok (.iand, 1) := by decide +kernel
theorem dX1_load_28 : decode cX1_load 28 = .ok (.isub, 1) := by decide +kernel
theorem dX1_load_29 : decode cX1_load 29 = .ok (.iastore, 1) := by decide +kernel
theorem dX1_load_30 : decode cX1_load 30 = .ok (.iinc 5 1, 3) := by decide +kernel
theorem dX1_load_33 : decode cX1_load 33 = .ok (.goto (-30), 3) := by decide +kernel
theorem dX1_load_36 : decode cX1_load 36 = .ok (.aload_n 0, 1) := by decide +kernel
theorem dX1_load_37 : decode cX1_load 37 = .ok (.getfield 31, 3) := by decide +kernel
theorem dX1_load_40 : decode cX1_load 40 = .ok (.bipush 6, 2) := by decide +kernel
theorem dX1_load_42 : decode cX1_load 42 = .ok (.iload_n 3, 1) := by decide +kernel
theorem dX1_load_43 : decode cX1_load 43 = .ok (.iastore, 1) := by decide +kernel
theorem dX1_load_44 : decode cX1_load 44 = .ok (.aload_n 0, 1) := by decide +kernel
theorem dX1_load_45 : decode cX1_load 45 = .ok (.getfield 31, 3) := by decide +kernel
theorem dX1_load_48 : decode cX1_load 48 = .ok (.bipush 7, 2) := by decide +kernel
theorem dX1_load_50 : decode cX1_load 50 = .ok (.iload 4, 2) := by decide +kernel
theorem dX1_load_52 : decode cX1_load 52 = .ok (.iastore, 1) := by decide +kernel
theorem dX1_load_53 : decode cX1_load 53 = .ok (.return_, 1) := by decide +kernel
theorem dX1_include_0 : decode cX1_include 0 = .ok (.iconst 0, 1) := by decide +kernel
theorem dX1_include_1 : decode cX1_include 1 = .ok (.istore_n 2, 1) := by decide +kernel
theorem dX1_include_2 : decode cX1_include 2 = .ok (.iload_n 2, 1) := by decide +kernel
theorem dX1_include_3 : decode cX1_include 3 = .ok (.bipush 8, 2) := by decide +kernel
theorem dX1_include_5 : decode cX1_include 5 = .ok (.if_icmp .ge 52, 3) := by decide +kernel
theorem dX1_include_8 : decode cX1_include 8 = .ok (.iconst 0, 1) := by decide +kernel
theorem dX1_include_9 : decode cX1_include 9 = .ok (.istore_n 3, 1) := by decide +kernel
theorem dX1_include_10 : decode cX1_include 10 = .ok (.iload_n 3, 1) := by decide +kernel
theorem dX1_include_11 : decode cX1_include 11 = .ok (.bipush 8, 2) := by decide +kernel
theorem dX1_include_13 : decode cX1_include 13 = .ok (.if_icmp .ge 38, 3) := by decide +kernel
theorem dX1_include_16 : decode cX1_include 16 = .ok (.aload_n 0, 1) := by decide +kernel
theorem dX1_include_17 : decode cX1_include 17 = .ok (.getfield 21, 3) := by decide +kernel
theorem dX1_include_20 : decode cX1_include 20 = .ok (.iload_n 2, 1) := by decide +kernel
theorem dX1_include_21 : decode cX1_include 21 = .ok (.aaload, 1) := by decide +kernel
theorem dX1_include_22 : decode cX1_include 22 = .ok (.iload_n 3, 1) := by decide +kernel
theorem dX1_include_23 : decode cX1_include 23 = .ok (.dup2, 1) := by decide +kernel
theorem dX1_include_24 : decode cX1_include 24 = .ok (.laload, 1) := by decide +kernel
theorem dX1_include_25 : decode cX1_include 25 = .ok (.iload_n 1, 1) := by decide +kernel
theorem dX1_include_26 : decode cX1_include 26 = .ok (.i2l, 1) := by decide +kernel
theorem dX1_include_27 : decode cX1_include 27 = .ok (.aload_n 0, 1) := by decide +kernel
theorem dX1_include_28 : decode cX1_include 28 = .ok (.getfield 31, 3) := by decide +kernel
theorem dX1_include_31 : decode cX1_include 31 = .ok (.iload_n 2, 1) := by decide +kernel
theorem dX1_include_32 : decode cX1_include 32 = .ok (.iaload, 1) := by decide +kernel
theorem dX1_include_33 : decode cX1_include 33 = .ok (.i2l, 1) := by decide +kernel
theorem dX1_include_34 : decode cX1_include 34 = .ok (.lmul, 1) := by decide +kernel
theorem dX1_include_35 : decode cX1_include 35 = .ok (.aload_n 0, 1) := by decide +kernel
theorem dX1_include_36 : decode cX1_include 36 = .ok (.getfield 31, 3) := by decide +kernel
theorem dX1_include_39 : decode cX1_include 39 = .ok (.iload_n 3, 1) := by decide +kernel
theorem dX1_include_40 : decode cX1_include 40 = .ok (.iaload, 1) := by decide +kernel
theorem dX1_include_41 : decode cX1_include 41 = .ok (.i2l, 1) := by decide +kernel
theorem dX1_include_42 : decode cX1_include 42 = .ok (.lmul, 1) := by decide +kernel
theorem dX1_include_43 : decode cX1_include 43 = .ok (.ladd, 1) := by decide +kernel
theorem dX1_include_44 : decode cX1_include 44 = .ok (.lastore, 1) := by decide +kernel
theorem dX1_include_45 : decode cX1_include 45 = .ok (.iinc 3 1, 3) := by decide +kernel
theorem dX1_include_48 : decode cX1_include 48 = .ok (.goto (-38), 3) := by decide +kernel
theorem dX1_include_51 : decode cX1_include 51 = .ok (.iinc 2 1, 3) := by decide +kernel
theorem dX1_include_54 : decode cX1_include 54 = .ok (.goto (-52), 3) := by decide +kernel
theorem dX1_include_57 : decode cX1_include 57 = .ok (.return_, 1) := by decide +kernel
theorem dX1_solve_0 : decode cX1_solve 0 = .ok (.iconst 0, 1) := by decide +kernel
theorem dX1_solve_1 : decode cX1_solve 1 = .ok (.istore_n 1, 1) := by decide +kernel
theorem dX1_solve_2 : decode cX1_solve 2 = .ok (.iload_n 1, 1) := by decide +kernel
theorem dX1_solve_3 : decode cX1_solve 3 = .ok (.bipush 8, 2) := by decide +kernel
theorem dX1_solve_5 : decode cX1_solve 5 = .ok (.if_icmp .ge 39, 3) := by decide +kernel
theorem dX1_solve_8 : decode cX1_solve 8 = .ok (.iconst 0, 1) := by decide +kernel
theorem dX1_solve_9 : decode cX1_solve 9 = .ok (.istore_n 2, 1) := by decide +kernel
theorem dX1_solve_10 : decode cX1_solve 10 = .ok (.iload_n 2, 1) := by decide +kernel
theorem dX1_solve_11 : decode cX1_solve 11 = .ok (.bipush 8, 2) := by decide +kernel
theorem dX1_solve_13 : decode cX1_solve 13 = .ok (.if_icmp .ge 25, 3) := by decide +kernel
theorem dX1_solve_16 : decode cX1_solve 16 = .ok (.aload_n 0, 1) := by decide +kernel
theorem dX1_solve_17 : decode cX1_solve 17 = .ok (.getfield 24, 3) := by decide +kernel
theorem dX1_solve_20 : decode cX1_solve 20 = .ok (.iload_n 1, 1) := by decide +kernel
theorem dX1_solve_21 : decode cX1_solve 21 = .ok (.aaload, 1) := by decide +kernel
theorem dX1_solve_22 : decode cX1_solve 22 = .ok (.iload_n 2, 1) := by decide +kernel
theorem dX1_solve_23 : decode cX1_solve 23 = .ok (.aload_n 0, 1) := by decide +kernel
theorem dX1_solve_24 : decode cX1_solve 24 = .ok (.getfield 21, 3) := by decide +kernel
theorem dX1_solve_27 : decode cX1_solve 27 = .ok (.iload_n 1, 1) := by decide +kernel
theorem dX1_solve_28 : decode cX1_solve 28 = .ok (.aaload, 1) := by decide +kernel
theorem dX1_solve_29 : decode cX1_solve 29 = .ok (.iload_n 2, 1) := by decide +kernel
theorem dX1_solve_30 : decode cX1_solve 30 = .ok (.laload, 1) := by decide +kernel
theorem dX1_solve_31 : decode cX1_solve 31 = .ok (.lastore, 1) := by decide +kernel
theorem dX1_solve_32 : decode cX1_solve 32 = .ok (.iinc 2 1, 3) := by decide +kernel
theorem dX1_solve_35 : decode cX1_solve 35 = .ok (.goto (-25), 3) := by decide +kernel
theorem dX1_solve_38 : decode cX1_solve 38 = .ok (.iinc 1 1, 3) := by decide +kernel
theorem dX1_solve_41 : decode cX1_solve 41 = .ok (.goto (-39), 3) := by decide +kernel
theorem dX1_solve_44 : decode cX1_solve 44 = .ok (.aload_n 0, 1) := by decide +kernel
theorem dX1_solve_45 : decode cX1_solve 45 = .ok (.lconst 1, 1) := by decide +kernel
theorem dX1_solve_46 : decode cX1_solve 46 = .ok (.putfield 11, 3) := by decide +kernel
theorem dX1_solve_49 : decode cX1_solve 49 = .ok (.aload_n 0, 1) := by decide +kernel
theorem dX1_solve_50 : decode cX1_solve 50 = .ok (.iconst 0, 1) := by decide +kernel
theorem dX1_solve_51 : decode cX1_solve 51 = .ok (.putfield 15, 3) := by decide +kernel
theorem dX1_solve_54 : decode cX1_solve 54 = .ok (.iconst 0, 1) := by decide +kernel
theorem dX1_solve_55 : decode cX1_solve 55 = .ok (.istore_n 1, 1) := by decide +kernel
theorem dX1_solve_56 : decode cX1_solve 56 = .ok (.iload_n 1, 1) := by decide +kernel
theorem dX1_solve_57 : decode cX1_solve 57 = .ok (.bipush 7, 2) := by decide +kernel
theorem dX1_solve_59 : decode cX1_solve 59 = .ok (.if_icmp .ge 57, 3) := by decide +kernel
theorem dX1_solve_62 : decode cX1_solve 62 = .ok (.aload_n 0, 1) := by decide +kernel
theorem dX1_solve_63 : decode cX1_solve 63 = .ok (.getfield 27, 3) := by decide +kernel
theorem dX1_solve_66 : decode cX1_solve 66 = .ok (.iload_n 1, 1) := by decide +kernel
theorem dX1_solve_67 : decode cX1_solve 67 = .ok (.aload_n 0, 1) := by decide +kernel
theorem dX1_solve_68 : decode cX1_solve 68 = .ok (.getfield 24, 3) := by decide +kernel
theorem dX1_solve_71 : decode cX1_solve 71 = .ok (.iload_n 1, 1) := by decide +kernel
theorem dX1_solve_72 : decode cX1_solve 72 = .ok (.aaload, 1) := by decide +kernel
theorem dX1_solve_73 : decode cX1_solve 73 = .ok (.iload_n 1, 1) := by decide +kernel
theorem dX1_solve_74 : decode cX1_solve 74 = .ok (.laload, 1) := by decide +kernel
theorem dX1_solve_75 : decode cX1_solve 75 = .ok (.lconst 0, 1) := by decide +kernel
theorem dX1_solve_76 : decode cX1_solve 76 = .ok (.lcmp, 1) := by decide +kernel
theorem dX1_solve_77 : decode cX1_solve 77 = .ok (.ifCond .le 7, 3) := by decide +kernel
theorem dX1_solve_80 : decode cX1_solve 80 = .ok (.iconst 1, 1) := by decide +kernel
theorem dX1_solve_81 : decode cX1_solve 81 = .ok (.goto 4, 3) := by decide +kernel
theorem dX1_solve_84 : decode cX1_solve 84 = .ok (.iconst 0, 1) := by decide +kernel
theorem dX1_solve_85 : decode cX1_solve 85 = .ok (.bastore, 1) := by decide +kernel
theorem dX1_solve_86 : decode cX1_solve 86 = .ok (.aload_n 0, 1) := by decide +kernel
theorem dX1_solve_87 : decode cX1_solve 87 = .ok (.getfield 27, 3) := by decide +kernel
theorem dX1_solve_90 : decode cX1_solve 90 = .ok (.iload_n 1, 1) := by decide +kernel
theorem dX1_solve_91 : decode cX1_solve 91 = .ok (.baload, 1) := by decide +kernel
theorem dX1_solve_92 : decode cX1_solve 92 = .ok (.ifCond .eq 18, 3) := by decide +kernel
theorem dX1_solve_95 : decode cX1_solve 95 = .ok (.aload_n 0, 1) := by decide +kernel
theorem dX1_solve_96 : decode cX1_solve 96 = .ok (.iload_n 1, 1) := by decide +kernel
theorem dX1_solve_97 : decode cX1_solve 97 = .ok (.invokevirtual 38, 3) := by decide +kernel
theorem dX1_solve_100 : decode cX1_solve 100 = .ok (.aload_n 0, 1) := by decide +kernel
theorem dX1_solve_101 : decode cX1_solve 101 = .ok (.dup, 1) := by decide +kernel
theorem dX1_solve_102 : decode cX1_solve 102 = .ok (.getfield 15, 3) := by decide +kernel
theorem dX1_solve_105 : decode cX1_solve 105 = .ok (.iconst 1, 1) := by decide +kernel
theorem dX1_solve_106 : decode cX1_solve 106 = .ok (.iadd, 1) := by decide +kernel
theorem dX1_solve_107 : decode cX1_solve 107 = .ok (.putfield 15, 3) := by decide +kernel
theorem dX1_solve_110 : decode cX1_solve 110 = .ok (.iinc 1 1, 3) := by decide +kernel
theorem dX1_solve_113 : decode cX1_solve 113 = .ok (.goto (-57), 3) := by decide +kernel
theorem dX1_solve_116 : decode cX1_solve 116 = .ok (.return_, 1) := by decide +kernel
theorem dX1_sweep_0 : decode cX1_sweep 0 = .ok (.aload_n 0, 1) := by decide +kernel
theorem dX1_sweep_1 : decode cX1_sweep 1 = .ok (.getfield 11, 3) := by decide +kernel
theorem dX1_sweep_4 : decode cX1_sweep 4 = .ok (.lconst 0, 1) := by decide +kernel
theorem dX1_sweep_5 : decode cX1_sweep 5 = .ok (.lcmp, 1) := by decide +kernel
theorem dX1_sweep_6 : decode cX1_sweep 6 = .ok (.ifCond .gt 4, 3) := by decide +kernel
theorem dX1_sweep_9 : decode cX1_sweep 9 = .ok (.return_, 1) := by decide +kernel
theorem dX1_sweep_10 : decode cX1_sweep 10 = .ok (.aload_n 0, 1) := by decide +kernel
theorem dX1_sweep_11 : decode cX1_sweep 11 = .ok (.getfield 24, 3) := by decide +kernel
theorem dX1_sweep_14 : decode cX1_sweep 14 = .ok (.iload_n 1, 1) := by decide +kernel
theorem dX1_sweep_15 : decode cX1_sweep 15 = .ok (.aaload, 1) := by decide +kernel
theorem dX1_sweep_16 : decode cX1_sweep 16 = .ok (.iload_n 1, 1) := by decide +kernel
theorem dX1_sweep_17 : decode cX1_sweep 17 = .ok (.laload, 1) := by decide +kernel
theorem dX1_sweep_18 : decode cX1_sweep 18 = .ok (.lstore_n 2, 1) := by decide +kernel
theorem dX1_sweep_19 : decode cX1_sweep 19 = .ok (.iconst 0, 1) := by decide +kernel
theorem dX1_sweep_20 : decode cX1_sweep 20 = .ok (.istore 4, 2) := by decide +kernel
theorem dX1_sweep_22 : decode cX1_sweep 22 = .ok (.iload 4, 2) := by decide +kernel
theorem dX1_sweep_24 : decode cX1_sweep 24 = .ok (.bipush 8, 2) := by decide +kernel
theorem dX1_sweep_26 : decode cX1_sweep 26 = .ok (.if_icmp .ge 88, 3) := by decide +kernel
theorem dX1_sweep_29 : decode cX1_sweep 29 = .ok (.iconst 0, 1) := by decide +kernel
theorem dX1_sweep_30 : decode cX1_sweep 30 = .ok (.istore 5, 2) := by decide +kernel
theorem dX1_sweep_32 : decode cX1_sweep 32 = .ok (.iload 5, 2) := by decide +kernel
theorem dX1_sweep_34 : decode cX1_sweep 34 = .ok (.bipush 8, 2) := by decide +kernel
theorem dX1_sweep_36 : decode cX1_sweep 36 = .ok (.if_icmp .ge 72, 3) := by decide +kernel
theorem dX1_sweep_39 : decode cX1_sweep 39 = .ok (.iload 4, 2) := by decide +kernel
theorem dX1_sweep_41 : decode cX1_sweep 41 = .ok (.iload_n 1, 1) := by decide +kernel
theorem dX1_sweep_42 : decode cX1_sweep 42 = .ok (.if_icmp .eq 60, 3) := by decide +kernel
theorem dX1_sweep_45 : decode cX1_sweep 45 = .ok (.iload 5, 2) := by decide +kernel
theorem dX1_sweep_47 : decode cX1_sweep 47 = .ok (.iload_n 1, 1) := by decide +kernel
theorem dX1_sweep_48 : decode cX1_sweep 48 = .ok (.if_icmp .eq 54, 3) := by decide +kernel
theorem dX1_sweep_51 : decode cX1_sweep 51 = .ok (.aload_n 0, 1) := by decide +kernel
theorem dX1_sweep_52 : decode cX1_sweep 52 = .ok (.getfield 24, 3) := by decide +kernel
theorem dX1_sweep_55 : decode cX1_sweep 55 = .ok (.iload 4, 2) := by decide +kernel
theorem dX1_sweep_57 : decode cX1_sweep 57 = .ok (.aaload, 1) := by decide +kernel
theorem dX1_sweep_58 : decode cX1_sweep 58 = .ok (.iload_n 1, 1) := by decide +kernel
theorem dX1_sweep_59 : decode cX1_sweep 59 = .ok (.laload, 1) := by decide +kernel
theorem dX1_sweep_60 : decode cX1_sweep 60 = .ok (.aload_n 0, 1) := by decide +kernel
theorem dX1_sweep_61 : decode cX1_sweep 61 = .ok (.getfield 24, 3) := by decide +kernel
theorem dX1_sweep_64 : decode cX1_sweep 64 = .ok (.iload_n 1, 1) := by decide +kernel
theorem dX1_sweep_65 : decode cX1_sweep 65 = .ok (.aaload, 1) := by decide +kernel
theorem dX1_sweep_66 : decode cX1_sweep 66 = .ok (.iload 5, 2) := by decide +kernel
theorem dX1_sweep_68 : decode cX1_sweep 68 = .ok (.laload, 1) := by decide +kernel
theorem dX1_sweep_69 : decode cX1_sweep 69 = .ok (.lmul, 1) := by decide +kernel
theorem dX1_sweep_70 : decode cX1_sweep 70 = .ok (.lstore 6, 2) := by decide +kernel
theorem dX1_sweep_72 : decode cX1_sweep 72 = .ok (.aload_n 0, 1) := by decide +kernel
theorem dX1_sweep_73 : decode cX1_sweep 73 = .ok (.getfield 24, 3) := by decide +kernel
theorem dX1_sweep_76 : decode cX1_sweep 76 = .ok (.iload 4, 2) := by decide +kernel
theorem dX1_sweep_78 : decode cX1_sweep 78 = .ok (.aaload, 1) := by decide +kernel
theorem dX1_sweep_79 : decode cX1_sweep 79 = .ok (.iload 5, 2) := by decide +kernel
theorem dX1_sweep_81 : decode cX1_sweep 81 = .ok (.lload_n 2, 1) := by decide +kernel
theorem dX1_sweep_82 : decode cX1_sweep 82 = .ok (.aload_n 0, 1) := by decide +kernel
theorem dX1_sweep_83 : decode cX1_sweep 83 = .ok (.getfield 24, 3) := by decide +kernel
theorem dX1_sweep_86 : decode cX1_sweep 86 = .ok (.iload 4, 2) := by decide +kernel
theorem dX1_sweep_88 : decode cX1_sweep 88 = .ok (.aaload, 1) := by decide +kernel
theorem dX1_sweep_89 : decode cX1_sweep 89 = .ok (.iload 5, 2) := by decide +kernel
theorem dX1_sweep_91 : decode cX1_sweep 91 = .ok (.laload, 1) := by decide +kernel
theorem dX1_sweep_92 : decode cX1_sweep 92 = .ok (.lmul, 1) := by decide +kernel
theorem dX1_sweep_93 : decode cX1_sweep 93 = .ok (.lload 6, 2) := by decide +kernel
theorem dX1_sweep_95 : decode cX1_sweep 95 = .ok (.lsub, 1) := by decide +kernel
theorem dX1_sweep_96 : decode cX1_sweep 96 = .ok (.aload_n 0, 1) := by decide +kernel
theorem dX1_sweep_97 : decode cX1_sweep 97 = .ok (.getfield 11, 3) := by decide +kernel
theorem dX1_sweep_100 : decode cX1_sweep 100 = .ok (.ldiv, 1) := by decide +kernel
theorem dX1_sweep_101 : decode cX1_sweep 101 = .ok (.lastore, 1) := by decide +kernel
theorem dX1_sweep_102 : decode cX1_sweep 102 = .ok (.iinc 5 1, 3) := by decide +kernel
theorem dX1_sweep_105 : decode cX1_sweep 105 = .ok (.goto (-73), 3) := by decide +kernel
theorem dX1_sweep_108 : decode cX1_sweep 108 = .ok (.iinc 4 1, 3) := by decide +kernel
theorem dX1_sweep_111 : decode cX1_sweep 111 = .ok (.goto (-89), 3) := by decide +kernel
theorem dX1_sweep_114 : decode cX1_sweep 114 = .ok (.aload_n 0, 1) := by decide +kernel
theorem dX1_sweep_115 : decode cX1_sweep 115 = .ok (.getfield 24, 3) := by decide +kernel
theorem dX1_sweep_118 : decode cX1_sweep 118 = .ok (.iload_n 1, 1) := by decide +kernel
theorem dX1_sweep_119 : decode cX1_sweep 119 = .ok (.aaload, 1) := by decide +kernel
theorem dX1_sweep_120 : decode cX1_sweep 120 = .ok (.iload_n 1, 1) := by decide +kernel
theorem dX1_sweep_121 : decode cX1_sweep 121 = .ok (.aload_n 0, 1) := by decide +kernel
theorem dX1_sweep_122 : decode cX1_sweep 122 = .ok (.getfield 11, 3) := by decide +kernel
theorem dX1_sweep_125 : decode cX1_sweep 125 = .ok (.lneg, 1) := by decide +kernel
theorem dX1_sweep_126 : decode cX1_sweep 126 = .ok (.lastore, 1) := by decide +kernel
theorem dX1_sweep_127 : decode cX1_sweep 127 = .ok (.aload_n 0, 1) := by decide +kernel
theorem dX1_sweep_128 : decode cX1_sweep 128 = .ok (.lload_n 2, 1) := by decide +kernel
theorem dX1_sweep_129 : decode cX1_sweep 129 = .ok (.putfield 11, 3) := by decide +kernel
theorem dX1_sweep_132 : decode cX1_sweep 132 = .ok (.return_, 1) := by decide +kernel
theorem dX1_isKnown_0 : decode cX1_isKnown 0 = .ok (.iconst 0, 1) := by decide +kernel
theorem dX1_isKnown_1 : decode cX1_isKnown 1 = .ok (.istore_n 1, 1) := by decide +kernel
theorem dX1_isKnown_2 : decode cX1_isKnown 2 = .ok (.iload_n 1, 1) := by decide +kernel
theorem dX1_isKnown_3 : decode cX1_isKnown 3 = .ok (.bipush 7, 2) := by decide +kernel
theorem dX1_isKnown_5 : decode cX1_isKnown 5 = .ok (.if_icmp .ge 41, 3) := by decide +kernel
theorem dX1_isKnown_8 : decode cX1_isKnown 8 = .ok (.aload_n 0, 1) := by decide +kernel
theorem dX1_isKnown_9 : decode cX1_isKnown 9 = .ok (.getfield 27, 3) := by decide +kernel
theorem dX1_isKnown_12 : decode cX1_isKnown 12 = .ok (.iload_n 1, 1) := by decide +kernel
theorem dX1_isKnown_13 : decode cX1_isKnown 13 = .ok (.baload, 1) := by decide +kernel
theorem dX1_isKnown_14 : decode cX1_isKnown 14 = .ok (.ifCond .ne 26, 3) := by decide +kernel
theorem dX1_isKnown_17 : decode cX1_isKnown 17 = .ok (.aload_n 0, 1) := by decide +kernel
theorem dX1_isKnown_18 : decode cX1_isKnown 18 = .ok (.iload_n 1, 1) := by decide +kernel
theorem dX1_isKnown_19 : decode cX1_isKnown 19 = .ok (.invokevirtual 42, 3) := by decide +kernel
theorem dX1_isKnown_22 : decode cX1_isKnown 22 = .ok (.aload_n 0, 1) := by decide +kernel
theorem dX1_isKnown_23 : decode cX1_isKnown 23 = .ok (.getfield 11, 3) := by decide +kernel
theorem dX1_isKnown_26 : decode cX1_isKnown 26 = .ok (.aload_n 0, 1) := by decide +kernel
theorem dX1_isKnown_27 : decode cX1_isKnown 27 = .ok (.getfield 31, 3) := by decide +kernel
theorem dX1_isKnown_30 : decode cX1_isKnown 30 = .ok (.iload_n 1, 1) := by decide +kernel
theorem dX1_isKnown_31 : decode cX1_isKnown 31 = .ok (.iaload, 1) := by decide +kernel
theorem dX1_isKnown_32 : decode cX1_isKnown 32 = .ok (.i2l, 1) := by decide +kernel
theorem dX1_isKnown_33 : decode cX1_isKnown 33 = .ok (.lmul, 1) := by decide +kernel
theorem dX1_isKnown_34 : decode cX1_isKnown 34 = .ok (.lcmp, 1) := by decide +kernel
theorem dX1_isKnown_35 : decode cX1_isKnown 35 = .ok (.ifCond .eq 5, 3) := by decide +kernel
theorem dX1_isKnown_38 : decode cX1_isKnown 38 = .ok (.iconst 0, 1) := by decide +kernel
theorem dX1_isKnown_39 : decode cX1_isKnown 39 = .ok (.ireturn, 1) := by decide +kernel
theorem dX1_isKnown_40 : decode cX1_isKnown 40 = .ok (.iinc 1 1, 3) := by decide +kernel
theorem dX1_isKnown_43 : decode cX1_isKnown 43 = .ok (.goto (-41), 3) := by decide +kernel
theorem dX1_isKnown_46 : decode cX1_isKnown 46 = .ok (.iconst 1, 1) := by decide +kernel
theorem dX1_isKnown_47 : decode cX1_isKnown 47 = .ok (.ireturn, 1) := by decide +kernel
theorem dX1_scaledValue_0 : decode cX1_scaledValue 0 = .ok (.aload_n 0, 1) := by decide +kernel
theorem dX1_scaledValue_1 : decode cX1_scaledValue 1 = .ok (.bipush 7, 2) := by decide +kernel
theorem dX1_scaledValue_3 : decode cX1_scaledValue 3 = .ok (.invokevirtual 42, 3) := by decide +kernel
theorem dX1_scaledValue_6 : decode cX1_scaledValue 6 = .ok (.lreturn, 1) := by decide +kernel
theorem dX1_scaledDoubt_0 : decode cX1_scaledDoubt 0 = .ok (.lconst 0, 1) := by decide +kernel
theorem dX1_scaledDoubt_1 : decode cX1_scaledDoubt 1 = .ok (.lstore_n 1, 1) := by decide +kernel
theorem dX1_scaledDoubt_2 : decode cX1_scaledDoubt 2 = .ok (.iconst 0, 1) := by decide +kernel
theorem dX1_scaledDoubt_3 : decode cX1_scaledDoubt 3 = .ok (.istore_n 3, 1) := by decide +kernel
theorem dX1_scaledDoubt_4 : decode cX1_scaledDoubt 4 = .ok (.iload_n 3, 1) := by decide +kernel
theorem dX1_scaledDoubt_5 : decode cX1_scaledDoubt 5 = .ok (.bipush 7, 2) := by decide +kernel
theorem dX1_scaledDoubt_7 : decode cX1_scaledDoubt 7 = .ok (.if_icmp .ge 43, 3) := by decide +kernel
theorem dX1_scaledDoubt_10 : decode cX1_scaledDoubt 10 = .ok (.aload_n 0, 1) := by decide +kernel
theorem dX1_scaledDoubt_11 : decode cX1_scaledDoubt 11 = .ok (.getfield 27, 3) := by decide +kernel
theorem dX1_scaledDoubt_14 : decode cX1_scaledDoubt 14 = .ok (.iload_n 3, 1) := by decide +kernel
theorem dX1_scaledDoubt_15 : decode cX1_scaledDoubt 15 = .ok (.baload, 1) := by decide +kernel
theorem dX1_scaledDoubt_16 : decode cX1_scaledDoubt 16 = .ok (.ifCond .eq 28, 3) := by decide +kernel
theorem dX1_scaledDoubt_19 : decode cX1_scaledDoubt 19 = .ok (.aload_n 0, 1) := by decide +kernel
theorem dX1_scaledDoubt_20 : decode cX1_scaledDoubt 20 = .ok (.getfield 31, 3) := by decide +kernel
theorem dX1_scaledDoubt_23 : decode cX1_scaledDoubt 23 = .ok (.iload_n 3, 1) := by decide +kernel
theorem dX1_scaledDoubt_24 : decode cX1_scaledDoubt 24 = .ok (.iaload, 1) := by decide +kernel
theorem dX1_scaledDoubt_25 : decode cX1_scaledDoubt 25 = .ok (.ifCond .eq 19, 3) := by decide +kernel
theorem dX1_scaledDoubt_28 : decode cX1_scaledDoubt 28 = .ok (.lload_n 1, 1) := by decide +kernel
theorem dX1_scaledDoubt_29 : decode cX1_scaledDoubt 29 = .ok (.aload_n 0, 1) := by decide +kernel
theorem dX1_scaledDoubt_30 : decode cX1_scaledDoubt 30 = .ok (.getfield 31, 3) := by decide +kernel
theorem dX1_scaledDoubt_33 : decode cX1_scaledDoubt 33 = .ok (.iload_n 3, 1) := by decide +kernel
theorem dX1_scaledDoubt_34 : decode cX1_scaledDoubt 34 = .ok (.iaload, 1) := by decide +kernel
theorem dX1_scaledDoubt_35 : decode cX1_scaledDoubt 35 = .ok (.i2l, 1) := by decide +kernel
theorem dX1_scaledDoubt_36 : decode cX1_scaledDoubt 36 = .ok (.aload_n 0, 1) := by decide +kernel
theorem dX1_scaledDoubt_37 : decode cX1_scaledDoubt 37 = .ok (.iload_n 3, 1) := by decide +kernel
theorem dX1_scaledDoubt_38 : decode cX1_scaledDoubt 38 = .ok (.invokevirtual 42, 3) := by decide +kernel
theorem dX1_scaledDoubt_41 : decode cX1_scaledDoubt 41 = .ok (.lmul, 1) := by decide +kernel
theorem dX1_scaledDoubt_42 : decode cX1_scaledDoubt 42 = .ok (.lsub, 1) := by decide +kernel
theorem dX1_scaledDoubt_43 : decode cX1_scaledDoubt 43 = .ok (.lstore_n 1, 1) := by decide +kernel
theorem dX1_scaledDoubt_44 : decode cX1_scaledDoubt 44 = .ok (.iinc 3 1, 3) := by decide +kernel
theorem dX1_scaledDoubt_47 : decode cX1_scaledDoubt 47 = .ok (.goto (-43), 3) := by decide +kernel
theorem dX1_scaledDoubt_50 : decode cX1_scaledDoubt 50 = .ok (.lload_n 1, 1) := by decide +kernel
theorem dX1_scaledDoubt_51 : decode cX1_scaledDoubt 51 = .ok (.lreturn, 1) := by decide +kernel
theorem dX1_scaledSum_0 : decode cX1_scaledSum 0 = .ok (.aload_n 0, 1) := by decide +kernel
theorem dX1_scaledSum_1 : decode cX1_scaledSum 1 = .ok (.getfield 24, 3) := by decide +kernel
theorem dX1_scaledSum_4 : decode cX1_scaledSum 4 = .ok (.bipush 7, 2) := by decide +kernel
theorem dX1_scaledSum_6 : decode cX1_scaledSum 6 = .ok (.aaload, 1) := by decide +kernel
theorem dX1_scaledSum_7 : decode cX1_scaledSum 7 = .ok (.bipush 7, 2) := by decide +kernel
theorem dX1_scaledSum_9 : decode cX1_scaledSum 9 = .ok (.laload, 1) := by decide +kernel
theorem dX1_scaledSum_10 : decode cX1_scaledSum 10 = .ok (.lreturn, 1) := by decide +kernel
theorem dX1_sweptTimes_0 : decode cX1_sweptTimes 0 = .ok (.lconst 0, 1) := by decide +kernel
theorem dX1_sweptTimes_1 : decode cX1_sweptTimes 1 = .ok (.lstore_n 2, 1) := by decide +kernel
theorem dX1_sweptTimes_2 : decode cX1_sweptTimes 2 = .ok (.iconst 0, 1) := by decide +kernel
theorem dX1_sweptTimes_3 : decode cX1_sweptTimes 3 = .ok (.istore 4, 2) := by decide +kernel
theorem dX1_sweptTimes_5 : decode cX1_sweptTimes 5 = .ok (.iload 4, 2) := by decide +kernel
theorem dX1_sweptTimes_7 : decode cX1_sweptTimes 7 = .ok (.bipush 7, 2) := by decide +kernel
theorem dX1_sweptTimes_9 : decode cX1_sweptTimes 9 = .ok (.if_icmp .ge 40, 3) := by decide +kernel
theorem dX1_sweptTimes_12 : decode cX1_sweptTimes 12 = .ok (.aload_n 0, 1) := by decide +kernel
theorem dX1_sweptTimes_13 : decode cX1_sweptTimes 13 = .ok (.getfield 27, 3) := by decide +kernel
theorem dX1_sweptTimes_16 : decode cX1_sweptTimes 16 = .ok (.iload 4, 2) := by decide +kernel
theorem dX1_sweptTimes_18 : decode cX1_sweptTimes 18 = .ok (.baload, 1) := by decide +kernel
theorem dX1_sweptTimes_19 : decode cX1_sweptTimes 19 = .ok (.ifCond .eq 24, 3) := by decide +kernel
theorem dX1_sweptTimes_22 : decode cX1_sweptTimes 22 = .ok (.lload_n 2, 1) := by decide +kernel
theorem dX1_sweptTimes_23 : decode cX1_sweptTimes 23 = .ok (.aload_n 0, 1) := by decide +kernel
theorem dX1_sweptTimes_24 : decode cX1_sweptTimes 24 = .ok (.getfield 31, 3) := by decide +kernel
theorem dX1_sweptTimes_27 : decode cX1_sweptTimes 27 = .ok (.iload 4, 2) := by decide +kernel
theorem dX1_sweptTimes_29 : decode cX1_sweptTimes 29 = .ok (.iaload, 1) := by decide +kernel
theorem dX1_sweptTimes_30 : decode cX1_sweptTimes 30 = .ok (.i2l, 1) := by decide +kernel
theorem dX1_sweptTimes_31 : decode cX1_sweptTimes 31 = .ok (.aload_n 0, 1) := by decide +kernel
theorem dX1_sweptTimes_32 : decode cX1_sweptTimes 32 = .ok (.getfield 24, 3) := by decide +kernel
theorem dX1_sweptTimes_35 : decode cX1_sweptTimes 35 = .ok (.iload 4, 2) := by decide +kernel
theorem dX1_sweptTimes_37 : decode cX1_sweptTimes 37 = .ok (.aaload, 1) := by decide +kernel
theorem dX1_sweptTimes_38 : decode cX1_sweptTimes 38 = .ok (.iload_n 1, 1) := by decide +kernel
theorem dX1_sweptTimes_39 : decode cX1_sweptTimes 39 = .ok (.laload, 1) := by decide +kernel
theorem dX1_sweptTimes_40 : decode cX1_sweptTimes 40 = .ok (.lmul, 1) := by decide +kernel
theorem dX1_sweptTimes_41 : decode cX1_sweptTimes 41 = .ok (.ladd, 1) := by decide +kernel
theorem dX1_sweptTimes_42 : decode cX1_sweptTimes 42 = .ok (.lstore_n 2, 1) := by decide +kernel
theorem dX1_sweptTimes_43 : decode cX1_sweptTimes 43 = .ok (.iinc 4 1, 3) := by decide +kernel
theorem dX1_sweptTimes_46 : decode cX1_sweptTimes 46 = .ok (.goto (-41), 3) := by decide +kernel
theorem dX1_sweptTimes_49 : decode cX1_sweptTimes 49 = .ok (.lload_n 2, 1) := by decide +kernel
theorem dX1_sweptTimes_50 : decode cX1_sweptTimes 50 = .ok (.lreturn, 1) := by decide +kernel
theorem dX1_couplesKnown_0 : decode cX1_couplesKnown 0 = .ok (.iconst 0, 1) := by decide +kernel
theorem dX1_couplesKnown_1 : decode cX1_couplesKnown 1 = .ok (.istore_n 2, 1) := by decide +kernel
theorem dX1_couplesKnown_2 : decode cX1_couplesKnown 2 = .ok (.iconst 0, 1) := by decide +kernel
theorem dX1_couplesKnown_3 : decode cX1_couplesKnown 3 = .ok (.istore_n 3, 1) := by decide +kernel
theorem dX1_couplesKnown_4 : decode cX1_couplesKnown 4 = .ok (.iload_n 3, 1) := by decide +kernel
theorem dX1_couplesKnown_5 : decode cX1_couplesKnown 5 = .ok (.iload_n 1, 1) := by decide +kernel
theorem dX1_couplesKnown_6 : decode cX1_couplesKnown 6 = .ok (.if_icmp .ge 49, 3) := by decide +kernel
theorem dX1_couplesKnown_9 : decode cX1_couplesKnown 9 = .ok (.iload_n 3, 1) := by decide +kernel
theorem dX1_couplesKnown_10 : decode cX1_couplesKnown 10 = .ok (.iconst 1, 1) := by decide +kernel
theorem dX1_couplesKnown_11 : decode cX1_couplesKnown 11 = .ok (.iadd, 1) := by decide +kernel
theorem dX1_couplesKnown_12 : decode cX1_couplesKnown 12 = .ok (.istore 4, 2) := by decide +kernel
theorem dX1_couplesKnown_14 : decode cX1_couplesKnown 14 = .ok (.iload 4, 2) := by decide +kernel
theorem dX1_couplesKnown_16 : decode cX1_couplesKnown 16 = .ok (.iload_n 1, 1) := by decide +kernel
theorem dX1_couplesKnown_17 : decode cX1_couplesKnown 17 = .ok (.if_icmp .ge 32, 3) := by decide +kernel
theorem dX1_couplesKnown_20 : decode cX1_couplesKnown 20 = .ok (.aload_n 0, 1) := by decide +kernel
theorem dX1_couplesKnown_21 : decode cX1_couplesKnown 21 = .ok (.iconst 1, 1) := by decide +kernel
theorem dX1_couplesKnown_22 : decode cX1_couplesKnown 22 = .ok (.iload_n 3, 1) := by decide +kernel
theorem dX1_couplesKnown_23 : decode cX1_couplesKnown 23 = .ok (.ishl, 1) := by decide +kernel
theorem dX1_couplesKnown_24 : decode cX1_couplesKnown 24 = .ok (.iconst 1, 1) := by decide +kernel
theorem dX1_couplesKnown_25 : decode cX1_couplesKnown 25 = .ok (.iload 4, 2) := by decide +kernel
theorem dX1_couplesKnown_27 : decode cX1_couplesKnown 27 = .ok (.ishl, 1) := by decide +kernel
theorem dX1_couplesKnown_28 : decode cX1_couplesKnown 28 = .ok (.iconst 0, 1) := by decide +kernel
theorem dX1_couplesKnown_29 : decode cX1_couplesKnown 29 = .ok (.iconst 0, 1) := by decide +kernel
theorem dX1_couplesKnown_30 : decode cX1_couplesKnown 30 = .ok (.invokevirtual 46, 3) := by decide +kernel
theorem dX1_couplesKnown_33 : decode cX1_couplesKnown 33 = .ok (.aload_n 0, 1) := by decide +kernel
theorem dX1_couplesKnown_34 : decode cX1_couplesKnown 34 = .ok (.invokevirtual 50, 3) := by decide +kernel
theorem dX1_couplesKnown_37 : decode cX1_couplesKnown 37 = .ok (.ifCond .eq 6, 3) := by decide +kernel
theorem dX1_couplesKnown_40 : decode cX1_couplesKnown 40 = .ok (.iinc 2 1, 3) := by decide +kernel
theorem dX1_couplesKnown_43 : decode cX1_couplesKnown 43 = .ok (.iinc 4 1, 3) := by decide +kernel
theorem dX1_couplesKnown_46 : decode cX1_couplesKnown 46 = .ok (.goto (-32), 3) := by decide +kernel
theorem dX1_couplesKnown_49 : decode cX1_couplesKnown 49 = .ok (.iinc 3 1, 3) := by decide +kernel
theorem dX1_couplesKnown_52 : decode cX1_couplesKnown 52 = .ok (.goto (-48), 3) := by decide +kernel
theorem dX1_couplesKnown_55 : decode cX1_couplesKnown 55 = .ok (.iload_n 2, 1) := by decide +kernel
theorem dX1_couplesKnown_56 : decode cX1_couplesKnown 56 = .ok (.ireturn, 1) := by decide +kernel
theorem dX1_scaledDoubts_0 : decode cX1_scaledDoubts 0 = .ok (.lconst 0, 1) := by decide +kernel
theorem dX1_scaledDoubts_1 : decode cX1_scaledDoubts 1 = .ok (.lstore_n 2, 1) := by decide +kernel
theorem dX1_scaledDoubts_2 : decode cX1_scaledDoubts 2 = .ok (.iconst 0, 1) := by decide +kernel
theorem dX1_scaledDoubts_3 : decode cX1_scaledDoubts 3 = .ok (.istore 4, 2) := by decide +kernel
theorem dX1_scaledDoubts_5 : decode cX1_scaledDoubts 5 = .ok (.iload 4, 2) := by decide +kernel
theorem dX1_scaledDoubts_7 : decode cX1_scaledDoubts 7 = .ok (.iload_n 1, 1) := by decide +kernel
theorem dX1_scaledDoubts_8 : decode cX1_scaledDoubts 8 = .ok (.if_icmp .ge 55, 3) := by decide +kernel
theorem dX1_scaledDoubts_11 : decode cX1_scaledDoubts 11 = .ok (.iload 4, 2) := by decide +kernel
theorem dX1_scaledDoubts_13 : decode cX1_scaledDoubts 13 = .ok (.iconst 1, 1) := by decide +kernel
theorem dX1_scaledDoubts_14 : decode cX1_scaledDoubts 14 = .ok (.iadd, 1) := by decide +kernel
theorem dX1_scaledDoubts_15 : decode cX1_scaledDoubts 15 = .ok (.istore 5, 2) := by decide +kernel
theorem dX1_scaledDoubts_17 : decode cX1_scaledDoubts 17 = .ok (.iload 5, 2) := by decide +kernel
theorem dX1_scaledDoubts_19 : decode cX1_scaledDoubts 19 = .ok (.iload_n 1, 1) := by decide +kernel
theorem dX1_scaledDoubts_20 : decode cX1_scaledDoubts 20 = .ok (.if_icmp .ge 37, 3) := by decide +kernel
theorem dX1_scaledDoubts_23 : decode cX1_scaledDoubts 23 = .ok (.aload_n 0, 1) := by decide +kernel
theorem dX1_scaledDoubts_24 : decode cX1_scaledDoubts 24 = .ok (.iconst 1, 1) := by decide +kernel
theorem dX1_scaledDoubts_25 : decode cX1_scaledDoubts 25 = .ok (.iload 4, 2) := by decide +kernel
theorem dX1_scaledDoubts_27 : decode cX1_scaledDoubts 27 = .ok (.ishl, 1) := by decide +kernel
theorem dX1_scaledDoubts_28 : decode cX1_scaledDoubts 28 = .ok (.iconst 1, 1) := by decide +kernel
theorem dX1_scaledDoubts_29 : decode cX1_scaledDoubts 29 = .ok (.iload 5, 2) := by decide +kernel
theorem dX1_scaledDoubts_31 : decode cX1_scaledDoubts 31 = .ok (.ishl, 1) := by decide +kernel
theorem dX1_scaledDoubts_32 : decode cX1_scaledDoubts 32 = .ok (.iconst 0, 1) := by decide +kernel
theorem dX1_scaledDoubts_33 : decode cX1_scaledDoubts 33 = .ok (.iconst 0, 1) := by decide +kernel
theorem dX1_scaledDoubts_34 : decode cX1_scaledDoubts 34 = .ok (.invokevirtual 46, 3) := by decide +kernel
theorem dX1_scaledDoubts_37 : decode cX1_scaledDoubts 37 = .ok (.aload_n 0, 1) := by decide +kernel
theorem dX1_scaledDoubts_38 : decode cX1_scaledDoubts 38 = .ok (.invokevirtual 50, 3) := by decide +kernel
theorem dX1_scaledDoubts_41 : decode cX1_scaledDoubts 41 = .ok (.ifCond .eq 10, 3) := by decide +kernel
theorem dX1_scaledDoubts_44 : decode cX1_scaledDoubts 44 = .ok (.lload_n 2, 1) := by decide +kernel
theorem dX1_scaledDoubts_45 : decode cX1_scaledDoubts 45 = .ok (.aload_n 0, 1) := by decide +kernel
theorem dX1_scaledDoubts_46 : decode cX1_scaledDoubts 46 = .ok (.invokevirtual 54, 3) := by decide +kernel
theorem dX1_scaledDoubts_49 : decode cX1_scaledDoubts 49 = .ok (.ladd, 1) := by decide +kernel
theorem dX1_scaledDoubts_50 : decode cX1_scaledDoubts 50 = .ok (.lstore_n 2, 1) := by decide +kernel
theorem dX1_scaledDoubts_51 : decode cX1_scaledDoubts 51 = .ok (.iinc 5 1, 3) := by decide +kernel
theorem dX1_scaledDoubts_54 : decode cX1_scaledDoubts 54 = .ok (.goto (-37), 3) := by decide +kernel
theorem dX1_scaledDoubts_57 : decode cX1_scaledDoubts 57 = .ok (.iinc 4 1, 3) := by decide +kernel
theorem dX1_scaledDoubts_60 : decode cX1_scaledDoubts 60 = .ok (.goto (-55), 3) := by decide +kernel
theorem dX1_scaledDoubts_63 : decode cX1_scaledDoubts 63 = .ok (.lload_n 2, 1) := by decide +kernel
theorem dX1_scaledDoubts_64 : decode cX1_scaledDoubts 64 = .ok (.lreturn, 1) := by decide +kernel
end
section
theorem dX2_init_0 : decode cX2_init 0 = .ok (.aload_n 0, 1) := by decide +kernel
theorem dX2_init_1 : decode cX2_init 1 = .ok (.invokespecial 1, 3) := by decide +kernel
theorem dX2_init_4 : decode cX2_init 4 = .ok (.aload_n 0, 1) := by decide +kernel
theorem dX2_init_5 : decode cX2_init 5 = .ok (.lconst 0, 1) := by decide +kernel
theorem dX2_init_6 : decode cX2_init 6 = .ok (.putfield 7, 3) := by decide +kernel
theorem dX2_init_9 : decode cX2_init 9 = .ok (.aload_n 0, 1) := by decide +kernel
theorem dX2_init_10 : decode cX2_init 10 = .ok (.lconst 1, 1) := by decide +kernel
theorem dX2_init_11 : decode cX2_init 11 = .ok (.putfield 13, 3) := by decide +kernel
theorem dX2_init_14 : decode cX2_init 14 = .ok (.return_, 1) := by decide +kernel
theorem dX2_set_0 : decode cX2_set 0 = .ok (.lload_n 1, 1) := by decide +kernel
theorem dX2_set_1 : decode cX2_set 1 = .ok (.invokestatic 16, 3) := by decide +kernel
theorem dX2_set_4 : decode cX2_set 4 = .ok (.lload_n 3, 1) := by decide +kernel
theorem dX2_set_5 : decode cX2_set 5 = .ok (.invokestatic 22, 3) := by decide +kernel
theorem dX2_set_8 : decode cX2_set 8 = .ok (.lstore 5, 2) := by decide +kernel
theorem dX2_set_10 : decode cX2_set 10 = .ok (.lload_n 3, 1) := by decide +kernel
theorem dX2_set_11 : decode cX2_set 11 = .ok (.lconst 0, 1) := by decide +kernel
theorem dX2_set_12 : decode cX2_set 12 = .ok (.lcmp, 1) := by decide +kernel
theorem dX2_set_13 : decode cX2_set 13 = .ok (.ifCond .le 10, 3) := by decide +kernel
theorem dX2_set_16 : decode cX2_set 16 = .ok (.lload 5, 2) := by decide +kernel
theorem dX2_set_18 : decode cX2_set 18 = .ok (.lconst 0, 1) := by decide +kernel
theorem dX2_set_19 : decode cX2_set 19 = .ok (.lcmp, 1) := by decide +kernel
theorem dX2_set_20 : decode cX2_set 20 = .ok (.ifCond .gt 14, 3) := by decide +kernel
theorem dX2_set_23 : decode cX2_set 23 = .ok (.aload_n 0, 1) := by decide +kernel
theorem dX2_set_24 : decode cX2_set 24 = .ok (.lconst 0, 1) := by decide +kernel
theorem dX2_set_25 : decode cX2_set 25 = .ok (.putfield 7, 3) := by decide +kernel
theorem dX2_set_28 : decode cX2_set 28 = .ok (.aload_n 0, 1) := by decide +kernel
theorem dX2_set_29 : decode cX2_set 29 = .ok (.lconst 1, 1) := by decide +kernel
theorem dX2_set_30 : decode cX2_set 30 = .ok (.putfield 13, 3) := by decide +kernel
theorem dX2_set_33 : decode cX2_set 33 = .ok (.return_, 1) := by decide +kernel
theorem dX2_set_34 : decode cX2_set 34 = .ok (.aload_n 0, 1) := by decide +kernel
theorem dX2_set_35 : decode cX2_set 35 = .ok (.lload_n 1, 1) := by decide +kernel
theorem dX2_set_36 : decode cX2_set 36 = .ok (.lload 5, 2) := by decide +kernel
theorem dX2_set_38 : decode cX2_set 38 = .ok (.ldiv, 1) := by decide +kernel
theorem dX2_set_39 : decode cX2_set 39 = .ok (.putfield 7, 3) := by decide +kernel
theorem dX2_set_42 : decode cX2_set 42 = .ok (.aload_n 0, 1) := by decide +kernel
theorem dX2_set_43 : decode cX2_set 43 = .ok (.lload_n 3, 1) := by decide +kernel
theorem dX2_set_44 : decode cX2_set 44 = .ok (.lload 5, 2) := by decide +kernel
theorem dX2_set_46 : decode cX2_set 46 = .ok (.ldiv, 1) := by decide +kernel
theorem dX2_set_47 : decode cX2_set 47 = .ok (.putfield 13, 3) := by decide +kernel
theorem dX2_set_50 : decode cX2_set 50 = .ok (.return_, 1) := by decide +kernel
theorem dX2_copyFrom_0 : decode cX2_copyFrom 0 = .ok (.aload_n 0, 1) := by decide +kernel
theorem dX2_copyFrom_1 : decode cX2_copyFrom 1 = .ok (.aload_n 1, 1) := by decide +kernel
theorem dX2_copyFrom_2 : decode cX2_copyFrom 2 = .ok (.getfield 7, 3) := by decide +kernel
theorem dX2_copyFrom_5 : decode cX2_copyFrom 5 = .ok (.putfield 7, 3) := by decide +kernel
theorem dX2_copyFrom_8 : decode cX2_copyFrom 8 = .ok (.aload_n 0, 1) := by decide +kernel
theorem dX2_copyFrom_9 : decode cX2_copyFrom 9 = .ok (.aload_n 1, 1) := by decide +kernel
theorem dX2_copyFrom_10 : decode cX2_copyFrom 10 = .ok (.getfield 13, 3) := by decide +kernel
theorem dX2_copyFrom_13 : decode cX2_copyFrom 13 = .ok (.putfield 13, 3) := by decide +kernel
theorem dX2_copyFrom_16 : decode cX2_copyFrom 16 = .ok (.return_, 1) := by decide +kernel
theorem dX2_isBelow_0 : decode cX2_isBelow 0 = .ok (.aload_n 0, 1) := by decide +kernel
theorem dX2_isBelow_1 : decode cX2_isBelow 1 = .ok (.getfield 13, 3) := by decide +kernel
theorem dX2_isBelow_4 : decode cX2_isBelow 4 = .ok (.lconst 0, 1) := by decide +kernel
theorem dX2_isBelow_5 : decode cX2_isBelow 5 = .ok (.lcmp, 1) := by decide +kernel
theorem dX2_isBelow_6 : decode cX2_isBelow 6 = .ok (.ifCond .le 12, 3) := by decide +kernel
theorem dX2_isBelow_9 : decode cX2_isBelow 9 = .ok (.aload_n 1, 1) := by decide +kernel
theorem dX2_isBelow_10 : decode cX2_isBelow 10 = .ok (.getfield 13, 3) := by decide +kernel
theorem dX2_isBelow_13 : decode cX2_isBelow 13 = .ok (.lconst 0, 1) := by decide +kernel
theorem dX2_isBelow_14 : decode cX2_isBelow 14 = .ok (.lcmp, 1) := by decide +kernel
theorem dX2_isBelow_15 : decode cX2_isBelow 15 = .ok (.ifCond .gt 5, 3) := by decide +kernel
theorem dX2_isBelow_18 : decode cX2_isBelow 18 = .ok (.iconst 0, 1) := by decide +kernel
theorem dX2_isBelow_19 : decode cX2_isBelow 19 = .ok (.ireturn, 1) := by decide +kernel
theorem dX2_isBelow_20 : decode cX2_isBelow 20 = .ok (.aload_n 0, 1) := by decide +kernel
theorem dX2_isBelow_21 : decode cX2_isBelow 21 = .ok (.getfield 7, 3) := by decide +kernel
theorem dX2_isBelow_24 : decode cX2_isBelow 24 = .ok (.aload_n 0, 1) := by decide +kernel
theorem dX2_isBelow_25 : decode cX2_isBelow 25 = .ok (.getfield 13, 3) := by decide +kernel
theorem dX2_isBelow_28 : decode cX2_isBelow 28 = .ok (.ldiv, 1) := by decide +kernel
theorem dX2_isBelow_29 : decode cX2_isBelow 29 = .ok (.lstore_n 2, 1) := by decide +kernel
theorem dX2_isBelow_30 : decode cX2_isBelow 30 = .ok (.aload_n 1, 1) := by decide +kernel
theorem dX2_isBelow_31 : decode cX2_isBelow 31 = .ok (.getfield 7, 3) := by decide +kernel
theorem dX2_isBelow_34 : decode cX2_isBelow 34 = .ok (.aload_n 1, 1) := by decide +kernel
theorem dX2_isBelow_35 : decode cX2_isBelow 35 = .ok (.getfield 13, 3) := by decide +kernel
theorem dX2_isBelow_38 : decode cX2_isBelow 38 = .ok (.ldiv, 1) := by decide +kernel
theorem dX2_isBelow_39 : decode cX2_isBelow 39 = .ok (.lstore 4, 2) := by decide +kernel
theorem dX2_isBelow_41 : decode cX2_isBelow 41 = .ok (.lload_n 2, 1) := by decide +kernel
theorem dX2_isBelow_42 : decode cX2_isBelow 42 = .ok (.lload 4, 2) := by decide +kernel
theorem dX2_isBelow_44 : decode cX2_isBelow 44 = .ok (.lcmp, 1) := by decide +kernel
theorem dX2_isBelow_45 : decode cX2_isBelow 45 = .ok (.ifCond .eq 16, 3) := by decide +kernel
theorem dX2_isBelow_48 : decode cX2_isBelow 48 = .ok (.lload_n 2, 1) := by decide +kernel
theorem dX2_isBelow_49 : decode cX2_isBelow 49 = .ok (.lload 4, 2) := by decide +kernel
theorem dX2_isBelow_51 : decode cX2_isBelow 51 = .ok (.lcmp, 1) := by decide +kernel
theorem dX2_isBelow_52 : decode cX2_isBelow 52 = .ok (.ifCond .ge 7, 3) := by decide +kernel
theorem dX2_isBelow_55 : decode cX2_isBelow 55 = .ok (.iconst 1, 1) := by decide +kernel
theorem dX2_isBelow_56 : decode cX2_isBelow 56 = .ok (.goto 4, 3) := by decide +kernel
theorem dX2_isBelow_59 : decode cX2_isBelow 59 = .ok (.iconst 0, 1) := by decide +kernel
theorem dX2_isBelow_60 : decode cX2_isBelow 60 = .ok (.ireturn, 1) := by decide +kernel
theorem dX2_isBelow_61 : decode cX2_isBelow 61 = .ok (.aload_n 0, 1) := by decide +kernel
theorem dX2_isBelow_62 : decode cX2_isBelow 62 = .ok (.getfield 7, 3) := by decide +kernel
theorem dX2_isBelow_65 : decode cX2_isBelow 65 = .ok (.lload_n 2, 1) := by decide +kernel
theorem dX2_isBelow_66 : decode cX2_isBelow 66 = .ok (.aload_n 0, 1) := by decide +kernel
theorem dX2_isBelow_67 : decode cX2_isBelow 67 = .ok (.getfield 13, 3) := by decide +kernel
theorem dX2_isBelow_70 : decode cX2_isBelow 70 = .ok (.lmul, 1) := by decide +kernel
theorem dX2_isBelow_71 : decode cX2_isBelow 71 = .ok (.lsub, 1) := by decide +kernel
theorem dX2_isBelow_72 : decode cX2_isBelow 72 = .ok (.lstore 6, 2) := by decide +kernel
theorem dX2_isBelow_74 : decode cX2_isBelow 74 = .ok (.aload_n 1, 1) := by decide +kernel
theorem dX2_isBelow_75 : decode cX2_isBelow 75 = .ok (.getfield 7, 3) := by decide +kernel
theorem dX2_isBelow_78 : decode cX2_isBelow 78 = .ok (.lload 4, 2) := by decide +kernel
theorem dX2_isBelow_80 : decode cX2_isBelow 80 = .ok (.aload_n 1, 1) := by decide +kernel
theorem dX2_isBelow_81 : decode cX2_isBelow 81 = .ok (.getfield 13, 3) := by decide +kernel
theorem dX2_isBelow_84 : decode cX2_isBelow 84 = .ok (.lmul, 1) := by decide +kernel
theorem dX2_isBelow_85 : decode cX2_isBelow 85 = .ok (.lsub, 1) := by decide +kernel
theorem dX2_isBelow_86 : decode cX2_isBelow 86 = .ok (.lstore 8, 2) := by decide +kernel
theorem dX2_isBelow_88 : decode cX2_isBelow 88 = .ok (.lload 6, 2) := by decide +kernel
theorem dX2_isBelow_90 : decode cX2_isBelow 90 = .ok (.aload_n 1, 1) := by decide +kernel
theorem dX2_isBelow_91 : decode cX2_isBelow 91 = .ok (.getfield 13, 3) := by decide +kernel
theorem dX2_isBelow_94 : decode cX2_isBelow 94 = .ok (.lmul, 1) := by decide +kernel
theorem dX2_isBelow_95 : decode cX2_isBelow 95 = .ok (.lload 8, 2) := by decide +kernel
theorem dX2_isBelow_97 : decode cX2_isBelow 97 = .ok (.aload_n 0, 1) := by decide +kernel
theorem dX2_isBelow_98 : decode cX2_isBelow 98 = .ok (.getfield 13, 3) := by decide +kernel
theorem dX2_isBelow_101 : decode cX2_isBelow 101 = .ok (.lmul, 1) := by decide +kernel
theorem dX2_isBelow_102 : decode cX2_isBelow 102 = .ok (.lcmp, 1) := by decide +kernel
theorem dX2_isBelow_103 : decode cX2_isBelow 103 = .ok (.ifCond .ge 7, 3) := by decide +kernel
theorem dX2_isBelow_106 : decode cX2_isBelow 106 = .ok (.iconst 1, 1) := by decide +kernel
theorem dX2_isBelow_107 : decode cX2_isBelow 107 = .ok (.goto 4, 3) := by decide +kernel
theorem dX2_isBelow_110 : decode cX2_isBelow 110 = .ok (.iconst 0, 1) := by decide +kernel
theorem dX2_isBelow_111 : decode cX2_isBelow 111 = .ok (.ireturn, 1) := by decide +kernel
theorem dX2_commonDivisor_0 : decode cX2_commonDivisor 0 = .ok (.lload_n 0, 1) := by decide +kernel
theorem dX2_commonDivisor_1 : decode cX2_commonDivisor 1 = .ok (.lstore 4, 2) := by decide +kernel
theorem dX2_commonDivisor_3 : decode cX2_commonDivisor 3 = .ok (.lload_n 2, 1) := by decide +kernel
theorem dX2_commonDivisor_4 : decode cX2_commonDivisor 4 = .ok (.lstore 6, 2) := by decide +kernel
theorem dX2_commonDivisor_6 : decode cX2_commonDivisor 6 = .ok (.iconst 0, 1) := by decide +kernel
theorem dX2_commonDivisor_7 : decode cX2_commonDivisor 7 = .ok (.istore 8, 2) := by decide +kernel
theorem dX2_commonDivisor_9 : decode cX2_commonDivisor 9 = .ok (.iload 8, 2) := by decide +kernel
theorem dX2_commonDivisor_11 : decode cX2_commonDivisor 11 = .ok (.bipush 100, 2) := by decide +kernel
theorem dX2_commonDivisor_13 : decode cX2_commonDivisor 13 = .ok (.if_icmp .ge 31, 3) := by decide +kernel
theorem dX2_commonDivisor_16 : decode cX2_commonDivisor 16 = .ok (.lload 6, 2) := by decide +kernel
theorem dX2_commonDivisor_18 : decode cX2_commonDivisor 18 = .ok (.lconst 0, 1) := by decide +kernel
theorem dX2_commonDivisor_19 : decode cX2_commonDivisor 19 = .ok (.lcmp, 1) := by decide +kernel
theorem dX2_commonDivisor_20 : decode cX2_commonDivisor 20 = .ok (.ifCond .eq 24, 3) := by decide +kernel
theorem dX2_commonDivisor_23 : decode cX2_commonDivisor 23 = .ok (.lload 4, 2) := by decide +kernel
theorem dX2_commonDivisor_25 : decode cX2_commonDivisor 25 = .ok (.lload 6, 2) := by decide +kernel
theorem dX2_commonDivisor_27 : decode cX2_commonDivisor 27 = .ok (.lrem, 1) := by decide +kernel
theorem dX2_commonDivisor_28 : decode cX2_commonDivisor 28 = .ok (.lstore 9, 2) := by decide +kernel
theorem dX2_commonDivisor_30 : decode cX2_commonDivisor 30 = .ok (.lload 6, 2) := by decide +kernel
theorem dX2_commonDivisor_32 : decode cX2_commonDivisor 32 = .ok (.lstore 4, 2) := by decide +kernel
theorem dX2_commonDivisor_34 : decode cX2_commonDivisor 34 = .ok (.lload 9, 2) := by decide +kernel
theorem dX2_commonDivisor_36 : decode cX2_commonDivisor 36 = .ok (.lstore 6, 2) := by decide +kernel
theorem dX2_commonDivisor_38 : decode cX2_commonDivisor 38 = .ok (.iinc 8 1, 3) := by decide +kernel
theorem dX2_commonDivisor_41 : decode cX2_commonDivisor 41 = .ok (.goto (-32), 3) := by decide +kernel
theorem dX2_commonDivisor_44 : decode cX2_commonDivisor 44 = .ok (.lload 4, 2) := by decide +kernel
theorem dX2_commonDivisor_46 : decode cX2_commonDivisor 46 = .ok (.lreturn, 1) := by decide +kernel
end
section
theorem dX3_init_0 : decode cX3_init 0 = .ok (.aload_n 0, 1) := by decide +kernel
theorem dX3_init_1 : decode cX3_init 1 = .ok (.invokespecial 3, 3) := by decide +kernel
theorem dX3_init_4 : decode cX3_init 4 = .ok (.aload_n 0, 1) := by decide +kernel
theorem dX3_init_5 : decode cX3_init 5 = .ok (.iconst 0, 1) := by decide +kernel
theorem dX3_init_6 : decode cX3_init 6 = .ok (.putfield 9, 3) := by decide +kernel
theorem dX3_init_9 : decode cX3_init 9 = .ok (.aload_n 0, 1) := by decide +kernel
theorem dX3_init_10 : decode cX3_init 10 = .ok (.bipush 10, 2) := by decide +kernel
theorem dX3_init_12 : decode cX3_init 12 = .ok (.putfield 15, 3) := by decide +kernel
theorem dX3_init_15 : decode cX3_init 15 = .ok (.aload_n 0, 1) := by decide +kernel
theorem dX3_init_16 : decode cX3_init 16 = .ok (.iconst 0, 1) := by decide +kernel
theorem dX3_init_17 : decode cX3_init 17 = .ok (.putfield 18, 3) := by decide +kernel
theorem dX3_init_20 : decode cX3_init 20 = .ok (.aload_n 0, 1) := by decide +kernel
theorem dX3_init_21 : decode cX3_init 21 = .ok (.bipush 12, 2) := by decide +kernel
theorem dX3_init_23 : decode cX3_init 23 = .ok (.newarray .int, 2) := by decide +kernel
theorem dX3_init_25 : decode cX3_init 25 = .ok (.putfield 21, 3) := by decide +kernel
theorem dX3_init_28 : decode cX3_init 28 = .ok (.aload_n 0, 1) := by decide +kernel
theorem dX3_init_29 : decode cX3_init 29 = .ok (.bipush 12, 2) := by decide +kernel
theorem dX3_init_31 : decode cX3_init 31 = .ok (.newarray .int, 2) := by decide +kernel
theorem dX3_init_33 : decode cX3_init 33 = .ok (.putfield 25, 3) := by decide +kernel
theorem dX3_init_36 : decode cX3_init 36 = .ok (.aload_n 0, 1) := by decide +kernel
theorem dX3_init_37 : decode cX3_init 37 = .ok (.bipush 12, 2) := by decide +kernel
theorem dX3_init_39 : decode cX3_init 39 = .ok (.newarray .int, 2) := by decide +kernel
theorem dX3_init_41 : decode cX3_init 41 = .ok (.putfield 28, 3) := by decide +kernel
theorem dX3_init_44 : decode cX3_init 44 = .ok (.aload_n 0, 1) := by decide +kernel
theorem dX3_init_45 : decode cX3_init 45 = .ok (.bipush 12, 2) := by decide +kernel
theorem dX3_init_47 : decode cX3_init 47 = .ok (.newarray .int, 2) := by decide +kernel
theorem dX3_init_49 : decode cX3_init 49 = .ok (.putfield 31, 3) := by decide +kernel
theorem dX3_init_52 : decode cX3_init 52 = .ok (.return_, 1) := by decide +kernel
theorem dX3_isRowerCount_0 : decode cX3_isRowerCount 0 = .ok (.iload_n 0, 1) := by decide +kernel
theorem dX3_isRowerCount_1 : decode cX3_isRowerCount 1 = .ok (.ifCond .lt 13, 3) := by decide +kernel
theorem dX3_isRowerCount_4 : decode cX3_isRowerCount 4 = .ok (.iload_n 0, 1) := by decide +kernel
theorem dX3_isRowerCount_5 : decode cX3_isRowerCount 5 = .ok (.bipush 6, 2) := by decide +kernel
theorem dX3_isRowerCount_7 : decode cX3_isRowerCount 7 = .ok (.if_icmp .gt 7, 3) := by decide +kernel
theorem dX3_isRowerCount_10 : decode cX3_isRowerCount 10 = .ok (.iconst 1, 1) := by decide +kernel
theorem dX3_isRowerCount_11 : decode cX3_isRowerCount 11 = .ok (.goto 4, 3) := by decide +kernel
theorem dX3_isRowerCount_14 : decode cX3_isRowerCount 14 = .ok (.iconst 0, 1) := by decide +kernel
theorem dX3_isRowerCount_15 : decode cX3_isRowerCount 15 = .ok (.ireturn, 1) := by decide +kernel
theorem dX3_isBound_0 : decode cX3_isBound 0 = .ok (.iload_n 0, 1) := by decide +kernel
theorem dX3_isBound_1 : decode cX3_isBound 1 = .ok (.iconst 1, 1) := by decide +kernel
theorem dX3_isBound_2 : decode cX3_isBound 2 = .ok (.if_icmp .lt 13, 3) := by decide +kernel
theorem dX3_isBound_5 : decode cX3_isBound 5 = .ok (.iload_n 0, 1) := by decide +kernel
theorem dX3_isBound_6 : decode cX3_isBound 6 = .ok (.bipush 99, 2) := by decide +kernel
theorem dX3_isBound_8 : decode cX3_isBound 8 = .ok (.if_icmp .gt 7, 3) := by decide +kernel
theorem dX3_isBound_11 : decode cX3_isBound 11 = .ok (.iconst 1, 1) := by decide +kernel
theorem dX3_isBound_12 : decode cX3_isBound 12 = .ok (.goto 4, 3) := by decide +kernel
theorem dX3_isBound_15 : decode cX3_isBound 15 = .ok (.iconst 0, 1) := by decide +kernel
theorem dX3_isBound_16 : decode cX3_isBound 16 = .ok (.ireturn, 1) := by decide +kernel
theorem dX3_begin_0 : decode cX3_begin 0 = .ok (.aload_n 0, 1) := by decide +kernel
theorem dX3_begin_1 : decode cX3_begin 1 = .ok (.iload_n 1, 1) := by decide +kernel
theorem dX3_begin_2 : decode cX3_begin 2 = .ok (.putfield 9, 3) := by decide +kernel
theorem dX3_begin_5 : decode cX3_begin 5 = .ok (.aload_n 0, 1) := by decide +kernel
theorem dX3_begin_6 : decode cX3_begin 6 = .ok (.iconst 0, 1) := by decide +kernel
theorem dX3_begin_7 : decode cX3_begin 7 = .ok (.putfield 18, 3) := by decide +kernel
theorem dX3_begin_10 : decode cX3_begin 10 = .ok (.return_, 1) := by decide +kernel
theorem dX3_copyFrom_0 : decode cX3_copyFrom 0 = .ok (.aload_n 0, 1) := by decide +kernel
theorem dX3_copyFrom_1 : decode cX3_copyFrom 1 = .ok (.aload_n 1, 1) := by decide +kernel
theorem dX3_copyFrom_2 : decode cX3_copyFrom 2 = .ok (.getfield 9, 3) := by decide +kernel
theorem dX3_copyFrom_5 : decode cX3_copyFrom 5 = .ok (.putfield 9, 3) := by decide +kernel
theorem dX3_copyFrom_8 : decode cX3_copyFrom 8 = .ok (.aload_n 0, 1) := by decide +kernel
theorem dX3_copyFrom_9 : decode cX3_copyFrom 9 = .ok (.aload_n 1, 1) := by decide +kernel
theorem dX3_copyFrom_10 : decode cX3_copyFrom 10 = .ok (.getfield 15, 3) := by decide +kernel
theorem dX3_copyFrom_13 : decode cX3_copyFrom 13 = .ok (.putfield 15, 3) := by decide +kernel
theorem dX3_copyFrom_16 : decode cX3_copyFrom 16 = .ok (.aload_n 0, 1) := by decide +kernel
theorem dX3_copyFrom_17 : decode cX3_copyFrom 17 = .ok (.aload_n 1, 1) := by decide +kernel
theorem dX3_copyFrom_18 : decode cX3_copyFrom 18 = .ok (.getfield 18, 3) := by decide +kernel
theorem dX3_copyFrom_21 : decode cX3_copyFrom 21 = .ok (.putfield 18, 3) := by decide +kernel
theorem dX3_copyFrom_24 : decode cX3_copyFrom 24 = .ok (.iconst 0, 1) := by decide +kernel
theorem dX3_copyFrom_25 : decode cX3_copyFrom 25 = .ok (.istore_n 2, 1) := by decide +kernel
theorem dX3_copyFrom_26 : decode cX3_copyFrom 26 = .ok (.iload_n 2, 1) := by decide +kernel
theorem dX3_copyFrom_27 : decode cX3_copyFrom 27 = .ok (.aload_n 0, 1) := by decide +kernel
theorem dX3_copyFrom_28 : decode cX3_copyFrom 28 = .ok (.getfield 18, 3) := by decide +kernel
theorem dX3_copyFrom_31 : decode cX3_copyFrom 31 = .ok (.if_icmp .ge 57, 3) := by decide +kernel
theorem dX3_copyFrom_34 : decode cX3_copyFrom 34 = .ok (.aload_n 0, 1) := by decide +kernel
theorem dX3_copyFrom_35 : decode cX3_copyFrom 35 = .ok (.getfield 21, 3) := by decide +kernel
theorem dX3_copyFrom_38 : decode cX3_copyFrom 38 = .ok (.iload_n 2, 1) := by decide +kernel
theorem dX3_copyFrom_39 : decode cX3_copyFrom 39 = .ok (.aload_n 1, 1) := by decide +kernel
theorem dX3_copyFrom_40 : decode cX3_copyFrom 40 = .ok (.getfield 21, 3) := by decide +kernel
theorem dX3_copyFrom_43 : decode cX3_copyFrom 43 = .ok (.iload_n 2, 1) := by decide +kernel
theorem dX3_copyFrom_44 : decode cX3_copyFrom 44 = .ok (.iaload, 1) := by decide +kernel
theorem dX3_copyFrom_45 : decode cX3_copyFrom 45 = .ok (.iastore, 1) := by decide +kernel
theorem dX3_copyFrom_46 : decode cX3_copyFrom 46 = .ok (.aload_n 0, 1) := by decide +kernel
theorem dX3_copyFrom_47 : decode cX3_copyFrom 47 = .ok (.getfield 25, 3) := by decide +kernel
theorem dX3_copyFrom_50 : decode cX3_copyFrom 50 = .ok (.iload_n 2, 1) := by decide +kernel
theorem dX3_copyFrom_51 : decode cX3_copyFrom 51 = .ok (.aload_n 1, 1) := by decide +kernel
theorem dX3_copyFrom_52 : decode cX3_copyFrom 52 = .ok (.getfield 25, 3) := by decide +kernel
theorem dX3_copyFrom_55 : decode cX3_copyFrom 55 = .ok (.iload_n 2, 1) := by decide +kernel
theorem dX3_copyFrom_56 : decode cX3_copyFrom 56 = .ok (.iaload, 1) := by decide +kernel
theorem dX3_copyFrom_57 : decode cX3_copyFrom 57 = .ok (.iastore, 1) := by decide +kernel
theorem dX3_copyFrom_58 : decode cX3_copyFrom 58 = .ok (.aload_n 0, 1) := by decide +kernel
theorem dX3_copyFrom_59 : decode cX3_copyFrom 59 = .ok (.getfield 28, 3) := by decide +kernel
theorem dX3_copyFrom_62 : decode cX3_copyFrom 62 = .ok (.iload_n 2, 1) := by decide +kernel
theorem dX3_copyFrom_63 : decode cX3_copyFrom 63 = .ok (.aload_n 1, 1) := by decide +kernel
theorem dX3_copyFrom_64 : decode cX3_copyFrom 64 = .ok (.getfield 28, 3) := by decide +kernel
theorem dX3_copyFrom_67 : decode cX3_copyFrom 67 = .ok (.iload_n 2, 1) := by decide +kernel
theorem dX3_copyFrom_68 : decode cX3_copyFrom 68 = .ok (.iaload, 1) := by decide +kernel
theorem dX3_copyFrom_69 : decode cX3_copyFrom 69 = .ok (.iastore, 1) := by decide +kernel
theorem dX3_copyFrom_70 : decode cX3_copyFrom 70 = .ok (.aload_n 0, 1) := by decide +kernel
theorem dX3_copyFrom_71 : decode cX3_copyFrom 71 = .ok (.getfield 31, 3) := by decide +kernel
theorem dX3_copyFrom_74 : decode cX3_copyFrom 74 = .ok (.iload_n 2, 1) := by decide +kernel
theorem dX3_copyFrom_75 : decode cX3_copyFrom 75 = .ok (.aload_n 1, 1) := by decide +kernel
theorem dX3_copyFrom_76 : decode cX3_copyFrom 76 = .ok (.getfield 31, 3) := by decide +kernel
theorem dX3_copyFrom_79 : decode cX3_copyFrom 79 = .ok (.iload_n 2, 1) := by decide +kernel
theorem dX3_copyFrom_80 : decode cX3_copyFrom 80 = .ok (.iaload, 1) := by decide +kernel
theorem dX3_copyFrom_81 : decode cX3_copyFrom 81 = .ok (.iastore, 1) := by decide +kernel
theorem dX3_copyFrom_82 : decode cX3_copyFrom 82 = .ok (.iinc 2 1, 3) := by decide +kernel
theorem dX3_copyFrom_85 : decode cX3_copyFrom 85 = .ok (.goto (-59), 3) := by decide +kernel
theorem dX3_copyFrom_88 : decode cX3_copyFrom 88 = .ok (.return_, 1) := by decide +kernel
theorem dX3_hasRower_0 : decode cX3_hasRower 0 = .ok (.iload_n 1, 1) := by decide +kernel
theorem dX3_hasRower_1 : decode cX3_hasRower 1 = .ok (.ifCond .lt 15, 3) := by decide +kernel
theorem dX3_hasRower_4 : decode cX3_hasRower 4 = .ok (.iload_n 1, 1) := by decide +kernel
theorem dX3_hasRower_5 : decode cX3_hasRower 5 = .ok (.aload_n 0, 1) := by decide +kernel
theorem dX3_hasRower_6 : decode cX3_hasRower 6 = .ok (.getfield 9, 3) := by decide +kernel
theorem dX3_hasRower_9 : decode cX3_hasRower 9 = .ok (.if_icmp .ge 7, 3) := by decide +kernel
theorem dX3_hasRower_12 : decode cX3_hasRower 12 = .ok (.iconst 1, 1) := by decide +kernel
theorem dX3_hasRower_13 : decode cX3_hasRower 13 = .ok (.goto 4, 3) := by decide +kernel
theorem dX3_hasRower_16 : decode cX3_hasRower 16 = .ok (.iconst 0, 1) := by decide +kernel
theorem dX3_hasRower_17 : decode cX3_hasRower 17 = .ok (.ireturn, 1) := by decide +kernel
theorem dX3_hasRace_0 : decode cX3_hasRace 0 = .ok (.iload_n 1, 1) := by decide +kernel
theorem dX3_hasRace_1 : decode cX3_hasRace 1 = .ok (.ifCond .lt 15, 3) := by decide +kernel
theorem dX3_hasRace_4 : decode cX3_hasRace 4 = .ok (.iload_n 1, 1) := by decide +kernel
theorem dX3_hasRace_5 : decode cX3_hasRace 5 = .ok (.aload_n 0, 1) := by decide +kernel
theorem dX3_hasRace_6 : decode cX3_hasRace 6 = .ok (.getfield 18, 3) := by decide +kernel
theorem dX3_hasRace_9 : decode cX3_hasRace 9 = .ok (.if_icmp .ge 7, 3) := by decide +kernel
theorem dX3_hasRace_12 : decode cX3_hasRace 12 = .ok (.iconst 1, 1) := by decide +kernel
theorem dX3_hasRace_13 : decode cX3_hasRace 13 = .ok (.goto 4, 3) := by decide +kernel
theorem dX3_hasRace_16 : decode cX3_hasRace 16 = .ok (.iconst 0, 1) := by decide +kernel
theorem dX3_hasRace_17 : decode cX3_hasRace 17 = .ok (.ireturn, 1) := by decide +kernel
theorem dX3_isFull_0 : decode cX3_isFull 0 = .ok (.aload_n 0, 1) := by decide +kernel
theorem dX3_isFull_1 : decode cX3_isFull 1 = .ok (.getfield 18, 3) := by decide +kernel
theorem dX3_isFull_4 : decode cX3_isFull 4 = .ok (.bipush 12, 2) := by decide +kernel
theorem dX3_isFull_6 : decode cX3_isFull 6 = .ok (.if_icmp .lt 7, 3) := by decide +kernel
theorem dX3_isFull_9 : decode cX3_isFull 9 = .ok (.iconst 1, 1) := by decide +kernel
theorem dX3_isFull_10 : decode cX3_isFull 10 = .ok (.goto 4, 3) := by decide +kernel
theorem dX3_isFull_13 : decode cX3_isFull 13 = .ok (.iconst 0, 1) := by decide +kernel
theorem dX3_isFull_14 : decode cX3_isFull 14 = .ok (.ireturn, 1) := by decide +kernel
theorem dX3_canRow_0 : decode cX3_canRow 0 = .ok (.iconst 1, 1) := by decide +kernel
theorem dX3_canRow_1 : decode cX3_canRow 1 = .ok (.aload_n 0, 1) := by decide +kernel
theorem dX3_canRow_2 : decode cX3_canRow 2 = .ok (.getfield 9, 3) := by decide +kernel
theorem dX3_canRow_5 : decode cX3_canRow 5 = .ok (.ishl, 1) := by decide +kernel
theorem dX3_canRow_6 : decode cX3_canRow 6 = .ok (.iconst 1, 1) := by decide +kernel
theorem dX3_canRow_7 : decode cX3_canRow 7 = .ok (.isub, 1) := by decide +kernel
theorem dX3_canRow_8 : decode cX3_canRow 8 = .ok (.istore 4, 2) := by decide +kernel
theorem dX3_canRow_10 : decode cX3_canRow 10 = .ok (.iload_n 1, 1) := by decide +kernel
theorem dX3_canRow_11 : decode cX3_canRow 11 = .ok (.invokestatic 34, 3) := by decide +kernel
theorem dX3_canRow_14 : decode cX3_canRow 14 = .ok (.istore 5, 2) := by decide +kernel
theorem dX3_canRow_16 : decode cX3_canRow 16 = .ok (.iload_n 1, 1) := by decide +kernel
theorem dX3_canRow_17 : decode cX3_canRow 17 = .ok (.iload_n 2, 1) := by decide +kernel
theorem dX3_canRow_18 : decode cX3_canRow 18 = .ok (.ior, 1) := by decide +kernel
theorem dX3_canRow_19 : decode cX3_canRow 19 = .ok (.iload 4, 2) := by decide +kernel
theorem dX3_canRow_21 : decode cX3_canRow 21 = .ok (.iconst (-1), 1) := by decide +kernel
theorem dX3_canRow_22 : decode cX3_canRow 22 = .ok (.ixor, 1) := by decide +kernel
theorem dX3_canRow_23 : decode cX3_canRow 23 = .ok (.iand, 1) := by decide +kernel
theorem dX3_canRow_24 : decode cX3_canRow 24 = .ok (.ifCond .ne 44, 3) := by decide +kernel
theorem dX3_canRow_27 : decode cX3_canRow 27 = .ok (.iload_n 1, 1) := by decide +kernel
theorem dX3_canRow_28 : decode cX3_canRow 28 = .ok (.iload_n 2, 1) := by decide +kernel
theorem dX3_canRow_29 : decode cX3_canRow 29 = .ok (.iand, 1) := by decide +kernel
theorem dX3_canRow_30 : decode cX3_canRow 30 = .ok (.ifCond .ne 38, 3) := by decide +kernel
theorem dX3_canRow_33 : decode cX3_canRow 33 = .ok (.iload 5, 2) := by decide +kernel
theorem dX3_canRow_35 : decode cX3_canRow 35 = .ok (.iload_n 2, 1) := by decide +kernel
theorem dX3_canRow_36 : decode cX3_canRow 36 = .ok (.invokestatic 34, 3) := by decide +kernel
theorem dX3_canRow_39 : decode cX3_canRow 39 = .ok (.if_icmp .ne 29, 3) := by decide +kernel
theorem dX3_canRow_42 : decode cX3_canRow 42 = .ok (.iload 5, 2) := by decide +kernel
theorem dX3_canRow_44 : decode cX3_canRow 44 = .ok (.iconst 1, 1) := by decide +kernel
theorem dX3_canRow_45 : decode cX3_canRow 45 = .ok (.if_icmp .lt 23, 3) := by decide +kernel
theorem dX3_canRow_48 : decode cX3_canRow 48 = .ok (.iload 5, 2) := by decide +kernel
theorem dX3_canRow_50 : decode cX3_canRow 50 = .ok (.iconst 3, 1) := by decide +kernel
theorem dX3_canRow_51 : decode cX3_canRow 51 = .ok (.if_icmp .gt 17, 3) := by decide +kernel
theorem dX3_canRow_54 : decode cX3_canRow 54 = .ok (.iload_n 3, 1) := by decide +kernel
theorem dX3_canRow_55 : decode cX3_canRow 55 = .ok (.iconst (-1), 1) := by decide +kernel
theorem dX3_canRow_56 : decode cX3_canRow 56 = .ok (.if_icmp .lt 12, 3) := by decide +kernel
theorem dX3_canRow_59 : decode cX3_canRow 59 = .ok (.iload_n 3, 1) := by decide +kernel
theorem dX3_canRow_60 : decode cX3_canRow 60 = .ok (.iconst 1, 1) := by decide +kernel
theorem dX3_canRow_61 : decode cX3_canRow 61 = .ok (.if_icmp .gt 7, 3) := by decide +kernel
theorem dX3_canRow_64 : decode cX3_canRow 64 = .ok (.iconst 1, 1) := by decide +kernel
theorem dX3_canRow_65 : decode cX3_canRow 65 = .ok (.goto 4, 3) := by decide +kernel
theorem dX3_canRow_68 : decode cX3_canRow 68 = .ok (.iconst 0, 1) := by decide +kernel
theorem dX3_canRow_69 : decode cX3_canRow 69 = .ok (.ireturn, 1) := by decide +kernel
theorem dX3_append_0 : decode cX3_append 0 = .ok (.aload_n 0, 1) := by decide +kernel
theorem dX3_append_1 : decode cX3_append 1 = .ok (.invokevirtual 40, 3) := by decide +kernel
theorem dX3_append_4 : decode cX3_append 4 = .ok (.ifCond .eq 4, 3) := by decide +kernel
theorem dX3_append_7 : decode cX3_append 7 = .ok (.return_, 1) := by decide +kernel
theorem dX3_append_8 : decode cX3_append 8 = .ok (.aload_n 0, 1) := by decide +kernel
theorem dX3_append_9 : decode cX3_append 9 = .ok (.getfield 21, 3) := by decide +kernel
theorem dX3_append_12 : decode cX3_append 12 = .ok (.aload_n 0, 1) := by decide +kernel
theorem dX3_append_13 : decode cX3_append 13 = .ok (.getfield 18, 3) := by decide +kernel
theorem dX3_append_16 : decode cX3_append 16 = .ok (.iload_n 1, 1) := by decide +kernel
theorem dX3_append_17 : decode cX3_append 17 = .ok (.iastore, 1) := by decide +kernel
theorem dX3_append_18 : decode cX3_append 18 = .ok (.aload_n 0, 1) := by decide +kernel
theorem dX3_append_19 : decode cX3_append 19 = .ok (.getfield 25, 3) := by decide +kernel
theorem dX3_append_22 : decode cX3_append 22 = .ok (.aload_n 0, 1) := by decide +kernel
theorem dX3_append_23 : decode cX3_append 23 = .ok (.getfield 18, 3) := by decide +kernel
theorem dX3_append_26 : decode cX3_append 26 = .ok (.iload_n 2, 1) := by decide +kernel
theorem dX3_append_27 : decode cX3_append 27 = .ok (.iastore, 1) := by decide +kernel
theorem dX3_append_28 : decode cX3_append 28 = .ok (.aload_n 0, 1) := by decide +kernel
theorem dX3_append_29 : decode cX3_append 29 = .ok (.getfield 28, 3) := by decide +kernel
theorem dX3_append_32 : decode cX3_append 32 = .ok (.aload_n 0, 1) := by decide +kernel
theorem dX3_append_33 : decode cX3_append 33 = .ok (.getfield 18, 3) := by decide +kernel
theorem dX3_append_36 : decode cX3_append 36 = .ok (.iload_n 3, 1) := by decide +kernel
theorem dX3_append_37 : decode cX3_append 37 = .ok (.iastore, 1) := by decide +kernel
theorem dX3_append_38 : decode cX3_append 38 = .ok (.aload_n 0, 1) := by decide +kernel
theorem dX3_append_39 : decode cX3_append 39 = .ok (.getfield 31, 3) := by decide +kernel
theorem dX3_append_42 : decode cX3_append 42 = .ok (.aload_n 0, 1) := by decide +kernel
theorem dX3_append_43 : decode cX3_append 43 = .ok (.getfield 18, 3) := by decide +kernel
theorem dX3_append_46 : decode cX3_append 46 = .ok (.iload 4, 2) := by decide +kernel
theorem dX3_append_48 : decode cX3_append 48 = .ok (.iastore, 1) := by decide +kernel
theorem dX3_append_49 : decode cX3_append 49 = .ok (.aload_n 0, 1) := by decide +kernel
theorem dX3_append_50 : decode cX3_append 50 = .ok (.dup, 1) := by decide +kernel
theorem dX3_append_51 : decode cX3_append 51 = .ok (.getfield 18, 3) := by decide +kernel
theorem dX3_append_54 : decode cX3_append 54 = .ok (.iconst 1, 1) := by decide +kernel
theorem dX3_append_55 : decode cX3_append 55 = .ok (.iadd, 1) := by decide +kernel
theorem dX3_append_56 : decode cX3_append 56 = .ok (.putfield 18, 3) := by decide +kernel
theorem dX3_append_59 : decode cX3_append 59 = .ok (.return_, 1) := by decide +kernel
theorem dX3_remove_0 : decode cX3_remove 0 = .ok (.aload_n 0, 1) := by decide +kernel
theorem dX3_remove_1 : decode cX3_remove 1 = .ok (.iload_n 1, 1) := by decide +kernel
theorem dX3_remove_2 : decode cX3_remove 2 = .ok (.invokevirtual 44, 3) := by decide +kernel
theorem dX3_remove_5 : decode cX3_remove 5 = .ok (.ifCond .ne 4, 3) := by decide +kernel
theorem dX3_remove_8 : decode cX3_remove 8 = .ok (.return_, 1) := by decide +kernel
theorem dX3_remove_9 : decode cX3_remove 9 = .ok (.aload_n 0, 1) := by decide +kernel
theorem dX3_remove_10 : decode cX3_remove 10 = .ok (.dup, 1) := by decide +kernel
theorem dX3_remove_11 : decode cX3_remove 11 = .ok (.getfield 18, 3) := by decide +kernel
theorem dX3_remove_14 : decode cX3_remove 14 = .ok (.iconst 1, 1) := by decide +kernel
theorem dX3_remove_15 : decode cX3_remove 15 = .ok (.isub, 1) := by decide +kernel
theorem dX3_remove_16 : decode cX3_remove 16 = .ok (.putfield 18, 3) := by decide +kernel
theorem dX3_remove_19 : decode cX3_remove 19 = .ok (.iload_n 1, 1) := by decide +kernel
theorem dX3_remove_20 : decode cX3_remove 20 = .ok (.istore_n 2, 1) := by decide +kernel
theorem dX3_remove_21 : decode cX3_remove 21 = .ok (.iload_n 2, 1) := by decide +kernel
theorem dX3_remove_22 : decode cX3_remove 22 = .ok (.aload_n 0, 1) := by decide +kernel
theorem dX3_remove_23 : decode cX3_remove 23 = .ok (.getfield 18, 3) := by decide +kernel
theorem dX3_remove_26 : decode cX3_remove 26 = .ok (.if_icmp .ge 65, 3) := by decide +kernel
theorem dX3_remove_29 : decode cX3_remove 29 = .ok (.aload_n 0, 1) := by decide +kernel
theorem dX3_remove_30 : decode cX3_remove 30 = .ok (.getfield 21, 3) := by decide +kernel
theorem dX3_remove_33 : decode cX3_remove 33 = .ok (.iload_n 2, 1) := by decide +kernel
theorem dX3_remove_34 : decode cX3_remove 34 = .ok (.aload_n 0, 1) := by decide +kernel
theorem dX3_remove_35 : decode cX3_remove 35 = .ok (.getfield 21, 3) := by decide +kernel
theorem dX3_remove_38 : decode cX3_remove 38 = .ok (.iload_n 2, 1) := by decide +kernel
theorem dX3_remove_39 : decode cX3_remove 39 = .ok (.iconst 1, 1) := by decide +kernel
theorem dX3_remove_40 : decode cX3_remove 40 = .ok (.iadd, 1) := by decide +kernel
theorem dX3_remove_41 : decode cX3_remove 41 = .ok (.iaload, 1) := by decide +kernel
theorem dX3_remove_42 : decode cX3_remove 42 = .ok (.iastore, 1) := by decide +kernel
theorem dX3_remove_43 : decode cX3_remove 43 = .ok (.aload_n 0, 1) := by decide +kernel
theorem dX3_remove_44 : decode cX3_remove 44 = .ok (.getfield 25, 3) := by decide +kernel
theorem dX3_remove_47 : decode cX3_remove 47 = .ok (.iload_n 2, 1) := by decide +kernel
theorem dX3_remove_48 : decode cX3_remove 48 = .ok (.aload_n 0, 1) := by decide +kernel
theorem dX3_remove_49 : decode cX3_remove 49 = .ok (.getfield 25, 3) := by decide +kernel
theorem dX3_remove_52 : decode cX3_remove 52 = .ok (.iload_n 2, 1) := by decide +kernel
theorem dX3_remove_53 : decode cX3_remove 53 = .ok (.iconst 1, 1) := by decide +kernel
theorem dX3_remove_54 : decode cX3_remove 54 = .ok (.iadd, 1) := by decide +kernel
theorem dX3_remove_55 : decode cX3_remove 55 = .ok (.iaload, 1) := by decide +kernel
theorem dX3_remove_56 : decode cX3_remove 56 = .ok (.iastore, 1) := by decide +kernel
theorem dX3_remove_57 : decode cX3_remove 57 = .ok (.aload_n 0, 1) := by decide +kernel
theorem dX3_remove_58 : decode cX3_remove 58 = .ok (.getfield 28, 3) := by decide +kernel
theorem dX3_remove_61 : decode cX3_remove 61 = .ok (.iload_n 2, 1) := by decide +kernel
theorem dX3_remove_62 : decode cX3_remove 62 = .ok (.aload_n 0, 1) := by decide +kernel
theorem dX3_remove_63 : decode cX3_remove 63 = .ok (.getfield 28, 3) := by decide +kernel
theorem dX3_remove_66 : decode cX3_remove 66 = .ok (.iload_n 2, 1) := by decide +kernel
theorem dX3_remove_67 : decode cX3_remove 67 = .ok (.iconst 1, 1) := by decide +kernel
theorem dX3_remove_68 : decode cX3_remove 68 = .ok (.iadd, 1) := by decide +kernel
theorem dX3_remove_69 : decode cX3_remove 69 = .ok (.iaload, 1) := by decide +kernel
theorem dX3_remove_70 : decode cX3_remove 70 = .ok (.iastore, 1) := by decide +kernel
theorem dX3_remove_71 : decode cX3_remove 71 = .ok (.aload_n 0, 1) := by decide +kernel
theorem dX3_remove_72 : decode cX3_remove 72 = .ok (.getfield 31, 3) := by decide +kernel
theorem dX3_remove_75 : decode cX3_remove 75 = .ok (.iload_n 2, 1) := by decide +kernel
theorem dX3_remove_76 : decode cX3_remove 76 = .ok (.aload_n 0, 1) := by decide +kernel
theorem dX3_remove_77 : decode cX3_remove 77 = .ok (.getfield 31, 3) := by decide +kernel
theorem dX3_remove_80 : decode cX3_remove 80 = .ok (.iload_n 2, 1) := by decide +kernel
theorem dX3_remove_81 : decode cX3_remove 81 = .ok (.iconst 1, 1) := by decide +kernel
theorem dX3_remove_82 : decode cX3_remove 82 = .ok (.iadd, 1) := by decide +kernel
theorem dX3_remove_83 : decode cX3_remove 83 = .ok (.iaload, 1) := by decide +kernel
theorem dX3_remove_84 : decode cX3_remove 84 = .ok (.iastore, 1) := by decide +kernel
theorem dX3_remove_85 : decode cX3_remove 85 = .ok (.iinc 2 1, 3) := by decide +kernel
theorem dX3_remove_88 : decode cX3_remove 88 = .ok (.goto (-67), 3) := by decide +kernel
theorem dX3_remove_91 : decode cX3_remove 91 = .ok (.return_, 1) := by decide +kernel
theorem dX3_isSwap_0 : decode cX3_isSwap 0 = .ok (.iconst 1, 1) := by decide +kernel
theorem dX3_isSwap_1 : decode cX3_isSwap 1 = .ok (.iload_n 3, 1) := by decide +kernel
theorem dX3_isSwap_2 : decode cX3_isSwap 2 = .ok (.ishl, 1) := by decide +kernel
theorem dX3_isSwap_3 : decode cX3_isSwap 3 = .ok (.iconst 1, 1) := by decide +kernel
theorem dX3_isSwap_4 : decode cX3_isSwap 4 = .ok (.iload 4, 2) := by decide +kernel
theorem dX3_isSwap_6 : decode cX3_isSwap 6 = .ok (.ishl, 1) := by decide +kernel
theorem dX3_isSwap_7 : decode cX3_isSwap 7 = .ok (.ior, 1) := by decide +kernel
theorem dX3_isSwap_8 : decode cX3_isSwap 8 = .ok (.istore 5, 2) := by decide +kernel
theorem dX3_isSwap_10 : decode cX3_isSwap 10 = .ok (.aload_n 0, 1) := by decide +kernel
theorem dX3_isSwap_11 : decode cX3_isSwap 11 = .ok (.getfield 31, 3) := by decide +kernel
theorem dX3_isSwap_14 : decode cX3_isSwap 14 = .ok (.iload_n 1, 1) := by decide +kernel
theorem dX3_isSwap_15 : decode cX3_isSwap 15 = .ok (.iaload, 1) := by decide +kernel
theorem dX3_isSwap_16 : decode cX3_isSwap 16 = .ok (.aload_n 0, 1) := by decide +kernel
theorem dX3_isSwap_17 : decode cX3_isSwap 17 = .ok (.getfield 31, 3) := by decide +kernel
theorem dX3_isSwap_20 : decode cX3_isSwap 20 = .ok (.iload_n 2, 1) := by decide +kernel
theorem dX3_isSwap_21 : decode cX3_isSwap 21 = .ok (.iaload, 1) := by decide +kernel
theorem dX3_isSwap_22 : decode cX3_isSwap 22 = .ok (.if_icmp .ne 74, 3) := by decide +kernel
theorem dX3_isSwap_25 : decode cX3_isSwap 25 = .ok (.aload_n 0, 1) := by decide +kernel
theorem dX3_isSwap_26 : decode cX3_isSwap 26 = .ok (.getfield 21, 3) := by decide +kernel
theorem dX3_isSwap_29 : decode cX3_isSwap 29 = .ok (.iload_n 1, 1) := by decide +kernel
theorem dX3_isSwap_30 : decode cX3_isSwap 30 = .ok (.iaload, 1) := by decide +kernel
theorem dX3_isSwap_31 : decode cX3_isSwap 31 = .ok (.iload 5, 2) := by decide +kernel
theorem dX3_isSwap_33 : decode cX3_isSwap 33 = .ok (.iand, 1) := by decide +kernel
theorem dX3_isSwap_34 : decode cX3_isSwap 34 = .ok (.iconst 1, 1) := by decide +kernel
theorem dX3_isSwap_35 : decode cX3_isSwap 35 = .ok (.iload_n 3, 1) := by decide +kernel
theorem dX3_isSwap_36 : decode cX3_isSwap 36 = .ok (.ishl, 1) := by decide +kernel
theorem dX3_isSwap_37 : decode cX3_isSwap 37 = .ok (.if_icmp .ne 59, 3) := by decide +kernel
theorem dX3_isSwap_40 : decode cX3_isSwap 40 = .ok (.aload_n 0, 1) := by decide +kernel
theorem dX3_isSwap_41 : decode cX3_isSwap 41 = .ok (.getfield 25, 3) := by decide +kernel
theorem dX3_isSwap_44 : decode cX3_isSwap 44 = .ok (.iload_n 1, 1) := by decide +kernel
theorem dX3_isSwap_45 : decode cX3_isSwap 45 = .ok (.iaload, 1) := by decide +kernel
theorem dX3_isSwap_46 : decode cX3_isSwap 46 = .ok (.iload 5, 2) := by decide +kernel
theorem dX3_isSwap_48 : decode cX3_isSwap 48 = .ok (.iand, 1) := by decide +kernel
theorem dX3_isSwap_49 : decode cX3_isSwap 49 = .ok (.iconst 1, 1) := by decide +kernel
theorem dX3_isSwap_50 : decode cX3_isSwap 50 = .ok (.iload 4, 2) := by decide +kernel
theorem dX3_isSwap_52 : decode cX3_isSwap 52 = .ok (.ishl, 1) := by decide +kernel
theorem dX3_isSwap_53 : decode cX3_isSwap 53 = .ok (.if_icmp .ne 43, 3) := by decide +kernel
theorem dX3_isSwap_56 : decode cX3_isSwap 56 = .ok (.aload_n 0, 1) := by decide +kernel
theorem dX3_isSwap_57 : decode cX3_isSwap 57 = .ok (.getfield 21, 3) := by decide +kernel
theorem dX3_isSwap_60 : decode cX3_isSwap 60 = .ok (.iload_n 2, 1) := by decide +kernel
theorem dX3_isSwap_61 : decode cX3_isSwap 61 = .ok (.iaload, 1) := by decide +kernel
theorem dX3_isSwap_62 : decode cX3_isSwap 62 = .ok (.aload_n 0, 1) := by decide +kernel
theorem dX3_isSwap_63 : decode cX3_isSwap 63 = .ok (.getfield 21, 3) := by decide +kernel
theorem dX3_isSwap_66 : decode cX3_isSwap 66 = .ok (.iload_n 1, 1) := by decide +kernel
theorem dX3_isSwap_67 : decode cX3_isSwap 67 = .ok (.iaload, 1) := by decide +kernel
theorem dX3_isSwap_68 : decode cX3_isSwap 68 = .ok (.iload 5, 2) := by decide +kernel
theorem dX3_isSwap_70 : decode cX3_isSwap 70 = .ok (.ixor, 1) := by decide +kernel
theorem dX3_isSwap_71 : decode cX3_isSwap 71 = .ok (.if_icmp .ne 25, 3) := by decide +kernel
theorem dX3_isSwap_74 : decode cX3_isSwap 74 = .ok (.aload_n 0, 1) := by decide +kernel
theorem dX3_isSwap_75 : decode cX3_isSwap 75 = .ok (.getfield 25, 3) := by decide +kernel
theorem dX3_isSwap_78 : decode cX3_isSwap 78 = .ok (.iload_n 2, 1) := by decide +kernel
theorem dX3_isSwap_79 : decode cX3_isSwap 79 = .ok (.iaload, 1) := by decide +kernel
theorem dX3_isSwap_80 : decode cX3_isSwap 80 = .ok (.aload_n 0, 1) := by decide +kernel
theorem dX3_isSwap_81 : decode cX3_isSwap 81 = .ok (.getfield 25, 3) := by decide +kernel
theorem dX3_isSwap_84 : decode cX3_isSwap 84 = .ok (.iload_n 1, 1) := by decide +kernel
theorem dX3_isSwap_85 : decode cX3_isSwap 85 = .ok (.iaload, 1) := by decide +kernel
theorem dX3_isSwap_86 : decode cX3_isSwap 86 = .ok (.iload 5, 2) := by decide +kernel
theorem dX3_isSwap_88 : decode cX3_isSwap 88 = .ok (.ixor, 1) := by decide +kernel
theorem dX3_isSwap_89 : decode cX3_isSwap 89 = .ok (.if_icmp .ne 7, 3) := by decide +kernel
theorem dX3_isSwap_92 : decode cX3_isSwap 92 = .ok (.iconst 1, 1) := by decide +kernel
theorem dX3_isSwap_93 : decode cX3_isSwap 93 = .ok (.goto 4, 3) := by decide +kernel
theorem dX3_isSwap_96 : decode cX3_isSwap 96 = .ok (.iconst 0, 1) := by decide +kernel
theorem dX3_isSwap_97 : decode cX3_isSwap 97 = .ok (.ireturn, 1) := by decide +kernel
end
section
theorem dX4_init_0 : decode cX4_init 0 = .ok (.aload_n 0, 1) := by decide +kernel
theorem dX4_init_1 : decode cX4_init 1 = .ok (.invokespecial 3, 3) := by decide +kernel
theorem dX4_init_4 : decode cX4_init 4 = .ok (.aload_n 0, 1) := by decide +kernel
theorem dX4_init_5 : decode cX4_init 5 = .ok (.iconst 0, 1) := by decide +kernel
theorem dX4_init_6 : decode cX4_init 6 = .ok (.putfield 9, 3) := by decide +kernel
theorem dX4_init_9 : decode cX4_init 9 = .ok (.aload_n 0, 1) := by decide +kernel
theorem dX4_init_10 : decode cX4_init 10 = .ok (.iconst 0, 1) := by decide +kernel
theorem dX4_init_11 : decode cX4_init 11 = .ok (.putfield 15, 3) := by decide +kernel
theorem dX4_init_14 : decode cX4_init 14 = .ok (.aload_n 0, 1) := by decide +kernel
theorem dX4_init_15 : decode cX4_init 15 = .ok (.iconst 0, 1) := by decide +kernel
theorem dX4_init_16 : decode cX4_init 16 = .ok (.putfield 18, 3) := by decide +kernel
theorem dX4_init_19 : decode cX4_init 19 = .ok (.aload_n 0, 1) := by decide +kernel
theorem dX4_init_20 : decode cX4_init 20 = .ok (.iconst 0, 1) := by decide +kernel
theorem dX4_init_21 : decode cX4_init 21 = .ok (.putfield 21, 3) := by decide +kernel
theorem dX4_init_24 : decode cX4_init 24 = .ok (.aload_n 0, 1) := by decide +kernel
theorem dX4_init_25 : decode cX4_init 25 = .ok (.iconst 0, 1) := by decide +kernel
theorem dX4_init_26 : decode cX4_init 26 = .ok (.putfield 24, 3) := by decide +kernel
theorem dX4_init_29 : decode cX4_init 29 = .ok (.aload_n 0, 1) := by decide +kernel
theorem dX4_init_30 : decode cX4_init 30 = .ok (.sipush 300, 3) := by decide +kernel
theorem dX4_init_33 : decode cX4_init 33 = .ok (.newarray .byte, 2) := by decide +kernel
theorem dX4_init_35 : decode cX4_init 35 = .ok (.putfield 27, 3) := by decide +kernel
theorem dX4_init_38 : decode cX4_init 38 = .ok (.return_, 1) := by decide +kernel
theorem dX4_append_0 : decode cX4_append 0 = .ok (.bipush 24, 2) := by decide +kernel
theorem dX4_append_2 : decode cX4_append 2 = .ok (.istore_n 2, 1) := by decide +kernel
theorem dX4_append_3 : decode cX4_append 3 = .ok (.iload_n 2, 1) := by decide +kernel
theorem dX4_append_4 : decode cX4_append 4 = .ok (.ifCond .lt 42, 3) := by decide +kernel
theorem dX4_append_7 : decode cX4_append 7 = .ok (.aload_n 0, 1) := by decide +kernel
theorem dX4_append_8 : decode cX4_append 8 = .ok (.getfield 9, 3) := by decide +kernel
theorem dX4_append_11 : decode cX4_append 11 = .ok (.sipush 300, 3) := by decide +kernel
theorem dX4_append_14 : decode cX4_append 14 = .ok (.if_icmp .ge 32, 3) := by decide +kernel
theorem dX4_append_17 : decode cX4_append 17 = .ok (.aload_n 0, 1) := by decide +kernel
theorem dX4_append_18 : decode cX4_append 18 = .ok (.getfield 27, 3) := by decide +kernel
theorem dX4_append_21 : decode cX4_append 21 = .ok (.aload_n 0, 1) := by decide +kernel
theorem dX4_append_22 : decode cX4_append 22 = .ok (.getfield 9, 3) := by decide +kernel
theorem dX4_append_25 : decode cX4_append 25 = .ok (.iload_n 1, 1) := by decide +kernel
theorem dX4_append_26 : decode cX4_append 26 = .ok (.iload_n 2, 1) := by decide +kernel
theorem dX4_append_27 : decode cX4_append 27 = .ok (.ishr, 1) := by decide +kernel
theorem dX4_append_28 : decode cX4_append 28 = .ok (.i2b, 1) := by decide +kernel
theorem dX4_append_29 : decode cX4_append 29 = .ok (.bastore, 1) := by decide +kernel
theorem dX4_append_30 : decode cX4_append 30 = .ok (.aload_n 0, 1) := by decide +kernel
theorem dX4_append_31 : decode cX4_append 31 = .ok (.dup, 1) := by decide +kernel
theorem dX4_append_32 : decode cX4_append 32 = .ok (.getfield 9, 3) := by decide +kernel
theorem dX4_append_35 : decode cX4_append 35 = .ok (.iconst 1, 1) := by decide +kernel
theorem dX4_append_36 : decode cX4_append 36 = .ok (.iadd, 1) := by decide +kernel
theorem dX4_append_37 : decode cX4_append 37 = .ok (.putfield 9, 3) := by decide +kernel
theorem dX4_append_40 : decode cX4_append 40 = .ok (.iinc 2 (-8), 3) := by decide +kernel
theorem dX4_append_43 : decode cX4_append 43 = .ok (.goto (-40), 3) := by decide +kernel
theorem dX4_append_46 : decode cX4_append 46 = .ok (.return_, 1) := by decide +kernel
theorem dX4_rewind_0 : decode cX4_rewind 0 = .ok (.aload_n 0, 1) := by decide +kernel
theorem dX4_rewind_1 : decode cX4_rewind 1 = .ok (.iconst 0, 1) := by decide +kernel
theorem dX4_rewind_2 : decode cX4_rewind 2 = .ok (.putfield 24, 3) := by decide +kernel
theorem dX4_rewind_5 : decode cX4_rewind 5 = .ok (.return_, 1) := by decide +kernel
theorem dX4_step_0 : decode cX4_step 0 = .ok (.aload_n 0, 1) := by decide +kernel
theorem dX4_step_1 : decode cX4_step 1 = .ok (.aload_n 0, 1) := by decide +kernel
theorem dX4_step_2 : decode cX4_step 2 = .ok (.getfield 24, 3) := by decide +kernel
theorem dX4_step_5 : decode cX4_step 5 = .ok (.putfield 18, 3) := by decide +kernel
theorem dX4_step_8 : decode cX4_step 8 = .ok (.aload_n 0, 1) := by decide +kernel
theorem dX4_step_9 : decode cX4_step 9 = .ok (.getfield 18, 3) := by decide +kernel
theorem dX4_step_12 : decode cX4_step 12 = .ok (.aload_n 0, 1) := by decide +kernel
theorem dX4_step_13 : decode cX4_step 13 = .ok (.getfield 9, 3) := by decide +kernel
theorem dX4_step_16 : decode cX4_step 16 = .ok (.if_icmp .ge 44, 3) := by decide +kernel
theorem dX4_step_19 : decode cX4_step 19 = .ok (.aload_n 0, 1) := by decide +kernel
theorem dX4_step_20 : decode cX4_step 20 = .ok (.getfield 27, 3) := by decide +kernel
theorem dX4_step_23 : decode cX4_step 23 = .ok (.aload_n 0, 1) := by decide +kernel
theorem dX4_step_24 : decode cX4_step 24 = .ok (.getfield 18, 3) := by decide +kernel
theorem dX4_step_27 : decode cX4_step 27 = .ok (.baload, 1) := by decide +kernel
theorem dX4_step_28 : decode cX4_step 28 = .ok (.bipush 32, 2) := by decide +kernel
theorem dX4_step_30 : decode cX4_step 30 = .ok (.if_icmp .eq 17, 3) := by decide +kernel
theorem dX4_step_33 : decode cX4_step 33 = .ok (.aload_n 0, 1) := by decide +kernel
theorem dX4_step_34 : decode cX4_step 34 = .ok (.getfield 27, 3) := by decide +kernel
theorem dX4_step_37 : decode cX4_step 37 = .ok (.aload_n 0, 1) := by decide +kernel
theorem dX4_step_38 : decode cX4_step 38 = .ok (.getfield 18, 3) := by decide +kernel
theorem dX4_step_41 : decode cX4_step 41 = .ok (.baload, 1) := by decide +kernel
theorem dX4_step_42 : decode cX4_step 42 = .ok (.bipush 10, 2) := by decide +kernel
theorem dX4_step_44 : decode cX4_step 44 = .ok (.if_icmp .ne 16, 3) := by decide +kernel
theorem dX4_step_47 : decode cX4_step 47 = .ok (.aload_n 0, 1) := by decide +kernel
theorem dX4_step_48 : decode cX4_step 48 = .ok (.dup, 1) := by decide +kernel
theorem dX4_step_49 : decode cX4_step 49 = .ok (.getfield 18, 3) := by decide +kernel
theorem dX4_step_52 : decode cX4_step 52 = .ok (.iconst 1, 1) := by decide +kernel
theorem dX4_step_53 : decode cX4_step 53 = .ok (.iadd, 1) := by decide +kernel
theorem dX4_step_54 : decode cX4_step 54 = .ok (.putfield 18, 3) := by decide +kernel
theorem dX4_step_57 : decode cX4_step 57 = .ok (.goto (-49), 3) := by decide +kernel
theorem dX4_step_60 : decode cX4_step 60 = .ok (.aload_n 0, 1) := by decide +kernel
theorem dX4_step_61 : decode cX4_step 61 = .ok (.aload_n 0, 1) := by decide +kernel
theorem dX4_step_62 : decode cX4_step 62 = .ok (.getfield 18, 3) := by decide +kernel
theorem dX4_step_65 : decode cX4_step 65 = .ok (.putfield 24, 3) := by decide +kernel
theorem dX4_step_68 : decode cX4_step 68 = .ok (.aload_n 0, 1) := by decide +kernel
theorem dX4_step_69 : decode cX4_step 69 = .ok (.getfield 18, 3) := by decide +kernel
theorem dX4_step_72 : decode cX4_step 72 = .ok (.aload_n 0, 1) := by decide +kernel
theorem dX4_step_73 : decode cX4_step 73 = .ok (.getfield 9, 3) := by decide +kernel
theorem dX4_step_76 : decode cX4_step 76 = .ok (.if_icmp .lt 11, 3) := by decide +kernel
theorem dX4_step_79 : decode cX4_step 79 = .ok (.aload_n 0, 1) := by decide +kernel
theorem dX4_step_80 : decode cX4_step 80 = .ok (.iconst 0, 1) := by decide +kernel
theorem dX4_step_81 : decode cX4_step 81 = .ok (.putfield 15, 3) := by decide +kernel
theorem dX4_step_84 : decode cX4_step 84 = .ok (.goto 113, 3) := by decide +kernel
theorem dX4_step_87 : decode cX4_step 87 = .ok (.aload_n 0, 1) := by decide +kernel
theorem dX4_step_88 : decode cX4_step 88 = .ok (.getfield 27, 3) := by decide +kernel
theorem dX4_step_91 : decode cX4_step 91 = .ok (.aload_n 0, 1) := by decide +kernel
theorem dX4_step_92 : decode cX4_step 92 = .ok (.getfield 18, 3) := by decide +kernel
theorem dX4_step_95 : decode cX4_step 95 = .ok (.baload, 1) := by decide +kernel
theorem dX4_step_96 : decode cX4_step 96 = .ok (.invokestatic 31, 3) := by decide +kernel
theorem dX4_step_99 : decode cX4_step 99 = .ok (.ifCond .eq 10, 3) := by decide +kernel
theorem dX4_step_102 : decode cX4_step 102 = .ok (.aload_n 0, 1) := by decide +kernel
theorem dX4_step_103 : decode cX4_step 103 = .ok (.invokevirtual 35, 3) := by decide +kernel
theorem dX4_step_106 : decode cX4_step 106 = .ok (.goto 91, 3) := by decide +kernel
theorem dX4_step_109 : decode cX4_step 109 = .ok (.aload_n 0, 1) := by decide +kernel
theorem dX4_step_110 : decode cX4_step 110 = .ok (.getfield 27, 3) := by decide +kernel
theorem dX4_step_113 : decode cX4_step 113 = .ok (.aload_n 0, 1) := by decide +kernel
theorem dX4_step_114 : decode cX4_step 114 = .ok (.getfield 18, 3) := by decide +kernel
theorem dX4_step_117 : decode cX4_step 117 = .ok (.baload, 1) := by decide +kernel
theorem dX4_step_118 : decode cX4_step 118 = .ok (.invokestatic 38, 3) := by decide +kernel
theorem dX4_step_121 : decode cX4_step 121 = .ok (.ifCond .ne 17, 3) := by decide +kernel
theorem dX4_step_124 : decode cX4_step 124 = .ok (.aload_n 0, 1) := by decide +kernel
theorem dX4_step_125 : decode cX4_step 125 = .ok (.getfield 27, 3) := by decide +kernel
theorem dX4_step_128 : decode cX4_step 128 = .ok (.aload_n 0, 1) := by decide +kernel
theorem dX4_step_129 : decode cX4_step 129 = .ok (.getfield 18, 3) := by decide +kernel
theorem dX4_step_132 : decode cX4_step 132 = .ok (.baload, 1) := by decide +kernel
theorem dX4_step_133 : decode cX4_step 133 = .ok (.bipush 45, 2) := by decide +kernel
theorem dX4_step_135 : decode cX4_step 135 = .ok (.if_icmp .ne 10, 3) := by decide +kernel
theorem dX4_step_138 : decode cX4_step 138 = .ok (.aload_n 0, 1) := by decide +kernel
theorem dX4_step_139 : decode cX4_step 139 = .ok (.invokevirtual 41, 3) := by decide +kernel
theorem dX4_step_142 : decode cX4_step 142 = .ok (.goto 55, 3) := by decide +kernel
theorem dX4_step_145 : decode cX4_step 145 = .ok (.aload_n 0, 1) := by decide +kernel
theorem dX4_step_146 : decode cX4_step 146 = .ok (.aload_n 0, 1) := by decide +kernel
theorem dX4_step_147 : decode cX4_step 147 = .ok (.getfield 18, 3) := by decide +kernel
theorem dX4_step_150 : decode cX4_step 150 = .ok (.iconst 1, 1) := by decide +kernel
theorem dX4_step_151 : decode cX4_step 151 = .ok (.iadd, 1) := by decide +kernel
theorem dX4_step_152 : decode cX4_step 152 = .ok (.putfield 24, 3) := by decide +kernel
theorem dX4_step_155 : decode cX4_step 155 = .ok (.aload_n 0, 1) := by decide +kernel
theorem dX4_step_156 : decode cX4_step 156 = .ok (.aload_n 0, 1) := by decide +kernel
theorem dX4_step_157 : decode cX4_step 157 = .ok (.getfield 27, 3) := by decide +kernel
theorem dX4_step_160 : decode cX4_step 160 = .ok (.aload_n 0, 1) := by decide +kernel
theorem dX4_step_161 : decode cX4_step 161 = .ok (.getfield 18, 3) := by decide +kernel
theorem dX4_step_164 : decode cX4_step 164 = .ok (.baload, 1) := by decide +kernel
theorem dX4_step_165 : decode cX4_step 165 = .ok (.bipush 59, 2) := by decide +kernel
theorem dX4_step_167 : decode cX4_step 167 = .ok (.if_icmp .ne 7, 3) := by decide +kernel
theorem dX4_step_170 : decode cX4_step 170 = .ok (.iconst 2, 1) := by decide +kernel
theorem dX4_step_171 : decode cX4_step 171 = .ok (.goto 23, 3) := by decide +kernel
theorem dX4_step_174 : decode cX4_step 174 = .ok (.aload_n 0, 1) := by decide +kernel
theorem dX4_step_175 : decode cX4_step 175 = .ok (.getfield 27, 3) := by decide +kernel
theorem dX4_step_178 : decode cX4_step 178 = .ok (.aload_n 0, 1) := by decide +kernel
theorem dX4_step_179 : decode cX4_step 179 = .ok (.getfield 18, 3) := by decide +kernel
theorem dX4_step_182 : decode cX4_step 182 = .ok (.baload, 1) := by decide +kernel
theorem dX4_step_183 : decode cX4_step 183 = .ok (.bipush 58, 2) := by decide +kernel
theorem dX4_step_185 : decode cX4_step 185 = .ok (.if_icmp .ne 7, 3) := by decide +kernel
theorem dX4_step_188 : decode cX4_step 188 = .ok (.iconst 3, 1) := by decide +kernel
theorem dX4_step_189 : decode cX4_step 189 = .ok (.goto 5, 3) := by decide +kernel
theorem dX4_step_192 : decode cX4_step 192 = .ok (.bipush 10, 2) := by decide +kernel
theorem dX4_step_194 : decode cX4_step 194 = .ok (.putfield 15, 3) := by decide +kernel
theorem dX4_step_197 : decode cX4_step 197 = .ok (.return_, 1) := by decide +kernel
theorem dX4_readWord_0 : decode cX4_readWord 0 = .ok (.aload_n 0, 1) := by decide +kernel
theorem dX4_readWord_1 : decode cX4_readWord 1 = .ok (.getfield 24, 3) := by decide +kernel
theorem dX4_readWord_4 : decode cX4_readWord 4 = .ok (.aload_n 0, 1) := by decide +kernel
theorem dX4_readWord_5 : decode cX4_readWord 5 = .ok (.getfield 9, 3) := by decide +kernel
theorem dX4_readWord_8 : decode cX4_readWord 8 = .ok (.if_icmp .ge 31, 3) := by decide +kernel
theorem dX4_readWord_11 : decode cX4_readWord 11 = .ok (.aload_n 0, 1) := by decide +kernel
theorem dX4_readWord_12 : decode cX4_readWord 12 = .ok (.getfield 27, 3) := by decide +kernel
theorem dX4_readWord_15 : decode cX4_readWord 15 = .ok (.aload_n 0, 1) := by decide +kernel
theorem dX4_readWord_16 : decode cX4_readWord 16 = .ok (.getfield 24, 3) := by decide +kernel
theorem dX4_readWord_19 : decode cX4_readWord 19 = .ok (.baload, 1) := by decide +kernel
theorem dX4_readWord_20 : decode cX4_readWord 20 = .ok (.invokestatic 31, 3) := by decide +kernel
theorem dX4_readWord_23 : decode cX4_readWord 23 = .ok (.ifCond .eq 16, 3) := by decide +kernel
theorem dX4_readWord_26 : decode cX4_readWord 26 = .ok (.aload_n 0, 1) := by decide +kernel
theorem dX4_readWord_27 : decode cX4_readWord 27 = .ok (.dup, 1) := by decide +kernel
theorem dX4_readWord_28 : decode cX4_readWord 28 = .ok (.getfield 24, 3) := by decide +kernel
theorem dX4_readWord_31 : decode cX4_readWord 31 = .ok (.iconst 1, 1) := by decide +kernel
theorem dX4_readWord_32 : decode cX4_readWord 32 = .ok (.iadd, 1) := by decide +kernel
theorem dX4_readWord_33 : decode cX4_readWord 33 = .ok (.putfield 24, 3) := by decide +kernel
theorem dX4_readWord_36 : decode cX4_readWord 36 = .ok (.goto (-36), 3) := by decide +kernel
theorem dX4_readWord_39 : decode cX4_readWord 39 = .ok (.aload_n 0, 1) := by decide +kernel
theorem dX4_readWord_40 : decode cX4_readWord 40 = .ok (.ldc 44, 2) := by decide +kernel
theorem dX4_readWord_42 : decode cX4_readWord 42 = .ok (.invokevirtual 46, 3) := by decide +kernel
theorem dX4_readWord_45 : decode cX4_readWord 45 = .ok (.ifCond .eq 11, 3) := by decide +kernel
theorem dX4_readWord_48 : decode cX4_readWord 48 = .ok (.aload_n 0, 1) := by decide +kernel
theorem dX4_readWord_49 : decode cX4_readWord 49 = .ok (.iconst 4, 1) := by decide +kernel
theorem dX4_readWord_50 : decode cX4_readWord 50 = .ok (.putfield 15, 3) := by decide +kernel
theorem dX4_readWord_53 : decode cX4_readWord 53 = .ok (.goto 98, 3) := by decide +kernel
theorem dX4_readWord_56 : decode cX4_readWord 56 = .ok (.aload_n 0, 1) := by decide +kernel
theorem dX4_readWord_57 : decode cX4_readWord 57 = .ok (.ldc 50, 2) := by decide +kernel
theorem dX4_readWord_59 : decode cX4_readWord 59 = .ok (.invokevirtual 46, 3) := by decide +kernel
theorem dX4_readWord_62 : decode cX4_readWord 62 = .ok (.ifCond .eq 11, 3) := by decide +kernel
theorem dX4_readWord_65 : decode cX4_readWord 65 = .ok (.aload_n 0, 1) := by decide +kernel
theorem dX4_readWord_66 : decode cX4_readWord 66 = .ok (.iconst 5, 1) := by decide +kernel
theorem dX4_readWord_67 : decode cX4_readWord 67 = .ok (.putfield 15, 3) := by decide +kernel
theorem dX4_readWord_70 : decode cX4_readWord 70 = .ok (.goto 81, 3) := by decide +kernel
theorem dX4_readWord_73 : decode cX4_readWord 73 = .ok (.aload_n 0, 1) := by decide +kernel
theorem dX4_readWord_74 : decode cX4_readWord 74 = .ok (.ldc 52, 2) := by decide +kernel
theorem dX4_readWord_76 : decode cX4_readWord 76 = .ok (.invokevirtual 46, 3) := by decide +kernel
theorem dX4_readWord_79 : decode cX4_readWord 79 = .ok (.ifCond .eq 12, 3) := by decide +kernel
theorem dX4_readWord_82 : decode cX4_readWord 82 = .ok (.aload_n 0, 1) := by decide +kernel
theorem dX4_readWord_83 : decode cX4_readWord 83 = .ok (.bipush 6, 2) := by decide +kernel
theorem dX4_readWord_85 : decode cX4_readWord 85 = .ok (.putfield 15, 3) := by decide +kernel
theorem dX4_readWord_88 : decode cX4_readWord 88 = .ok (.goto 63, 3) := by decide +kernel
theorem dX4_readWord_91 : decode cX4_readWord 91 = .ok (.aload_n 0, 1) := by decide +kernel
theorem dX4_readWord_92 : decode cX4_readWord 92 = .ok (.ldc 54, 2) := by decide +kernel
theorem dX4_readWord_94 : decode cX4_readWord 94 = .ok (.invokevirtual 46, 3) := by decide +kernel
theorem dX4_readWord_97 : decode cX4_readWord 97 = .ok (.ifCond .eq 12, 3) := by decide +kernel
theorem dX4_readWord_100 : decode cX4_readWord 100 = .ok (.aload_n 0, 1) := by decide +kernel
theorem dX4_readWord_101 : decode cX4_readWord 101 = .ok (.bipush 7, 2) := by decide +kernel
theorem dX4_readWord_103 : decode cX4_readWord 103 = .ok (.putfield 15, 3) := by decide +kernel
theorem dX4_readWord_106 : decode cX4_readWord 106 = .ok (.goto 45, 3) := by decide +kernel
theorem dX4_readWord_109 : decode cX4_readWord 109 = .ok (.aload_n 0, 1) := by decide +kernel
theorem dX4_readWord_110 : decode cX4_readWord 110 = .ok (.ldc 56, 2) := by decide +kernel
theorem dX4_readWord_112 : decode cX4_readWord 112 = .ok (.invokevirtual 46, 3) := by decide +kernel
theorem dX4_readWord_115 : decode cX4_readWord 115 = .ok (.ifCond .eq 12, 3) := by decide +kernel
theorem dX4_readWord_118 : decode cX4_readWord 118 = .ok (.aload_n 0, 1) := by decide +kernel
theorem dX4_readWord_119 : decode cX4_readWord 119 = .ok (.bipush 8, 2) := by decide +kernel
theorem dX4_readWord_121 : decode cX4_readWord 121 = .ok (.putfield 15, 3) := by decide +kernel
theorem dX4_readWord_124 : decode cX4_readWord 124 = .ok (.goto 27, 3) := by decide +kernel
theorem dX4_readWord_127 : decode cX4_readWord 127 = .ok (.aload_n 0, 1) := by decide +kernel
theorem dX4_readWord_128 : decode cX4_readWord 128 = .ok (.ldc 58, 2) := by decide +kernel
theorem dX4_readWord_130 : decode cX4_readWord 130 = .ok (.invokevirtual 46, 3) := by decide +kernel
theorem dX4_readWord_133 : decode cX4_readWord 133 = .ok (.ifCond .eq 12, 3) := by decide +kernel
theorem dX4_readWord_136 : decode cX4_readWord 136 = .ok (.aload_n 0, 1) := by decide +kernel
theorem dX4_readWord_137 : decode cX4_readWord 137 = .ok (.bipush 9, 2) := by decide +kernel
theorem dX4_readWord_139 : decode cX4_readWord 139 = .ok (.putfield 15, 3) := by decide +kernel
theorem dX4_readWord_142 : decode cX4_readWord 142 = .ok (.goto 9, 3) := by decide +kernel
theorem dX4_readWord_145 : decode cX4_readWord 145 = .ok (.aload_n 0, 1) := by decide +kernel
theorem dX4_readWord_146 : decode cX4_readWord 146 = .ok (.bipush 10, 2) := by decide +kernel
theorem dX4_readWord_148 : decode cX4_readWord 148 = .ok (.putfield 15, 3) := by decide +kernel
theorem dX4_readWord_151 : decode cX4_readWord 151 = .ok (.return_, 1) := by decide +kernel
theorem dX4_readNumber_0 : decode cX4_readNumber 0 = .ok (.aload_n 0, 1) := by decide +kernel
theorem dX4_readNumber_1 : decode cX4_readNumber 1 = .ok (.getfield 27, 3) := by decide +kernel
theorem dX4_readNumber_4 : decode cX4_readNumber 4 = .ok (.aload_n 0, 1) := by decide +kernel
theorem dX4_readNumber_5 : decode cX4_readNumber 5 = .ok (.getfield 18, 3) := by decide +kernel
theorem dX4_readNumber_8 : decode cX4_readNumber 8 = .ok (.baload, 1) := by decide +kernel
theorem dX4_readNumber_9 : decode cX4_readNumber 9 = .ok (.bipush 45, 2) := by decide +kernel
theorem dX4_readNumber_11 : decode cX4_readNumber 11 = .ok (.if_icmp .ne 7, 3) := by decide +kernel
theorem dX4_readNumber_14 : decode cX4_readNumber 14 = .ok (.iconst 1, 1) := by decide +kernel
theorem dX4_readNumber_15 : decode cX4_readNumber 15 = .ok (.goto 4, 3) := by decide +kernel
theorem dX4_readNumber_18 : decode cX4_readNumber 18 = .ok (.iconst 0, 1) := by decide +kernel
theorem dX4_readNumber_19 : decode cX4_readNumber 19 = .ok (.istore_n 1, 1) := by decide +kernel
theorem dX4_readNumber_20 : decode cX4_readNumber 20 = .ok (.iload_n 1, 1) := by decide +kernel
theorem dX4_readNumber_21 : decode cX4_readNumber 21 = .ok (.ifCond .eq 12, 3) := by decide +kernel
theorem dX4_readNumber_24 : decode cX4_readNumber 24 = .ok (.aload_n 0, 1) := by decide +kernel
theorem dX4_readNumber_25 : decode cX4_readNumber 25 = .ok (.getfield 18, 3) := by decide +kernel
theorem dX4_readNumber_28 : decode cX4_readNumber 28 = .ok (.iconst 1, 1) := by decide +kernel
theorem dX4_readNumber_29 : decode cX4_readNumber 29 = .ok (.iadd, 1) := by decide +kernel
theorem dX4_readNumber_30 : decode cX4_readNumber 30 = .ok (.goto 7, 3) := by decide +kernel
theorem dX4_readNumber_33 : decode cX4_readNumber 33 = .ok (.aload_n 0, 1) := by decide +kernel
theorem dX4_readNumber_34 : decode cX4_readNumber 34 = .ok (.getfield 18, 3) := by decide +kernel
theorem dX4_readNumber_37 : decode cX4_readNumber 37 = .ok (.istore_n 2, 1) := by decide +kernel
theorem dX4_readNumber_38 : decode cX4_readNumber 38 = .ok (.iconst 0, 1) := by decide +kernel
theorem dX4_readNumber_39 : decode cX4_readNumber 39 = .ok (.istore_n 3, 1) := by decide +kernel
theorem dX4_readNumber_40 : decode cX4_readNumber 40 = .ok (.aload_n 0, 1) := by decide +kernel
theorem dX4_readNumber_41 : decode cX4_readNumber 41 = .ok (.iload_n 2, 1) := by decide +kernel
theorem dX4_readNumber_42 : decode cX4_readNumber 42 = .ok (.putfield 24, 3) := by decide +kernel
theorem dX4_readNumber_45 : decode cX4_readNumber 45 = .ok (.aload_n 0, 1) := by decide +kernel
theorem dX4_readNumber_46 : decode cX4_readNumber 46 = .ok (.getfield 24, 3) := by decide +kernel
theorem dX4_readNumber_49 : decode cX4_readNumber 49 = .ok (.aload_n 0, 1) := by decide +kernel
theorem dX4_readNumber_50 : decode cX4_readNumber 50 = .ok (.getfield 9, 3) := by decide +kernel
theorem dX4_readNumber_53 : decode cX4_readNumber 53 = .ok (.if_icmp .ge 59, 3) := by decide +kernel
theorem dX4_readNumber_56 : decode cX4_readNumber 56 = .ok (.aload_n 0, 1) := by decide +kernel
theorem dX4_readNumber_57 : decode cX4_readNumber 57 = .ok (.getfield 27, 3) := by decide +kernel
theorem dX4_readNumber_60 : decode cX4_readNumber 60 = .ok (.aload_n 0, 1) := by decide +kernel
theorem dX4_readNumber_61 : decode cX4_readNumber 61 = .ok (.getfield 24, 3) := by decide +kernel
theorem dX4_readNumber_64 : decode cX4_readNumber 64 = .ok (.baload, 1) := by decide +kernel
theorem dX4_readNumber_65 : decode cX4_readNumber 65 = .ok (.invokestatic 38, 3) := by decide +kernel
theorem dX4_readNumber_68 : decode cX4_readNumber 68 = .ok (.ifCond .eq 44, 3) := by decide +kernel
theorem dX4_readNumber_71 : decode cX4_readNumber 71 = .ok (.aload_n 0, 1) := by decide +kernel
theorem dX4_readNumber_72 : decode cX4_readNumber 72 = .ok (.getfield 24, 3) := by decide +kernel
theorem dX4_readNumber_75 : decode cX4_readNumber 75 = .ok (.iload_n 2, 1) := by decide +kernel
theorem dX4_readNumber_76 : decode cX4_readNumber 76 = .ok (.isub, 1) := by decide +kernel
theorem dX4_readNumber_77 : decode cX4_readNumber 77 = .ok (.iconst 3, 1) := by decide +kernel
theorem dX4_readNumber_78 : decode cX4_readNumber 78 = .ok (.if_icmp .ge 21, 3) := by decide +kernel
theorem dX4_readNumber_81 : decode cX4_readNumber 81 = .ok (.iload_n 3, 1) := by decide +kernel
theorem dX4_readNumber_82 : decode cX4_readNumber 82 = .ok (.bipush 10, 2) := by decide +kernel
theorem dX4_readNumber_84 : decode cX4_readNumber 84 = .ok (.imul, 1) := by decide +kernel
theorem dX4_readNumber_85 : decode cX4_readNumber 85 = .ok (.aload_n 0, 1) := by decide +kernel
theorem dX4_readNumber_86 : decode cX4_readNumber 86 = .ok (.getfield 27, 3) := by decide +kernel
theorem dX4_readNumber_89 : decode cX4_readNumber 89 = .ok (.aload_n 0, 1) := by decide +kernel
theorem dX4_readNumber_90 : decode cX4_readNumber 90 = .ok (.getfield 24, 3) := by decide +kernel
theorem dX4_readNumber_93 : decode cX4_readNumber 93 = .ok (.baload, 1) := by decide +kernel
theorem dX4_readNumber_94 : decode cX4_readNumber 94 = .ok (.iadd, 1) := by decide +kernel
theorem dX4_readNumber_95 : decode cX4_readNumber 95 = .ok (.bipush 48, 2) := by decide +kernel
theorem dX4_readNumber_97 : decode cX4_readNumber 97 = .ok (.isub, 1) := by decide +kernel
theorem dX4_readNumber_98 : decode cX4_readNumber 98 = .ok (.istore_n 3, 1) := by decide +kernel
theorem dX4_readNumber_99 : decode cX4_readNumber 99 = .ok (.aload_n 0, 1) := by decide +kernel
theorem dX4_readNumber_100 : decode cX4_readNumber 100 = .ok (.dup, 1) := by decide +kernel
theorem dX4_readNumber_101 : decode cX4_readNumber 101 = .ok (.getfield 24, 3) := by decide +kernel
theorem dX4_readNumber_104 : decode cX4_readNumber 104 = .ok (.iconst 1, 1) := by decide +kernel
theorem dX4_readNumber_105 : decode cX4_readNumber 105 = .ok (.iadd, 1) := by decide +kernel
theorem dX4_readNumber_106 : decode cX4_readNumber 106 = .ok (.putfield 24, 3) := by decide +kernel
theorem dX4_readNumber_109 : decode cX4_readNumber 109 = .ok (.goto (-64), 3) := by decide +kernel
theorem dX4_readNumber_112 : decode cX4_readNumber 112 = .ok (.aload_n 0, 1) := by decide +kernel
theorem dX4_readNumber_113 : decode cX4_readNumber 113 = .ok (.getfield 24, 3) := by decide +kernel
theorem dX4_readNumber_116 : decode cX4_readNumber 116 = .ok (.iload_n 2, 1) := by decide +kernel
theorem dX4_readNumber_117 : decode cX4_readNumber 117 = .ok (.isub, 1) := by decide +kernel
theorem dX4_readNumber_118 : decode cX4_readNumber 118 = .ok (.istore 4, 2) := by decide +kernel
theorem dX4_readNumber_120 : decode cX4_readNumber 120 = .ok (.aload_n 0, 1) := by decide +kernel
theorem dX4_readNumber_121 : decode cX4_readNumber 121 = .ok (.iload 4, 2) := by decide +kernel
theorem dX4_readNumber_123 : decode cX4_readNumber 123 = .ok (.iconst 1, 1) := by decide +kernel
theorem dX4_readNumber_124 : decode cX4_readNumber 124 = .ok (.if_icmp .lt 13, 3) := by decide +kernel
theorem dX4_readNumber_127 : decode cX4_readNumber 127 = .ok (.iload 4, 2) := by decide +kernel
theorem dX4_readNumber_129 : decode cX4_readNumber 129 = .ok (.iconst 3, 1) := by decide +kernel
theorem dX4_readNumber_130 : decode cX4_readNumber 130 = .ok (.if_icmp .gt 7, 3) := by decide +kernel
theorem dX4_readNumber_133 : decode cX4_readNumber 133 = .ok (.iconst 1, 1) := by decide +kernel
theorem dX4_readNumber_134 : decode cX4_readNumber 134 = .ok (.goto 5, 3) := by decide +kernel
theorem dX4_readNumber_137 : decode cX4_readNumber 137 = .ok (.bipush 10, 2) := by decide +kernel
theorem dX4_readNumber_139 : decode cX4_readNumber 139 = .ok (.putfield 15, 3) := by decide +kernel
theorem dX4_readNumber_142 : decode cX4_readNumber 142 = .ok (.aload_n 0, 1) := by decide +kernel
theorem dX4_readNumber_143 : decode cX4_readNumber 143 = .ok (.iload_n 1, 1) := by decide +kernel
theorem dX4_readNumber_144 : decode cX4_readNumber 144 = .ok (.ifCond .eq 8, 3) := by decide +kernel
theorem dX4_readNumber_147 : decode cX4_readNumber 147 = .ok (.iload_n 3, 1) := by decide +kernel
theorem dX4_readNumber_148 : decode cX4_readNumber 148 = .ok (.ineg, 1) := by decide +kernel
theorem dX4_readNumber_149 : decode cX4_readNumber 149 = .ok (.goto 4, 3) := by decide +kernel
theorem dX4_readNumber_152 : decode cX4_readNumber 152 = .ok (.iload_n 3, 1) := by decide +kernel
theorem dX4_readNumber_153 : decode cX4_readNumber 153 = .ok (.putfield 21, 3) := by decide +kernel
theorem dX4_readNumber_156 : decode cX4_readNumber 156 = .ok (.return_, 1) := by decide +kernel
theorem dX4_isWord_0 : decode cX4_isWord 0 = .ok (.aload_n 0, 1) := by decide +kernel
theorem dX4_isWord_1 : decode cX4_isWord 1 = .ok (.getfield 24, 3) := by decide +kernel
theorem dX4_isWord_4 : decode cX4_isWord 4 = .ok (.aload_n 0, 1) := by decide +kernel
theorem dX4_isWord_5 : decode cX4_isWord 5 = .ok (.getfield 18, 3) := by decide +kernel
theorem dX4_isWord_8 : decode cX4_isWord 8 = .ok (.isub, 1) := by decide +kernel
theorem dX4_isWord_9 : decode cX4_isWord 9 = .ok (.aload_n 1, 1) := by decide +kernel
theorem dX4_isWord_10 : decode cX4_isWord 10 = .ok (.invokevirtual 60, 3) := by decide +kernel
theorem dX4_isWord_13 : decode cX4_isWord 13 = .ok (.if_icmp .eq 5, 3) := by decide +kernel
theorem dX4_isWord_16 : decode cX4_isWord 16 = .ok (.iconst 0, 1) := by decide +kernel
theorem dX4_isWord_17 : decode cX4_isWord 17 = .ok (.ireturn, 1) := by decide +kernel
theorem dX4_isWord_18 : decode cX4_isWord 18 = .ok (.iconst 0, 1) := by decide +kernel
theorem dX4_isWord_19 : decode cX4_isWord 19 = .ok (.istore_n 2, 1) := by decide +kernel
theorem dX4_isWord_20 : decode cX4_isWord 20 = .ok (.iload_n 2, 1) := by decide +kernel
theorem dX4_isWord_21 : decode cX4_isWord 21 = .ok (.aload_n 1, 1) := by decide +kernel
theorem dX4_isWord_22 : decode cX4_isWord 22 = .ok (.invokevirtual 60, 3) := by decide +kernel
theorem dX4_isWord_25 : decode cX4_isWord 25 = .ok (.if_icmp .ge 30, 3) := by decide +kernel
theorem dX4_isWord_28 : decode cX4_isWord 28 = .ok (.aload_n 0, 1) := by decide +kernel
theorem dX4_isWord_29 : decode cX4_isWord 29 = .ok (.getfield 27, 3) := by decide +kernel
theorem dX4_isWord_32 : decode cX4_isWord 32 = .ok (.aload_n 0, 1) := by decide +kernel
theorem dX4_isWord_33 : decode cX4_isWord 33 = .ok (.getfield 18, 3) := by decide +kernel
theorem dX4_isWord_36 : decode cX4_isWord 36 = .ok (.iload_n 2, 1) := by decide +kernel
theorem dX4_isWord_37 : decode cX4_isWord 37 = .ok (.iadd, 1) := by decide +kernel
theorem dX4_isWord_38 : decode cX4_isWord 38 = .ok (.baload, 1) := by decide +kernel
theorem dX4_isWord_39 : decode cX4_isWord 39 = .ok (.aload_n 1, 1) := by decide +kernel
theorem dX4_isWord_40 : decode cX4_isWord 40 = .ok (.iload_n 2, 1) := by decide +kernel
theorem dX4_isWord_41 : decode cX4_isWord 41 = .ok (.invokevirtual 65, 3) := by decide +kernel
theorem dX4_isWord_44 : decode cX4_isWord 44 = .ok (.if_icmp .eq 5, 3) := by decide +kernel
theorem dX4_isWord_47 : decode cX4_isWord 47 = .ok (.iconst 0, 1) := by decide +kernel
theorem dX4_isWord_48 : decode cX4_isWord 48 = .ok (.ireturn, 1) := by decide +kernel
theorem dX4_isWord_49 : decode cX4_isWord 49 = .ok (.iinc 2 1, 3) := by decide +kernel
theorem dX4_isWord_52 : decode cX4_isWord 52 = .ok (.goto (-32), 3) := by decide +kernel
theorem dX4_isWord_55 : decode cX4_isWord 55 = .ok (.iconst 1, 1) := by decide +kernel
theorem dX4_isWord_56 : decode cX4_isWord 56 = .ok (.ireturn, 1) := by decide +kernel
theorem dX4_isLetter_0 : decode cX4_isLetter 0 = .ok (.iload_n 0, 1) := by decide +kernel
theorem dX4_isLetter_1 : decode cX4_isLetter 1 = .ok (.bipush 97, 2) := by decide +kernel
theorem dX4_isLetter_3 : decode cX4_isLetter 3 = .ok (.if_icmp .lt 13, 3) := by decide +kernel
theorem dX4_isLetter_6 : decode cX4_isLetter 6 = .ok (.iload_n 0, 1) := by decide +kernel
theorem dX4_isLetter_7 : decode cX4_isLetter 7 = .ok (.bipush 122, 2) := by decide +kernel
theorem dX4_isLetter_9 : decode cX4_isLetter 9 = .ok (.if_icmp .gt 7, 3) := by decide +kernel
theorem dX4_isLetter_12 : decode cX4_isLetter 12 = .ok (.iconst 1, 1) := by decide +kernel
theorem dX4_isLetter_13 : decode cX4_isLetter 13 = .ok (.goto 4, 3) := by decide +kernel
theorem dX4_isLetter_16 : decode cX4_isLetter 16 = .ok (.iconst 0, 1) := by decide +kernel
theorem dX4_isLetter_17 : decode cX4_isLetter 17 = .ok (.ireturn, 1) := by decide +kernel
theorem dX4_isDigit_0 : decode cX4_isDigit 0 = .ok (.iload_n 0, 1) := by decide +kernel
theorem dX4_isDigit_1 : decode cX4_isDigit 1 = .ok (.bipush 48, 2) := by decide +kernel
theorem dX4_isDigit_3 : decode cX4_isDigit 3 = .ok (.if_icmp .lt 13, 3) := by decide +kernel
theorem dX4_isDigit_6 : decode cX4_isDigit 6 = .ok (.iload_n 0, 1) := by decide +kernel
theorem dX4_isDigit_7 : decode cX4_isDigit 7 = .ok (.bipush 57, 2) := by decide +kernel
theorem dX4_isDigit_9 : decode cX4_isDigit 9 = .ok (.if_icmp .gt 7, 3) := by decide +kernel
theorem dX4_isDigit_12 : decode cX4_isDigit 12 = .ok (.iconst 1, 1) := by decide +kernel
theorem dX4_isDigit_13 : decode cX4_isDigit 13 = .ok (.goto 4, 3) := by decide +kernel
theorem dX4_isDigit_16 : decode cX4_isDigit 16 = .ok (.iconst 0, 1) := by decide +kernel
theorem dX4_isDigit_17 : decode cX4_isDigit 17 = .ok (.ireturn, 1) := by decide +kernel
end
section
theorem dX5_init_0 : decode cX5_init 0 = .ok (.aload_n 0, 1) := by decide +kernel
theorem dX5_init_1 : decode cX5_init 1 = .ok (.invokespecial 3, 3) := by decide +kernel
theorem dX5_init_4 : decode cX5_init 4 = .ok (.aload_n 0, 1) := by decide +kernel
theorem dX5_init_5 : decode cX5_init 5 = .ok (.iconst 0, 1) := by decide +kernel
theorem dX5_init_6 : decode cX5_init 6 = .ok (.putfield 9, 3) := by decide +kernel
theorem dX5_init_9 : decode cX5_init 9 = .ok (.aload_n 0, 1) := by decide +kernel
theorem dX5_init_10 : decode cX5_init 10 = .ok (.iconst 0, 1) := by decide +kernel
theorem dX5_init_11 : decode cX5_init 11 = .ok (.putfield 15, 3) := by decide +kernel
theorem dX5_init_14 : decode cX5_init 14 = .ok (.aload_n 0, 1) := by decide +kernel
theorem dX5_init_15 : decode cX5_init 15 = .ok (.new 18, 3) := by decide +kernel
theorem dX5_init_18 : decode cX5_init 18 = .ok (.dup, 1) := by decide +kernel
theorem dX5_init_19 : decode cX5_init 19 = .ok (.invokespecial 20, 3) := by decide +kernel
theorem dX5_init_22 : decode cX5_init 22 = .ok (.putfield 21, 3) := by decide +kernel
theorem dX5_init_25 : decode cX5_init 25 = .ok (.aload_n 0, 1) := by decide +kernel
theorem dX5_init_26 : decode cX5_init 26 = .ok (.new 25, 3) := by decide +kernel
theorem dX5_init_29 : decode cX5_init 29 = .ok (.dup, 1) := by decide +kernel
theorem dX5_init_30 : decode cX5_init 30 = .ok (.invokespecial 27, 3) := by decide +kernel
theorem dX5_init_33 : decode cX5_init 33 = .ok (.putfield 28, 3) := by decide +kernel
theorem dX5_init_36 : decode cX5_init 36 = .ok (.aload_n 0, 1) := by decide +kernel
theorem dX5_init_37 : decode cX5_init 37 = .ok (.iconst 0, 1) := by decide +kernel
theorem dX5_init_38 : decode cX5_init 38 = .ok (.putfield 32, 3) := by decide +kernel
theorem dX5_init_41 : decode cX5_init 41 = .ok (.aload_n 0, 1) := by decide +kernel
theorem dX5_init_42 : decode cX5_init 42 = .ok (.iconst 0, 1) := by decide +kernel
theorem dX5_init_43 : decode cX5_init 43 = .ok (.putfield 35, 3) := by decide +kernel
theorem dX5_init_46 : decode cX5_init 46 = .ok (.return_, 1) := by decide +kernel
theorem dX5_readAll_0 : decode cX5_readAll 0 = .ok (.aload_n 0, 1) := by decide +kernel
theorem dX5_readAll_1 : decode cX5_readAll 1 = .ok (.iconst 0, 1) := by decide +kernel
theorem dX5_readAll_2 : decode cX5_readAll 2 = .ok (.putfield 15, 3) := by decide +kernel
theorem dX5_readAll_5 : decode cX5_readAll 5 = .ok (.aload_n 0, 1) := by decide +kernel
theorem dX5_readAll_6 : decode cX5_readAll 6 = .ok (.iconst 0, 1) := by decide +kernel
theorem dX5_readAll_7 : decode cX5_readAll 7 = .ok (.putfield 9, 3) := by decide +kernel
theorem dX5_readAll_10 : decode cX5_readAll 10 = .ok (.aload_n 0, 1) := by decide +kernel
theorem dX5_readAll_11 : decode cX5_readAll 11 = .ok (.getfield 21, 3) := by decide +kernel
theorem dX5_readAll_14 : decode cX5_readAll 14 = .ok (.invokevirtual 38, 3) := by decide +kernel
theorem dX5_readAll_17 : decode cX5_readAll 17 = .ok (.aload_n 0, 1) := by decide +kernel
theorem dX5_readAll_18 : decode cX5_readAll 18 = .ok (.getfield 21, 3) := by decide +kernel
theorem dX5_readAll_21 : decode cX5_readAll 21 = .ok (.invokevirtual 41, 3) := by decide +kernel
theorem dX5_readAll_24 : decode cX5_readAll 24 = .ok (.aload_n 0, 1) := by decide +kernel
theorem dX5_readAll_25 : decode cX5_readAll 25 = .ok (.getfield 21, 3) := by decide +kernel
theorem dX5_readAll_28 : decode cX5_readAll 28 = .ok (.getfield 44, 3) := by decide +kernel
theorem dX5_readAll_31 : decode cX5_readAll 31 = .ok (.ifCond .eq 118, 3) := by decide +kernel
theorem dX5_readAll_34 : decode cX5_readAll 34 = .ok (.aload_n 0, 1) := by decide +kernel
theorem dX5_readAll_35 : decode cX5_readAll 35 = .ok (.getfield 9, 3) := by decide +kernel
theorem dX5_readAll_38 : decode cX5_readAll 38 = .ok (.sipush 300, 3) := by decide +kernel
theorem dX5_readAll_41 : decode cX5_readAll 41 = .ok (.if_icmp .ge 108, 3) := by decide +kernel
theorem dX5_readAll_44 : decode cX5_readAll 44 = .ok (.aload_n 0, 1) := by decide +kernel
theorem dX5_readAll_45 : decode cX5_readAll 45 = .ok (.getfield 21, 3) := by decide +kernel
theorem dX5_readAll_48 : decode cX5_readAll 48 = .ok (.getfield 44, 3) := by decide +kernel
theorem dX5_readAll_51 : decode cX5_readAll 51 = .ok (.tableswitch 49 4 6 #[25, 33, 41], 25) := by decide +kernel
theorem dX5_readAll_76 : decode cX5_readAll 76 = .ok (.aload_n 0, 1) := by decide +kernel
theorem dX5_readAll_77 : decode cX5_readAll 77 = .ok (.invokevirtual 47, 3) := by decide +kernel
theorem dX5_readAll_80 : decode cX5_readAll 80 = .ok (.istore_n 1, 1) := by decide +kernel
theorem dX5_readAll_81 : decode cX5_readAll 81 = .ok (.goto 25, 3) := by decide +kernel
theorem dX5_readAll_84 : decode cX5_readAll 84 = .ok (.aload_n 0, 1) := by decide +kernel
theorem dX5_readAll_85 : decode cX5_readAll 85 = .ok (.invokevirtual 51, 3) := by decide +kernel
theorem dX5_readAll_88 : decode cX5_readAll 88 = .ok (.istore_n 1, 1) := by decide +kernel
theorem dX5_readAll_89 : decode cX5_readAll 89 = .ok (.goto 17, 3) := by decide +kernel
theorem dX5_readAll_92 : decode cX5_readAll 92 = .ok (.aload_n 0, 1) := by decide +kernel
theorem dX5_readAll_93 : decode cX5_readAll 93 = .ok (.invokevirtual 54, 3) := by decide +kernel
theorem dX5_readAll_96 : decode cX5_readAll 96 = .ok (.istore_n 1, 1) := by decide +kernel
theorem dX5_readAll_97 : decode cX5_readAll 97 = .ok (.goto 9, 3) := by decide +kernel
theorem dX5_readAll_100 : decode cX5_readAll 100 = .ok (.aload_n 0, 1) := by decide +kernel
theorem dX5_readAll_101 : decode cX5_readAll 101 = .ok (.iconst 1, 1) := by decide +kernel
theorem dX5_readAll_102 : decode cX5_readAll 102 = .ok (.invokevirtual 57, 3) := by decide +kernel
theorem dX5_readAll_105 : decode cX5_readAll 105 = .ok (.istore_n 1, 1) := by decide +kernel
theorem dX5_readAll_106 : decode cX5_readAll 106 = .ok (.iload_n 1, 1) := by decide +kernel
theorem dX5_readAll_107 : decode cX5_readAll 107 = .ok (.ifCond .ne 5, 3) := by decide +kernel
theorem dX5_readAll_110 : decode cX5_readAll 110 = .ok (.iconst 0, 1) := by decide +kernel
theorem dX5_readAll_111 : decode cX5_readAll 111 = .ok (.ireturn, 1) := by decide +kernel
theorem dX5_readAll_112 : decode cX5_readAll 112 = .ok (.aload_n 0, 1) := by decide +kernel
theorem dX5_readAll_113 : decode cX5_readAll 113 = .ok (.getfield 21, 3) := by decide +kernel
theorem dX5_readAll_116 : decode cX5_readAll 116 = .ok (.getfield 44, 3) := by decide +kernel
theorem dX5_readAll_119 : decode cX5_readAll 119 = .ok (.iconst 2, 1) := by decide +kernel
theorem dX5_readAll_120 : decode cX5_readAll 120 = .ok (.if_icmp .eq 9, 3) := by decide +kernel
theorem dX5_readAll_123 : decode cX5_readAll 123 = .ok (.aload_n 0, 1) := by decide +kernel
theorem dX5_readAll_124 : decode cX5_readAll 124 = .ok (.iconst 1, 1) := by decide +kernel
theorem dX5_readAll_125 : decode cX5_readAll 125 = .ok (.invokevirtual 57, 3) := by decide +kernel
theorem dX5_readAll_128 : decode cX5_readAll 128 = .ok (.ireturn, 1) := by decide +kernel
theorem dX5_readAll_129 : decode cX5_readAll 129 = .ok (.aload_n 0, 1) := by decide +kernel
theorem dX5_readAll_130 : decode cX5_readAll 130 = .ok (.getfield 21, 3) := by decide +kernel
theorem dX5_readAll_133 : decode cX5_readAll 133 = .ok (.invokevirtual 41, 3) := by decide +kernel
theorem dX5_readAll_136 : decode cX5_readAll 136 = .ok (.aload_n 0, 1) := by decide +kernel
theorem dX5_readAll_137 : decode cX5_readAll 137 = .ok (.dup, 1) := by decide +kernel
theorem dX5_readAll_138 : decode cX5_readAll 138 = .ok (.getfield 9, 3) := by decide +kernel
theorem dX5_readAll_141 : decode cX5_readAll 141 = .ok (.iconst 1, 1) := by decide +kernel
theorem dX5_readAll_142 : decode cX5_readAll 142 = .ok (.iadd, 1) := by decide +kernel
theorem dX5_readAll_143 : decode cX5_readAll 143 = .ok (.putfield 9, 3) := by decide +kernel
theorem dX5_readAll_146 : decode cX5_readAll 146 = .ok (.goto (-122), 3) := by decide +kernel
theorem dX5_readAll_149 : decode cX5_readAll 149 = .ok (.iconst 1, 1) := by decide +kernel
theorem dX5_readAll_150 : decode cX5_readAll 150 = .ok (.ireturn, 1) := by decide +kernel
theorem dX5_refuse_0 : decode cX5_refuse 0 = .ok (.aload_n 0, 1) := by decide +kernel
theorem dX5_refuse_1 : decode cX5_refuse 1 = .ok (.iload_n 1, 1) := by decide +kernel
theorem dX5_refuse_2 : decode cX5_refuse 2 = .ok (.bipush 8, 2) := by decide +kernel
theorem dX5_refuse_4 : decode cX5_refuse 4 = .ok (.aload_n 0, 1) := by decide +kernel
theorem dX5_refuse_5 : decode cX5_refuse 5 = .ok (.getfield 21, 3) := by decide +kernel
theorem dX5_refuse_8 : decode cX5_refuse 8 = .ok (.getfield 61, 3) := by decide +kernel
theorem dX5_refuse_11 : decode cX5_refuse 11 = .ok (.imul, 1) := by decide +kernel
theorem dX5_refuse_12 : decode cX5_refuse 12 = .ok (.iadd, 1) := by decide +kernel
theorem dX5_refuse_13 : decode cX5_refuse 13 = .ok (.putfield 15, 3) := by decide +kernel
theorem dX5_refuse_16 : decode cX5_refuse 16 = .ok (.iconst 0, 1) := by decide +kernel
theorem dX5_refuse_17 : decode cX5_refuse 17 = .ok (.ireturn, 1) := by decide +kernel
theorem dX5_readRowers_0 : decode cX5_readRowers 0 = .ok (.aload_n 0, 1) := by decide +kernel
theorem dX5_readRowers_1 : decode cX5_readRowers 1 = .ok (.getfield 21, 3) := by decide +kernel
theorem dX5_readRowers_4 : decode cX5_readRowers 4 = .ok (.invokevirtual 41, 3) := by decide +kernel
theorem dX5_readRowers_7 : decode cX5_readRowers 7 = .ok (.aload_n 0, 1) := by decide +kernel
theorem dX5_readRowers_8 : decode cX5_readRowers 8 = .ok (.getfield 21, 3) := by decide +kernel
theorem dX5_readRowers_11 : decode cX5_readRowers 11 = .ok (.getfield 44, 3) := by decide +kernel
theorem dX5_readRowers_14 : decode cX5_readRowers 14 = .ok (.iconst 1, 1) := by decide +kernel
theorem dX5_readRowers_15 : decode cX5_readRowers 15 = .ok (.if_icmp .eq 9, 3) := by decide +kernel
theorem dX5_readRowers_18 : decode cX5_readRowers 18 = .ok (.aload_n 0, 1) := by decide +kernel
theorem dX5_readRowers_19 : decode cX5_readRowers 19 = .ok (.iconst 1, 1) := by decide +kernel
theorem dX5_readRowers_20 : decode cX5_readRowers 20 = .ok (.invokevirtual 57, 3) := by decide +kernel
theorem dX5_readRowers_23 : decode cX5_readRowers 23 = .ok (.ireturn, 1) := by decide +kernel
theorem dX5_readRowers_24 : decode cX5_readRowers 24 = .ok (.aload_n 0, 1) := by decide +kernel
theorem dX5_readRowers_25 : decode cX5_readRowers 25 = .ok (.getfield 21, 3) := by decide +kernel
theorem dX5_readRowers_28 : decode cX5_readRowers 28 = .ok (.getfield 64, 3) := by decide +kernel
theorem dX5_readRowers_31 : decode cX5_readRowers 31 = .ok (.invokestatic 67, 3) := by decide +kernel
theorem dX5_readRowers_34 : decode cX5_readRowers 34 = .ok (.ifCond .ne 9, 3) := by decide +kernel
theorem dX5_readRowers_37 : decode cX5_readRowers 37 = .ok (.aload_n 0, 1) := by decide +kernel
theorem dX5_readRowers_38 : decode cX5_readRowers 38 = .ok (.iconst 2, 1) := by decide +kernel
theorem dX5_readRowers_39 : decode cX5_readRowers 39 = .ok (.invokevirtual 57, 3) := by decide +kernel
theorem dX5_readRowers_42 : decode cX5_readRowers 42 = .ok (.ireturn, 1) := by decide +kernel
theorem dX5_readRowers_43 : decode cX5_readRowers 43 = .ok (.aload_n 0, 1) := by decide +kernel
theorem dX5_readRowers_44 : decode cX5_readRowers 44 = .ok (.getfield 28, 3) := by decide +kernel
theorem dX5_readRowers_47 : decode cX5_readRowers 47 = .ok (.aload_n 0, 1) := by decide +kernel
theorem dX5_readRowers_48 : decode cX5_readRowers 48 = .ok (.getfield 21, 3) := by decide +kernel
theorem dX5_readRowers_51 : decode cX5_readRowers 51 = .ok (.getfield 64, 3) := by decide +kernel
theorem dX5_readRowers_54 : decode cX5_readRowers 54 = .ok (.invokevirtual 70, 3) := by decide +kernel
theorem dX5_readRowers_57 : decode cX5_readRowers 57 = .ok (.aload_n 0, 1) := by decide +kernel
theorem dX5_readRowers_58 : decode cX5_readRowers 58 = .ok (.getfield 21, 3) := by decide +kernel
theorem dX5_readRowers_61 : decode cX5_readRowers 61 = .ok (.invokevirtual 41, 3) := by decide +kernel
theorem dX5_readRowers_64 : decode cX5_readRowers 64 = .ok (.iconst 1, 1) := by decide +kernel
theorem dX5_readRowers_65 : decode cX5_readRowers 65 = .ok (.ireturn, 1) := by decide +kernel
theorem dX5_readBound_0 : decode cX5_readBound 0 = .ok (.aload_n 0, 1) := by decide +kernel
theorem dX5_readBound_1 : decode cX5_readBound 1 = .ok (.getfield 21, 3) := by decide +kernel
theorem dX5_readBound_4 : decode cX5_readBound 4 = .ok (.invokevirtual 41, 3) := by decide +kernel
theorem dX5_readBound_7 : decode cX5_readBound 7 = .ok (.aload_n 0, 1) := by decide +kernel
theorem dX5_readBound_8 : decode cX5_readBound 8 = .ok (.getfield 21, 3) := by decide +kernel
theorem dX5_readBound_11 : decode cX5_readBound 11 = .ok (.getfield 44, 3) := by decide +kernel
theorem dX5_readBound_14 : decode cX5_readBound 14 = .ok (.iconst 1, 1) := by decide +kernel
theorem dX5_readBound_15 : decode cX5_readBound 15 = .ok (.if_icmp .eq 9, 3) := by decide +kernel
theorem dX5_readBound_18 : decode cX5_readBound 18 = .ok (.aload_n 0, 1) := by decide +kernel
theorem dX5_readBound_19 : decode cX5_readBound 19 = .ok (.iconst 1, 1) := by decide +kernel
theorem dX5_readBound_20 : decode cX5_readBound 20 = .ok (.invokevirtual 57, 3) := by decide +kernel
theorem dX5_readBound_23 : decode cX5_readBound 23 = .ok (.ireturn, 1) := by decide +kernel
theorem dX5_readBound_24 : decode cX5_readBound 24 = .ok (.aload_n 0, 1) := by decide +kernel
theorem dX5_readBound_25 : decode cX5_readBound 25 = .ok (.getfield 21, 3) := by decide +kernel
theorem dX5_readBound_28 : decode cX5_readBound 28 = .ok (.getfield 64, 3) := by decide +kernel
theorem dX5_readBound_31 : decode cX5_readBound 31 = .ok (.invokestatic 74, 3) := by decide +kernel
theorem dX5_readBound_34 : decode cX5_readBound 34 = .ok (.ifCond .ne 9, 3) := by decide +kernel
theorem dX5_readBound_37 : decode cX5_readBound 37 = .ok (.aload_n 0, 1) := by decide +kernel
theorem dX5_readBound_38 : decode cX5_readBound 38 = .ok (.iconst 2, 1) := by decide +kernel
theorem dX5_readBound_39 : decode cX5_readBound 39 = .ok (.invokevirtual 57, 3) := by decide +kernel
theorem dX5_readBound_42 : decode cX5_readBound 42 = .ok (.ireturn, 1) := by decide +kernel
theorem dX5_readBound_43 : decode cX5_readBound 43 = .ok (.aload_n 0, 1) := by decide +kernel
theorem dX5_readBound_44 : decode cX5_readBound 44 = .ok (.getfield 28, 3) := by decide +kernel
theorem dX5_readBound_47 : decode cX5_readBound 47 = .ok (.aload_n 0, 1) := by decide +kernel
theorem dX5_readBound_48 : decode cX5_readBound 48 = .ok (.getfield 21, 3) := by decide +kernel
theorem dX5_readBound_51 : decode cX5_readBound 51 = .ok (.getfield 64, 3) := by decide +kernel
theorem dX5_readBound_54 : decode cX5_readBound 54 = .ok (.putfield 77, 3) := by decide +kernel
theorem dX5_readBound_57 : decode cX5_readBound 57 = .ok (.aload_n 0, 1) := by decide +kernel
theorem dX5_readBound_58 : decode cX5_readBound 58 = .ok (.getfield 21, 3) := by decide +kernel
theorem dX5_readBound_61 : decode cX5_readBound 61 = .ok (.invokevirtual 41, 3) := by decide +kernel
theorem dX5_readBound_64 : decode cX5_readBound 64 = .ok (.iconst 1, 1) := by decide +kernel
theorem dX5_readBound_65 : decode cX5_readBound 65 = .ok (.ireturn, 1) := by decide +kernel
theorem dX5_readRace_0 : decode cX5_readRace 0 = .ok (.aload_n 0, 1) := by decide +kernel
theorem dX5_readRace_1 : decode cX5_readRace 1 = .ok (.getfield 28, 3) := by decide +kernel
theorem dX5_readRace_4 : decode cX5_readRace 4 = .ok (.invokevirtual 80, 3) := by decide +kernel
theorem dX5_readRace_7 : decode cX5_readRace 7 = .ok (.ifCond .eq 9, 3) := by decide +kernel
theorem dX5_readRace_10 : decode cX5_readRace 10 = .ok (.aload_n 0, 1) := by decide +kernel
theorem dX5_readRace_11 : decode cX5_readRace 11 = .ok (.iconst 4, 1) := by decide +kernel
theorem dX5_readRace_12 : decode cX5_readRace 12 = .ok (.invokevirtual 57, 3) := by decide +kernel
theorem dX5_readRace_15 : decode cX5_readRace 15 = .ok (.ireturn, 1) := by decide +kernel
theorem dX5_readRace_16 : decode cX5_readRace 16 = .ok (.aload_n 0, 1) := by decide +kernel
theorem dX5_readRace_17 : decode cX5_readRace 17 = .ok (.getfield 21, 3) := by decide +kernel
theorem dX5_readRace_20 : decode cX5_readRace 20 = .ok (.invokevirtual 41, 3) := by decide +kernel
theorem dX5_readRace_23 : decode cX5_readRace 23 = .ok (.aload_n 0, 1) := by decide +kernel
theorem dX5_readRace_24 : decode cX5_readRace 24 = .ok (.iconst 0, 1) := by decide +kernel
theorem dX5_readRace_25 : decode cX5_readRace 25 = .ok (.putfield 32, 3) := by decide +kernel
theorem dX5_readRace_28 : decode cX5_readRace 28 = .ok (.aload_n 0, 1) := by decide +kernel
theorem dX5_readRace_29 : decode cX5_readRace 29 = .ok (.iconst 0, 1) := by decide +kernel
theorem dX5_readRace_30 : decode cX5_readRace 30 = .ok (.putfield 35, 3) := by decide +kernel
theorem dX5_readRace_33 : decode cX5_readRace 33 = .ok (.aload_n 0, 1) := by decide +kernel
theorem dX5_readRace_34 : decode cX5_readRace 34 = .ok (.iconst 1, 1) := by decide +kernel
theorem dX5_readRace_35 : decode cX5_readRace 35 = .ok (.invokevirtual 83, 3) := by decide +kernel
theorem dX5_readRace_38 : decode cX5_readRace 38 = .ok (.ifCond .ne 5, 3) := by decide +kernel
theorem dX5_readRace_41 : decode cX5_readRace 41 = .ok (.iconst 0, 1) := by decide +kernel
theorem dX5_readRace_42 : decode cX5_readRace 42 = .ok (.ireturn, 1) := by decide +kernel
theorem dX5_readRace_43 : decode cX5_readRace 43 = .ok (.aload_n 0, 1) := by decide +kernel
theorem dX5_readRace_44 : decode cX5_readRace 44 = .ok (.getfield 21, 3) := by decide +kernel
theorem dX5_readRace_47 : decode cX5_readRace 47 = .ok (.getfield 44, 3) := by decide +kernel
theorem dX5_readRace_50 : decode cX5_readRace 50 = .ok (.iconst 3, 1) := by decide +kernel
theorem dX5_readRace_51 : decode cX5_readRace 51 = .ok (.if_icmp .eq 9, 3) := by decide +kernel
theorem dX5_readRace_54 : decode cX5_readRace 54 = .ok (.aload_n 0, 1) := by decide +kernel
theorem dX5_readRace_55 : decode cX5_readRace 55 = .ok (.iconst 1, 1) := by decide +kernel
theorem dX5_readRace_56 : decode cX5_readRace 56 = .ok (.invokevirtual 57, 3) := by decide +kernel
theorem dX5_readRace_59 : decode cX5_readRace 59 = .ok (.ireturn, 1) := by decide +kernel
theorem dX5_readRace_60 : decode cX5_readRace 60 = .ok (.aload_n 0, 1) := by decide +kernel
theorem dX5_readRace_61 : decode cX5_readRace 61 = .ok (.getfield 21, 3) := by decide +kernel
theorem dX5_readRace_64 : decode cX5_readRace 64 = .ok (.invokevirtual 41, 3) := by decide +kernel
theorem dX5_readRace_67 : decode cX5_readRace 67 = .ok (.aload_n 0, 1) := by decide +kernel
theorem dX5_readRace_68 : decode cX5_readRace 68 = .ok (.iconst 0, 1) := by decide +kernel
theorem dX5_readRace_69 : decode cX5_readRace 69 = .ok (.invokevirtual 83, 3) := by decide +kernel
theorem dX5_readRace_72 : decode cX5_readRace 72 = .ok (.ifCond .ne 5, 3) := by decide +kernel
theorem dX5_readRace_75 : decode cX5_readRace 75 = .ok (.iconst 0, 1) := by decide +kernel
theorem dX5_readRace_76 : decode cX5_readRace 76 = .ok (.ireturn, 1) := by decide +kernel
theorem dX5_readRace_77 : decode cX5_readRace 77 = .ok (.aload_n 0, 1) := by decide +kernel
theorem dX5_readRace_78 : decode cX5_readRace 78 = .ok (.getfield 21, 3) := by decide +kernel
theorem dX5_readRace_81 : decode cX5_readRace 81 = .ok (.getfield 44, 3) := by decide +kernel
theorem dX5_readRace_84 : decode cX5_readRace 84 = .ok (.bipush 7, 2) := by decide +kernel
theorem dX5_readRace_86 : decode cX5_readRace 86 = .ok (.if_icmp .eq 9, 3) := by decide +kernel
theorem dX5_readRace_89 : decode cX5_readRace 89 = .ok (.aload_n 0, 1) := by decide +kernel
theorem dX5_readRace_90 : decode cX5_readRace 90 = .ok (.iconst 1, 1) := by decide +kernel
theorem dX5_readRace_91 : decode cX5_readRace 91 = .ok (.invokevirtual 57, 3) := by decide +kernel
theorem dX5_readRace_94 : decode cX5_readRace 94 = .ok (.ireturn, 1) := by decide +kernel
theorem dX5_readRace_95 : decode cX5_readRace 95 = .ok (.aload_n 0, 1) := by decide +kernel
theorem dX5_readRace_96 : decode cX5_readRace 96 = .ok (.getfield 35, 3) := by decide +kernel
theorem dX5_readRace_99 : decode cX5_readRace 99 = .ok (.invokestatic 87, 3) := by decide +kernel
theorem dX5_readRace_102 : decode cX5_readRace 102 = .ok (.aload_n 0, 1) := by decide +kernel
theorem dX5_readRace_103 : decode cX5_readRace 103 = .ok (.getfield 32, 3) := by decide +kernel
theorem dX5_readRace_106 : decode cX5_readRace 106 = .ok (.invokestatic 87, 3) := by decide +kernel
theorem dX5_readRace_109 : decode cX5_readRace 109 = .ok (.if_icmp .ge 9, 3) := by decide +kernel
theorem dX5_readRace_112 : decode cX5_readRace 112 = .ok (.aload_n 0, 1) := by decide +kernel
theorem dX5_readRace_113 : decode cX5_readRace 113 = .ok (.iconst 4, 1) := by decide +kernel
theorem dX5_readRace_114 : decode cX5_readRace 114 = .ok (.invokevirtual 57, 3) := by decide +kernel
theorem dX5_readRace_117 : decode cX5_readRace 117 = .ok (.ireturn, 1) := by decide +kernel
theorem dX5_readRace_118 : decode cX5_readRace 118 = .ok (.aload_n 0, 1) := by decide +kernel
theorem dX5_readRace_119 : decode cX5_readRace 119 = .ok (.getfield 21, 3) := by decide +kernel
theorem dX5_readRace_122 : decode cX5_readRace 122 = .ok (.invokevirtual 41, 3) := by decide +kernel
theorem dX5_readRace_125 : decode cX5_readRace 125 = .ok (.aload_n 0, 1) := by decide +kernel
theorem dX5_readRace_126 : decode cX5_readRace 126 = .ok (.invokevirtual 93, 3) := by decide +kernel
theorem dX5_readRace_129 : decode cX5_readRace 129 = .ok (.ireturn, 1) := by decide +kernel
theorem dX5_readCrew_0 : decode cX5_readCrew 0 = .ok (.aload_n 0, 1) := by decide +kernel
theorem dX5_readCrew_1 : decode cX5_readCrew 1 = .ok (.getfield 21, 3) := by decide +kernel
theorem dX5_readCrew_4 : decode cX5_readCrew 4 = .ok (.getfield 44, 3) := by decide +kernel
theorem dX5_readCrew_7 : decode cX5_readCrew 7 = .ok (.iconst 1, 1) := by decide +kernel
theorem dX5_readCrew_8 : decode cX5_readCrew 8 = .ok (.if_icmp .eq 9, 3) := by decide +kernel
theorem dX5_readCrew_11 : decode cX5_readCrew 11 = .ok (.aload_n 0, 1) := by decide +kernel
theorem dX5_readCrew_12 : decode cX5_readCrew 12 = .ok (.iconst 1, 1) := by decide +kernel
theorem dX5_readCrew_13 : decode cX5_readCrew 13 = .ok (.invokevirtual 57, 3) := by decide +kernel
theorem dX5_readCrew_16 : decode cX5_readCrew 16 = .ok (.ireturn, 1) := by decide +kernel
theorem dX5_readCrew_17 : decode cX5_readCrew 17 = .ok (.iload_n 1, 1) := by decide +kernel
theorem dX5_readCrew_18 : decode cX5_readCrew 18 = .ok (.ifCond .eq 7, 3) := by decide +kernel
theorem dX5_readCrew_21 : decode cX5_readCrew 21 = .ok (.iconst 3, 1) := by decide +kernel
theorem dX5_readCrew_22 : decode cX5_readCrew 22 = .ok (.goto 10, 3) := by decide +kernel
theorem dX5_readCrew_25 : decode cX5_readCrew 25 = .ok (.aload_n 0, 1) := by decide +kernel
theorem dX5_readCrew_26 : decode cX5_readCrew 26 = .ok (.getfield 32, 3) := by decide +kernel
theorem dX5_readCrew_29 : decode cX5_readCrew 29 = .ok (.invokestatic 87, 3) := by decide +kernel
theorem dX5_readCrew_32 : decode cX5_readCrew 32 = .ok (.istore_n 2, 1) := by decide +kernel
theorem dX5_readCrew_33 : decode cX5_readCrew 33 = .ok (.iconst 0, 1) := by decide +kernel
theorem dX5_readCrew_34 : decode cX5_readCrew 34 = .ok (.istore_n 3, 1) := by decide +kernel
theorem dX5_readCrew_35 : decode cX5_readCrew 35 = .ok (.iload_n 3, 1) := by decide +kernel
theorem dX5_readCrew_36 : decode cX5_readCrew 36 = .ok (.iload_n 2, 1) := by decide +kernel
theorem dX5_readCrew_37 : decode cX5_readCrew 37 = .ok (.if_icmp .gt 122, 3) := by decide +kernel
theorem dX5_readCrew_40 : decode cX5_readCrew 40 = .ok (.aload_n 0, 1) := by decide +kernel
theorem dX5_readCrew_41 : decode cX5_readCrew 41 = .ok (.getfield 21, 3) := by decide +kernel
theorem dX5_readCrew_44 : decode cX5_readCrew 44 = .ok (.getfield 44, 3) := by decide +kernel
theorem dX5_readCrew_47 : decode cX5_readCrew 47 = .ok (.iconst 1, 1) := by decide +kernel
theorem dX5_readCrew_48 : decode cX5_readCrew 48 = .ok (.if_icmp .ne 111, 3) := by decide +kernel
theorem dX5_readCrew_51 : decode cX5_readCrew 51 = .ok (.aload_n 0, 1) := by decide +kernel
theorem dX5_readCrew_52 : decode cX5_readCrew 52 = .ok (.getfield 28, 3) := by decide +kernel
theorem dX5_readCrew_55 : decode cX5_readCrew 55 = .ok (.aload_n 0, 1) := by decide +kernel
theorem dX5_readCrew_56 : decode cX5_readCrew 56 = .ok (.getfield 21, 3) := by decide +kernel
theorem dX5_readCrew_59 : decode cX5_readCrew 59 = .ok (.getfield 64, 3) := by decide +kernel
theorem dX5_readCrew_62 : decode cX5_readCrew 62 = .ok (.invokevirtual 96, 3) := by decide +kernel
theorem dX5_readCrew_65 : decode cX5_readCrew 65 = .ok (.ifCond .ne 9, 3) := by decide +kernel
theorem dX5_readCrew_68 : decode cX5_readCrew 68 = .ok (.aload_n 0, 1) := by decide +kernel
theorem dX5_readCrew_69 : decode cX5_readCrew 69 = .ok (.iconst 2, 1) := by decide +kernel
theorem dX5_readCrew_70 : decode cX5_readCrew 70 = .ok (.invokevirtual 57, 3) := by decide +kernel
theorem dX5_readCrew_73 : decode cX5_readCrew 73 = .ok (.ireturn, 1) := by decide +kernel
theorem dX5_readCrew_74 : decode cX5_readCrew 74 = .ok (.iconst 1, 1) := by decide +kernel
theorem dX5_readCrew_75 : decode cX5_readCrew 75 = .ok (.aload_n 0, 1) := by decide +kernel
theorem dX5_readCrew_76 : decode cX5_readCrew 76 = .ok (.getfield 21, 3) := by decide +kernel
theorem dX5_readCrew_79 : decode cX5_readCrew 79 = .ok (.getfield 64, 3) := by decide +kernel
theorem dX5_readCrew_82 : decode cX5_readCrew 82 = .ok (.ishl, 1) := by decide +kernel
theorem dX5_readCrew_83 : decode cX5_readCrew 83 = .ok (.istore 4, 2) := by decide +kernel
theorem dX5_readCrew_85 : decode cX5_readCrew 85 = .ok (.aload_n 0, 1) := by decide +kernel
theorem dX5_readCrew_86 : decode cX5_readCrew 86 = .ok (.getfield 32, 3) := by decide +kernel
theorem dX5_readCrew_89 : decode cX5_readCrew 89 = .ok (.aload_n 0, 1) := by decide +kernel
theorem dX5_readCrew_90 : decode cX5_readCrew 90 = .ok (.getfield 35, 3) := by decide +kernel
theorem dX5_readCrew_93 : decode cX5_readCrew 93 = .ok (.ior, 1) := by decide +kernel
theorem dX5_readCrew_94 : decode cX5_readCrew 94 = .ok (.iload 4, 2) := by decide +kernel
theorem dX5_readCrew_96 : decode cX5_readCrew 96 = .ok (.iand, 1) := by decide +kernel
theorem dX5_readCrew_97 : decode cX5_readCrew 97 = .ok (.ifCond .eq 9, 3) := by decide +kernel
theorem dX5_readCrew_100 : decode cX5_readCrew 100 = .ok (.aload_n 0, 1) := by decide +kernel
theorem dX5_readCrew_101 : decode cX5_readCrew 101 = .ok (.iconst 3, 1) := by decide +kernel
theorem dX5_readCrew_102 : decode cX5_readCrew 102 = .ok (.invokevirtual 57, 3) := by decide +kernel
theorem dX5_readCrew_105 : decode cX5_readCrew 105 = .ok (.ireturn, 1) := by decide +kernel
theorem dX5_readCrew_106 : decode cX5_readCrew 106 = .ok (.iload_n 3, 1) := by decide +kernel
theorem dX5_readCrew_107 : decode cX5_readCrew 107 = .ok (.iload_n 2, 1) := by decide +kernel
theorem dX5_readCrew_108 : decode cX5_readCrew 108 = .ok (.if_icmp .ne 9, 3) := by decide +kernel
theorem dX5_readCrew_111 : decode cX5_readCrew 111 = .ok (.aload_n 0, 1) := by decide +kernel
theorem dX5_readCrew_112 : decode cX5_readCrew 112 = .ok (.iconst 4, 1) := by decide +kernel
theorem dX5_readCrew_113 : decode cX5_readCrew 113 = .ok (.invokevirtual 57, 3) := by decide +kernel
theorem dX5_readCrew_116 : decode cX5_readCrew 116 = .ok (.ireturn, 1) := by decide +kernel
theorem dX5_readCrew_117 : decode cX5_readCrew 117 = .ok (.iload_n 1, 1) := by decide +kernel
theorem dX5_readCrew_118 : decode cX5_readCrew 118 = .ok (.ifCond .eq 17, 3) := by decide +kernel
theorem dX5_readCrew_121 : decode cX5_readCrew 121 = .ok (.aload_n 0, 1) := by decide +kernel
theorem dX5_readCrew_122 : decode cX5_readCrew 122 = .ok (.dup, 1) := by decide +kernel
theorem dX5_readCrew_123 : decode cX5_readCrew 123 = .ok (.getfield 32, 3) := by decide +kernel
theorem dX5_readCrew_126 : decode cX5_readCrew 126 = .ok (.iload 4, 2) := by decide +kernel
theorem dX5_readCrew_128 : decode cX5_readCrew 128 = .ok (.ior, 1) := by decide +kernel
theorem dX5_readCrew_129 : decode cX5_readCrew 129 = .ok (.putfield 32, 3) := by decide +kernel
theorem dX5_readCrew_132 : decode cX5_readCrew 132 = .ok (.goto 14, 3) := by decide +kernel
theorem dX5_readCrew_135 : decode cX5_readCrew 135 = .ok (.aload_n 0, 1) := by decide +kernel
theorem dX5_readCrew_136 : decode cX5_readCrew 136 = .ok (.dup, 1) := by decide +kernel
theorem dX5_readCrew_137 : decode cX5_readCrew 137 = .ok (.getfield 35, 3) := by decide +kernel
theorem dX5_readCrew_140 : decode cX5_readCrew 140 = .ok (.iload 4, 2) := by decide +kernel
theorem dX5_readCrew_142 : decode cX5_readCrew 142 = .ok (.ior, 1) := by decide +kernel
theorem dX5_readCrew_143 : decode cX5_readCrew 143 = .ok (.putfield 35, 3) := by decide +kernel
theorem dX5_readCrew_146 : decode cX5_readCrew 146 = .ok (.aload_n 0, 1) := by decide +kernel
theorem dX5_readCrew_147 : decode cX5_readCrew 147 = .ok (.getfield 21, 3) := by decide +kernel
theorem dX5_readCrew_150 : decode cX5_readCrew 150 = .ok (.invokevirtual 41, 3) := by decide +kernel
theorem dX5_readCrew_153 : decode cX5_readCrew 153 = .ok (.iinc 3 1, 3) := by decide +kernel
theorem dX5_readCrew_156 : decode cX5_readCrew 156 = .ok (.goto (-121), 3) := by decide +kernel
theorem dX5_readCrew_159 : decode cX5_readCrew 159 = .ok (.iconst 1, 1) := by decide +kernel
theorem dX5_readCrew_160 : decode cX5_readCrew 160 = .ok (.ireturn, 1) := by decide +kernel
theorem dX5_readMargin_0 : decode cX5_readMargin 0 = .ok (.aload_n 0, 1) := by decide +kernel
theorem dX5_readMargin_1 : decode cX5_readMargin 1 = .ok (.getfield 21, 3) := by decide +kernel
theorem dX5_readMargin_4 : decode cX5_readMargin 4 = .ok (.getfield 44, 3) := by decide +kernel
theorem dX5_readMargin_7 : decode cX5_readMargin 7 = .ok (.iconst 1, 1) := by decide +kernel
theorem dX5_readMargin_8 : decode cX5_readMargin 8 = .ok (.if_icmp .eq 9, 3) := by decide +kernel
theorem dX5_readMargin_11 : decode cX5_readMargin 11 = .ok (.aload_n 0, 1) := by decide +kernel
theorem dX5_readMargin_12 : decode cX5_readMargin 12 = .ok (.iconst 1, 1) := by decide +kernel
theorem dX5_readMargin_13 : decode cX5_readMargin 13 = .ok (.invokevirtual 57, 3) := by decide +kernel
theorem dX5_readMargin_16 : decode cX5_readMargin 16 = .ok (.ireturn, 1) := by decide +kernel
theorem dX5_readMargin_17 : decode cX5_readMargin 17 = .ok (.aload_n 0, 1) := by decide +kernel
theorem dX5_readMargin_18 : decode cX5_readMargin 18 = .ok (.getfield 21, 3) := by decide +kernel
theorem dX5_readMargin_21 : decode cX5_readMargin 21 = .ok (.getfield 64, 3) := by decide +kernel
theorem dX5_readMargin_24 : decode cX5_readMargin 24 = .ok (.istore_n 1, 1) := by decide +kernel
theorem dX5_readMargin_25 : decode cX5_readMargin 25 = .ok (.aload_n 0, 1) := by decide +kernel
theorem dX5_readMargin_26 : decode cX5_readMargin 26 = .ok (.getfield 21, 3) := by decide +kernel
theorem dX5_readMargin_29 : decode cX5_readMargin 29 = .ok (.invokevirtual 41, 3) := by decide +kernel
theorem dX5_readMargin_32 : decode cX5_readMargin 32 = .ok (.aload_n 0, 1) := by decide +kernel
theorem dX5_readMargin_33 : decode cX5_readMargin 33 = .ok (.getfield 21, 3) := by decide +kernel
theorem dX5_readMargin_36 : decode cX5_readMargin 36 = .ok (.getfield 44, 3) := by decide +kernel
theorem dX5_readMargin_39 : decode cX5_readMargin 39 = .ok (.bipush 8, 2) := by decide +kernel
theorem dX5_readMargin_41 : decode cX5_readMargin 41 = .ok (.if_icmp .ne 7, 3) := by decide +kernel
theorem dX5_readMargin_44 : decode cX5_readMargin 44 = .ok (.iconst 1, 1) := by decide +kernel
theorem dX5_readMargin_45 : decode cX5_readMargin 45 = .ok (.goto 20, 3) := by decide +kernel
theorem dX5_readMargin_48 : decode cX5_readMargin 48 = .ok (.aload_n 0, 1) := by decide +kernel
theorem dX5_readMargin_49 : decode cX5_readMargin 49 = .ok (.getfield 21, 3) := by decide +kernel
theorem dX5_readMargin_52 : decode cX5_readMargin 52 = .ok (.getfield 44, 3) := by decide +kernel
theorem dX5_readMargin_55 : decode cX5_readMargin 55 = .ok (.bipush 9, 2) := by decide +kernel
theorem dX5_readMargin_57 : decode cX5_readMargin 57 = .ok (.if_icmp .ne 7, 3) := by decide +kernel
theorem dX5_readMargin_60 : decode cX5_readMargin 60 = .ok (.iconst (-1), 1) := by decide +kernel
theorem dX5_readMargin_61 : decode cX5_readMargin 61 = .ok (.goto 4, 3) := by decide +kernel
theorem dX5_readMargin_64 : decode cX5_readMargin 64 = .ok (.iconst 0, 1) := by decide +kernel
theorem dX5_readMargin_65 : decode cX5_readMargin 65 = .ok (.istore_n 2, 1) := by decide +kernel
theorem dX5_readMargin_66 : decode cX5_readMargin 66 = .ok (.iload_n 2, 1) := by decide +kernel
theorem dX5_readMargin_67 : decode cX5_readMargin 67 = .ok (.ifCond .eq 10, 3) := by decide +kernel
theorem dX5_readMargin_70 : decode cX5_readMargin 70 = .ok (.aload_n 0, 1) := by decide +kernel
theorem dX5_readMargin_71 : decode cX5_readMargin 71 = .ok (.getfield 21, 3) := by decide +kernel
theorem dX5_readMargin_74 : decode cX5_readMargin 74 = .ok (.invokevirtual 41, 3) := by decide +kernel
theorem dX5_readMargin_77 : decode cX5_readMargin 77 = .ok (.aload_n 0, 1) := by decide +kernel
theorem dX5_readMargin_78 : decode cX5_readMargin 78 = .ok (.getfield 28, 3) := by decide +kernel
theorem dX5_readMargin_81 : decode cX5_readMargin 81 = .ok (.aload_n 0, 1) := by decide +kernel
theorem dX5_readMargin_82 : decode cX5_readMargin 82 = .ok (.getfield 32, 3) := by decide +kernel
theorem dX5_readMargin_85 : decode cX5_readMargin 85 = .ok (.aload_n 0, 1) := by decide +kernel
theorem dX5_readMargin_86 : decode cX5_readMargin 86 = .ok (.getfield 35, 3) := by decide +kernel
theorem dX5_readMargin_89 : decode cX5_readMargin 89 = .ok (.iload_n 1, 1) := by decide +kernel
theorem dX5_readMargin_90 : decode cX5_readMargin 90 = .ok (.iload_n 2, 1) := by decide +kernel
theorem dX5_readMargin_91 : decode cX5_readMargin 91 = .ok (.invokevirtual 99, 3) := by decide +kernel
theorem dX5_readMargin_94 : decode cX5_readMargin 94 = .ok (.iconst 1, 1) := by decide +kernel
theorem dX5_readMargin_95 : decode cX5_readMargin 95 = .ok (.ireturn, 1) := by decide +kernel
end
section
theorem dX6_init_0 : decode cX6_init 0 = .ok (.aload_n 0, 1) := by decide +kernel
theorem dX6_init_1 : decode cX6_init 1 = .ok (.invokespecial 1, 3) := by decide +kernel
theorem dX6_init_4 : decode cX6_init 4 = .ok (.aload_n 0, 1) := by decide +kernel
theorem dX6_init_5 : decode cX6_init 5 = .ok (.new 7, 3) := by decide +kernel
theorem dX6_init_8 : decode cX6_init 8 = .ok (.dup, 1) := by decide +kernel
theorem dX6_init_9 : decode cX6_init 9 = .ok (.invokespecial 9, 3) := by decide +kernel
theorem dX6_init_12 : decode cX6_init 12 = .ok (.putfield 10, 3) := by decide +kernel
theorem dX6_init_15 : decode cX6_init 15 = .ok (.aload_n 0, 1) := by decide +kernel
theorem dX6_init_16 : decode cX6_init 16 = .ok (.new 16, 3) := by decide +kernel
theorem dX6_init_19 : decode cX6_init 19 = .ok (.dup, 1) := by decide +kernel
theorem dX6_init_20 : decode cX6_init 20 = .ok (.invokespecial 18, 3) := by decide +kernel
theorem dX6_init_23 : decode cX6_init 23 = .ok (.putfield 19, 3) := by decide +kernel
theorem dX6_init_26 : decode cX6_init 26 = .ok (.aload_n 0, 1) := by decide +kernel
theorem dX6_init_27 : decode cX6_init 27 = .ok (.new 23, 3) := by decide +kernel
theorem dX6_init_30 : decode cX6_init 30 = .ok (.dup, 1) := by decide +kernel
theorem dX6_init_31 : decode cX6_init 31 = .ok (.invokespecial 25, 3) := by decide +kernel
theorem dX6_init_34 : decode cX6_init 34 = .ok (.putfield 26, 3) := by decide +kernel
theorem dX6_init_37 : decode cX6_init 37 = .ok (.aload_n 0, 1) := by decide +kernel
theorem dX6_init_38 : decode cX6_init 38 = .ok (.new 23, 3) := by decide +kernel
theorem dX6_init_41 : decode cX6_init 41 = .ok (.dup, 1) := by decide +kernel
theorem dX6_init_42 : decode cX6_init 42 = .ok (.invokespecial 25, 3) := by decide +kernel
theorem dX6_init_45 : decode cX6_init 45 = .ok (.putfield 30, 3) := by decide +kernel
theorem dX6_init_48 : decode cX6_init 48 = .ok (.aload_n 0, 1) := by decide +kernel
theorem dX6_init_49 : decode cX6_init 49 = .ok (.new 33, 3) := by decide +kernel
theorem dX6_init_52 : decode cX6_init 52 = .ok (.dup, 1) := by decide +kernel
theorem dX6_init_53 : decode cX6_init 53 = .ok (.invokespecial 35, 3) := by decide +kernel
theorem dX6_init_56 : decode cX6_init 56 = .ok (.putfield 36, 3) := by decide +kernel
theorem dX6_init_59 : decode cX6_init 59 = .ok (.aload_n 0, 1) := by decide +kernel
theorem dX6_init_60 : decode cX6_init 60 = .ok (.new 33, 3) := by decide +kernel
theorem dX6_init_63 : decode cX6_init 63 = .ok (.dup, 1) := by decide +kernel
theorem dX6_init_64 : decode cX6_init 64 = .ok (.invokespecial 35, 3) := by decide +kernel
theorem dX6_init_67 : decode cX6_init 67 = .ok (.putfield 40, 3) := by decide +kernel
theorem dX6_init_70 : decode cX6_init 70 = .ok (.aload_n 0, 1) := by decide +kernel
theorem dX6_init_71 : decode cX6_init 71 = .ok (.new 33, 3) := by decide +kernel
theorem dX6_init_74 : decode cX6_init 74 = .ok (.dup, 1) := by decide +kernel
theorem dX6_init_75 : decode cX6_init 75 = .ok (.invokespecial 35, 3) := by decide +kernel
theorem dX6_init_78 : decode cX6_init 78 = .ok (.putfield 43, 3) := by decide +kernel
theorem dX6_init_81 : decode cX6_init 81 = .ok (.aload_n 0, 1) := by decide +kernel
theorem dX6_init_82 : decode cX6_init 82 = .ok (.new 46, 3) := by decide +kernel
theorem dX6_init_85 : decode cX6_init 85 = .ok (.dup, 1) := by decide +kernel
theorem dX6_init_86 : decode cX6_init 86 = .ok (.invokespecial 48, 3) := by decide +kernel
theorem dX6_init_89 : decode cX6_init 89 = .ok (.putfield 49, 3) := by decide +kernel
theorem dX6_init_92 : decode cX6_init 92 = .ok (.aload_n 0, 1) := by decide +kernel
theorem dX6_init_93 : decode cX6_init 93 = .ok (.bipush 45, 2) := by decide +kernel
theorem dX6_init_95 : decode cX6_init 95 = .ok (.newarray .int, 2) := by decide +kernel
theorem dX6_init_97 : decode cX6_init 97 = .ok (.putfield 53, 3) := by decide +kernel
theorem dX6_init_100 : decode cX6_init 100 = .ok (.aload_n 0, 1) := by decide +kernel
theorem dX6_init_101 : decode cX6_init 101 = .ok (.bipush 45, 2) := by decide +kernel
theorem dX6_init_103 : decode cX6_init 103 = .ok (.newarray .int, 2) := by decide +kernel
theorem dX6_init_105 : decode cX6_init 105 = .ok (.putfield 57, 3) := by decide +kernel
theorem dX6_init_108 : decode cX6_init 108 = .ok (.aload_n 0, 1) := by decide +kernel
theorem dX6_init_109 : decode cX6_init 109 = .ok (.iconst 0, 1) := by decide +kernel
theorem dX6_init_110 : decode cX6_init 110 = .ok (.putfield 60, 3) := by decide +kernel
theorem dX6_init_113 : decode cX6_init 113 = .ok (.aload_n 0, 1) := by decide +kernel
theorem dX6_init_114 : decode cX6_init 114 = .ok (.iconst (-1), 1) := by decide +kernel
theorem dX6_init_115 : decode cX6_init 115 = .ok (.putfield 64, 3) := by decide +kernel
theorem dX6_init_118 : decode cX6_init 118 = .ok (.return_, 1) := by decide +kernel
theorem dX6_feed_0 : decode cX6_feed 0 = .ok (.aload_n 0, 1) := by decide +kernel
theorem dX6_feed_1 : decode cX6_feed 1 = .ok (.getfield 19, 3) := by decide +kernel
theorem dX6_feed_4 : decode cX6_feed 4 = .ok (.getfield 67, 3) := by decide +kernel
theorem dX6_feed_7 : decode cX6_feed 7 = .ok (.astore 6, 2) := by decide +kernel
theorem dX6_feed_9 : decode cX6_feed 9 = .ok (.aload 6, 2) := by decide +kernel
theorem dX6_feed_11 : decode cX6_feed 11 = .ok (.getfield 71, 3) := by decide +kernel
theorem dX6_feed_14 : decode cX6_feed 14 = .ok (.sipush 280, 3) := by decide +kernel
theorem dX6_feed_17 : decode cX6_feed 17 = .ok (.if_icmp .le 5, 3) := by decide +kernel
theorem dX6_feed_20 : decode cX6_feed 20 = .ok (.iconst (-1), 1) := by decide +kernel
theorem dX6_feed_21 : decode cX6_feed 21 = .ok (.ireturn, 1) := by decide +kernel
theorem dX6_feed_22 : decode cX6_feed 22 = .ok (.aload 6, 2) := by decide +kernel
theorem dX6_feed_24 : decode cX6_feed 24 = .ok (.iload_n 1, 1) := by decide +kernel
theorem dX6_feed_25 : decode cX6_feed 25 = .ok (.invokevirtual 76, 3) := by decide +kernel
theorem dX6_feed_28 : decode cX6_feed 28 = .ok (.aload 6, 2) := by decide +kernel
theorem dX6_feed_30 : decode cX6_feed 30 = .ok (.iload_n 2, 1) := by decide +kernel
theorem dX6_feed_31 : decode cX6_feed 31 = .ok (.invokevirtual 76, 3) := by decide +kernel
theorem dX6_feed_34 : decode cX6_feed 34 = .ok (.aload 6, 2) := by decide +kernel
theorem dX6_feed_36 : decode cX6_feed 36 = .ok (.iload_n 3, 1) := by decide +kernel
theorem dX6_feed_37 : decode cX6_feed 37 = .ok (.invokevirtual 76, 3) := by decide +kernel
theorem dX6_feed_40 : decode cX6_feed 40 = .ok (.aload 6, 2) := by decide +kernel
theorem dX6_feed_42 : decode cX6_feed 42 = .ok (.iload 4, 2) := by decide +kernel
theorem dX6_feed_44 : decode cX6_feed 44 = .ok (.invokevirtual 76, 3) := by decide +kernel
theorem dX6_feed_47 : decode cX6_feed 47 = .ok (.aload 6, 2) := by decide +kernel
theorem dX6_feed_49 : decode cX6_feed 49 = .ok (.iload 5, 2) := by decide +kernel
theorem dX6_feed_51 : decode cX6_feed 51 = .ok (.invokevirtual 76, 3) := by decide +kernel
theorem dX6_feed_54 : decode cX6_feed 54 = .ok (.aload 6, 2) := by decide +kernel
theorem dX6_feed_56 : decode cX6_feed 56 = .ok (.getfield 71, 3) := by decide +kernel
theorem dX6_feed_59 : decode cX6_feed 59 = .ok (.ireturn, 1) := by decide +kernel
theorem dX6_end_0 : decode cX6_end 0 = .ok (.iload_n 1, 1) := by decide +kernel
theorem dX6_end_1 : decode cX6_end 1 = .ok (.ifCond .lt 17, 3) := by decide +kernel
theorem dX6_end_4 : decode cX6_end 4 = .ok (.iload_n 1, 1) := by decide +kernel
theorem dX6_end_5 : decode cX6_end 5 = .ok (.aload_n 0, 1) := by decide +kernel
theorem dX6_end_6 : decode cX6_end 6 = .ok (.getfield 19, 3) := by decide +kernel
theorem dX6_end_9 : decode cX6_end 9 = .ok (.getfield 67, 3) := by decide +kernel
theorem dX6_end_12 : decode cX6_end 12 = .ok (.getfield 71, 3) := by decide +kernel
theorem dX6_end_15 : decode cX6_end 15 = .ok (.if_icmp .le 5, 3) := by decide +kernel
theorem dX6_end_18 : decode cX6_end 18 = .ok (.iconst 0, 1) := by decide +kernel
theorem dX6_end_19 : decode cX6_end 19 = .ok (.ireturn, 1) := by decide +kernel
theorem dX6_end_20 : decode cX6_end 20 = .ok (.aload_n 0, 1) := by decide +kernel
theorem dX6_end_21 : decode cX6_end 21 = .ok (.getfield 19, 3) := by decide +kernel
theorem dX6_end_24 : decode cX6_end 24 = .ok (.getfield 67, 3) := by decide +kernel
theorem dX6_end_27 : decode cX6_end 27 = .ok (.iload_n 1, 1) := by decide +kernel
theorem dX6_end_28 : decode cX6_end 28 = .ok (.putfield 71, 3) := by decide +kernel
theorem dX6_end_31 : decode cX6_end 31 = .ok (.iconst 1, 1) := by decide +kernel
theorem dX6_end_32 : decode cX6_end 32 = .ok (.ireturn, 1) := by decide +kernel
theorem dX6_tell_0 : decode cX6_tell 0 = .ok (.aload_n 0, 1) := by decide +kernel
theorem dX6_tell_1 : decode cX6_tell 1 = .ok (.getfield 19, 3) := by decide +kernel
theorem dX6_tell_4 : decode cX6_tell 4 = .ok (.getfield 80, 3) := by decide +kernel
theorem dX6_tell_7 : decode cX6_tell 7 = .ok (.aload_n 0, 1) := by decide +kernel
theorem dX6_tell_8 : decode cX6_tell 8 = .ok (.getfield 10, 3) := by decide +kernel
theorem dX6_tell_11 : decode cX6_tell 11 = .ok (.invokevirtual 83, 3) := by decide +kernel
theorem dX6_tell_14 : decode cX6_tell 14 = .ok (.aload_n 0, 1) := by decide +kernel
theorem dX6_tell_15 : decode cX6_tell 15 = .ok (.getfield 19, 3) := by decide +kernel
theorem dX6_tell_18 : decode cX6_tell 18 = .ok (.invokevirtual 87, 3) := by decide +kernel
theorem dX6_tell_21 : decode cX6_tell 21 = .ok (.istore_n 1, 1) := by decide +kernel
theorem dX6_tell_22 : decode cX6_tell 22 = .ok (.aload_n 0, 1) := by decide +kernel
theorem dX6_tell_23 : decode cX6_tell 23 = .ok (.getfield 19, 3) := by decide +kernel
theorem dX6_tell_26 : decode cX6_tell 26 = .ok (.getfield 67, 3) := by decide +kernel
theorem dX6_tell_29 : decode cX6_tell 29 = .ok (.iconst 0, 1) := by decide +kernel
theorem dX6_tell_30 : decode cX6_tell 30 = .ok (.putfield 71, 3) := by decide +kernel
theorem dX6_tell_33 : decode cX6_tell 33 = .ok (.aload_n 0, 1) := by decide +kernel
theorem dX6_tell_34 : decode cX6_tell 34 = .ok (.aload_n 0, 1) := by decide +kernel
theorem dX6_tell_35 : decode cX6_tell 35 = .ok (.getfield 19, 3) := by decide +kernel
theorem dX6_tell_38 : decode cX6_tell 38 = .ok (.getfield 91, 3) := by decide +kernel
theorem dX6_tell_41 : decode cX6_tell 41 = .ok (.putfield 60, 3) := by decide +kernel
theorem dX6_tell_44 : decode cX6_tell 44 = .ok (.iload_n 1, 1) := by decide +kernel
theorem dX6_tell_45 : decode cX6_tell 45 = .ok (.ifCond .ne 16, 3) := by decide +kernel
theorem dX6_tell_48 : decode cX6_tell 48 = .ok (.aload_n 0, 1) := by decide +kernel
theorem dX6_tell_49 : decode cX6_tell 49 = .ok (.aload_n 0, 1) := by decide +kernel
theorem dX6_tell_50 : decode cX6_tell 50 = .ok (.getfield 19, 3) := by decide +kernel
theorem dX6_tell_53 : decode cX6_tell 53 = .ok (.getfield 94, 3) := by decide +kernel
theorem dX6_tell_56 : decode cX6_tell 56 = .ok (.putfield 64, 3) := by decide +kernel
theorem dX6_tell_59 : decode cX6_tell 59 = .ok (.iconst (-1), 1) := by decide +kernel
theorem dX6_tell_60 : decode cX6_tell 60 = .ok (.ireturn, 1) := by decide +kernel
theorem dX6_tell_61 : decode cX6_tell 61 = .ok (.aload_n 0, 1) := by decide +kernel
theorem dX6_tell_62 : decode cX6_tell 62 = .ok (.iconst (-1), 1) := by decide +kernel
theorem dX6_tell_63 : decode cX6_tell 63 = .ok (.putfield 64, 3) := by decide +kernel
theorem dX6_tell_66 : decode cX6_tell 66 = .ok (.aload_n 0, 1) := by decide +kernel
theorem dX6_tell_67 : decode cX6_tell 67 = .ok (.getfield 10, 3) := by decide +kernel
theorem dX6_tell_70 : decode cX6_tell 70 = .ok (.aload_n 0, 1) := by decide +kernel
theorem dX6_tell_71 : decode cX6_tell 71 = .ok (.getfield 19, 3) := by decide +kernel
theorem dX6_tell_74 : decode cX6_tell 74 = .ok (.getfield 80, 3) := by decide +kernel
theorem dX6_tell_77 : decode cX6_tell 77 = .ok (.invokevirtual 83, 3) := by decide +kernel
theorem dX6_tell_80 : decode cX6_tell 80 = .ok (.aload_n 0, 1) := by decide +kernel
theorem dX6_tell_81 : decode cX6_tell 81 = .ok (.invokevirtual 97, 3) := by decide +kernel
theorem dX6_tell_84 : decode cX6_tell 84 = .ok (.aload_n 0, 1) := by decide +kernel
theorem dX6_tell_85 : decode cX6_tell 85 = .ok (.getfield 19, 3) := by decide +kernel
theorem dX6_tell_88 : decode cX6_tell 88 = .ok (.getfield 94, 3) := by decide +kernel
theorem dX6_tell_91 : decode cX6_tell 91 = .ok (.ireturn, 1) := by decide +kernel
theorem dX6_fault_0 : decode cX6_fault 0 = .ok (.iload_n 1, 1) := by decide +kernel
theorem dX6_fault_1 : decode cX6_fault 1 = .ok (.ifCond .ne 8, 3) := by decide +kernel
theorem dX6_fault_4 : decode cX6_fault 4 = .ok (.aload_n 0, 1) := by decide +kernel
theorem dX6_fault_5 : decode cX6_fault 5 = .ok (.getfield 60, 3) := by decide +kernel
theorem dX6_fault_8 : decode cX6_fault 8 = .ok (.ireturn, 1) := by decide +kernel
theorem dX6_fault_9 : decode cX6_fault 9 = .ok (.iload_n 1, 1) := by decide +kernel
theorem dX6_fault_10 : decode cX6_fault 10 = .ok (.iconst 1, 1) := by decide +kernel
theorem dX6_fault_11 : decode cX6_fault 11 = .ok (.if_icmp .ne 10, 3) := by decide +kernel
theorem dX6_fault_14 : decode cX6_fault 14 = .ok (.aload_n 0, 1) := by decide +kernel
theorem dX6_fault_15 : decode cX6_fault 15 = .ok (.getfield 64, 3) := by decide +kernel
theorem dX6_fault_18 : decode cX6_fault 18 = .ok (.goto 4, 3) := by decide +kernel
theorem dX6_fault_21 : decode cX6_fault 21 = .ok (.iconst (-1), 1) := by decide +kernel
theorem dX6_fault_22 : decode cX6_fault 22 = .ok (.ireturn, 1) := by decide +kernel
theorem dX6_crew_0 : decode cX6_crew 0 = .ok (.iload_n 1, 1) := by decide +kernel
theorem dX6_crew_1 : decode cX6_crew 1 = .ok (.invokestatic 100, 3) := by decide +kernel
theorem dX6_crew_4 : decode cX6_crew 4 = .ok (.ifCond .ne 5, 3) := by decide +kernel
theorem dX6_crew_7 : decode cX6_crew 7 = .ok (.iconst 0, 1) := by decide +kernel
theorem dX6_crew_8 : decode cX6_crew 8 = .ok (.ireturn, 1) := by decide +kernel
theorem dX6_crew_9 : decode cX6_crew 9 = .ok (.aload_n 0, 1) := by decide +kernel
theorem dX6_crew_10 : decode cX6_crew 10 = .ok (.getfield 10, 3) := by decide +kernel
theorem dX6_crew_13 : decode cX6_crew 13 = .ok (.iload_n 1, 1) := by decide +kernel
theorem dX6_crew_14 : decode cX6_crew 14 = .ok (.invokevirtual 104, 3) := by decide +kernel
theorem dX6_crew_17 : decode cX6_crew 17 = .ok (.aload_n 0, 1) := by decide +kernel
theorem dX6_crew_18 : decode cX6_crew 18 = .ok (.invokevirtual 97, 3) := by decide +kernel
theorem dX6_crew_21 : decode cX6_crew 21 = .ok (.iconst 1, 1) := by decide +kernel
theorem dX6_crew_22 : decode cX6_crew 22 = .ok (.ireturn, 1) := by decide +kernel
theorem dX6_limit_0 : decode cX6_limit 0 = .ok (.iload_n 1, 1) := by decide +kernel
theorem dX6_limit_1 : decode cX6_limit 1 = .ok (.invokestatic 107, 3) := by decide +kernel
theorem dX6_limit_4 : decode cX6_limit 4 = .ok (.ifCond .eq 14, 3) := by decide +kernel
theorem dX6_limit_7 : decode cX6_limit 7 = .ok (.iload_n 1, 1) := by decide +kernel
theorem dX6_limit_8 : decode cX6_limit 8 = .ok (.aload_n 0, 1) := by decide +kernel
theorem dX6_limit_9 : decode cX6_limit 9 = .ok (.getfield 10, 3) := by decide +kernel
theorem dX6_limit_12 : decode cX6_limit 12 = .ok (.getfield 110, 3) := by decide +kernel
theorem dX6_limit_15 : decode cX6_limit 15 = .ok (.if_icmp .ne 5, 3) := by decide +kernel
theorem dX6_limit_18 : decode cX6_limit 18 = .ok (.iconst 0, 1) := by decide +kernel
theorem dX6_limit_19 : decode cX6_limit 19 = .ok (.ireturn, 1) := by decide +kernel
theorem dX6_limit_20 : decode cX6_limit 20 = .ok (.aload_n 0, 1) := by decide +kernel
theorem dX6_limit_21 : decode cX6_limit 21 = .ok (.getfield 10, 3) := by decide +kernel
theorem dX6_limit_24 : decode cX6_limit 24 = .ok (.iload_n 1, 1) := by decide +kernel
theorem dX6_limit_25 : decode cX6_limit 25 = .ok (.putfield 110, 3) := by decide +kernel
theorem dX6_limit_28 : decode cX6_limit 28 = .ok (.iconst 1, 1) := by decide +kernel
theorem dX6_limit_29 : decode cX6_limit 29 = .ok (.ireturn, 1) := by decide +kernel
theorem dX6_race_0 : decode cX6_race 0 = .ok (.aload_n 0, 1) := by decide +kernel
theorem dX6_race_1 : decode cX6_race 1 = .ok (.getfield 10, 3) := by decide +kernel
theorem dX6_race_4 : decode cX6_race 4 = .ok (.iload_n 1, 1) := by decide +kernel
theorem dX6_race_5 : decode cX6_race 5 = .ok (.iload_n 2, 1) := by decide +kernel
theorem dX6_race_6 : decode cX6_race 6 = .ok (.iload 4, 2) := by decide +kernel
theorem dX6_race_8 : decode cX6_race 8 = .ok (.invokevirtual 113, 3) := by decide +kernel
theorem dX6_race_11 : decode cX6_race 11 = .ok (.ifCond .eq 17, 3) := by decide +kernel
theorem dX6_race_14 : decode cX6_race 14 = .ok (.iload_n 3, 1) := by decide +kernel
theorem dX6_race_15 : decode cX6_race 15 = .ok (.sipush (-999), 3) := by decide +kernel
theorem dX6_race_18 : decode cX6_race 18 = .ok (.if_icmp .lt 10, 3) := by decide +kernel
theorem dX6_race_21 : decode cX6_race 21 = .ok (.iload_n 3, 1) := by decide +kernel
theorem dX6_race_22 : decode cX6_race 22 = .ok (.sipush 999, 3) := by decide +kernel
theorem dX6_race_25 : decode cX6_race 25 = .ok (.if_icmp .le 5, 3) := by decide +kernel
theorem dX6_race_28 : decode cX6_race 28 = .ok (.iconst (-1), 1) := by decide +kernel
theorem dX6_race_29 : decode cX6_race 29 = .ok (.ireturn, 1) := by decide +kernel
theorem dX6_race_30 : decode cX6_race 30 = .ok (.aload_n 0, 1) := by decide +kernel
theorem dX6_race_31 : decode cX6_race 31 = .ok (.getfield 10, 3) := by decide +kernel
theorem dX6_race_34 : decode cX6_race 34 = .ok (.invokevirtual 117, 3) := by decide +kernel
theorem dX6_race_37 : decode cX6_race 37 = .ok (.ifCond .eq 6, 3) := by decide +kernel
theorem dX6_race_40 : decode cX6_race 40 = .ok (.bipush (-2), 2) := by decide +kernel
theorem dX6_race_42 : decode cX6_race 42 = .ok (.ireturn, 1) := by decide +kernel
theorem dX6_race_43 : decode cX6_race 43 = .ok (.aload_n 0, 1) := by decide +kernel
theorem dX6_race_44 : decode cX6_race 44 = .ok (.getfield 10, 3) := by decide +kernel
theorem dX6_race_47 : decode cX6_race 47 = .ok (.iload_n 1, 1) := by decide +kernel
theorem dX6_race_48 : decode cX6_race 48 = .ok (.iload_n 2, 1) := by decide +kernel
theorem dX6_race_49 : decode cX6_race 49 = .ok (.iload_n 3, 1) := by decide +kernel
theorem dX6_race_50 : decode cX6_race 50 = .ok (.iload 4, 2) := by decide +kernel
theorem dX6_race_52 : decode cX6_race 52 = .ok (.invokevirtual 120, 3) := by decide +kernel
theorem dX6_race_55 : decode cX6_race 55 = .ok (.aload_n 0, 1) := by decide +kernel
theorem dX6_race_56 : decode cX6_race 56 = .ok (.invokevirtual 97, 3) := by decide +kernel
theorem dX6_race_59 : decode cX6_race 59 = .ok (.aload_n 0, 1) := by decide +kernel
theorem dX6_race_60 : decode cX6_race 60 = .ok (.getfield 10, 3) := by decide +kernel
theorem dX6_race_63 : decode cX6_race 63 = .ok (.getfield 123, 3) := by decide +kernel
theorem dX6_race_66 : decode cX6_race 66 = .ok (.iconst 1, 1) := by decide +kernel
theorem dX6_race_67 : decode cX6_race 67 = .ok (.isub, 1) := by decide +kernel
theorem dX6_race_68 : decode cX6_race 68 = .ok (.ireturn, 1) := by decide +kernel
theorem dX6_strike_0 : decode cX6_strike 0 = .ok (.aload_n 0, 1) := by decide +kernel
theorem dX6_strike_1 : decode cX6_strike 1 = .ok (.getfield 10, 3) := by decide +kernel
theorem dX6_strike_4 : decode cX6_strike 4 = .ok (.iload_n 1, 1) := by decide +kernel
theorem dX6_strike_5 : decode cX6_strike 5 = .ok (.invokevirtual 126, 3) := by decide +kernel
theorem dX6_strike_8 : decode cX6_strike 8 = .ok (.ifCond .ne 5, 3) := by decide +kernel
theorem dX6_strike_11 : decode cX6_strike 11 = .ok (.iconst (-1), 1) := by decide +kernel
theorem dX6_strike_12 : decode cX6_strike 12 = .ok (.ireturn, 1) := by decide +kernel
theorem dX6_strike_13 : decode cX6_strike 13 = .ok (.aload_n 0, 1) := by decide +kernel
theorem dX6_strike_14 : decode cX6_strike 14 = .ok (.getfield 10, 3) := by decide +kernel
theorem dX6_strike_17 : decode cX6_strike 17 = .ok (.iload_n 1, 1) := by decide +kernel
theorem dX6_strike_18 : decode cX6_strike 18 = .ok (.invokevirtual 129, 3) := by decide +kernel
theorem dX6_strike_21 : decode cX6_strike 21 = .ok (.aload_n 0, 1) := by decide +kernel
theorem dX6_strike_22 : decode cX6_strike 22 = .ok (.invokevirtual 97, 3) := by decide +kernel
theorem dX6_strike_25 : decode cX6_strike 25 = .ok (.aload_n 0, 1) := by decide +kernel
theorem dX6_strike_26 : decode cX6_strike 26 = .ok (.getfield 10, 3) := by decide +kernel
theorem dX6_strike_29 : decode cX6_strike 29 = .ok (.getfield 123, 3) := by decide +kernel
theorem dX6_strike_32 : decode cX6_strike 32 = .ok (.ireturn, 1) := by decide +kernel
theorem dX6_count_0 : decode cX6_count 0 = .ok (.iload_n 1, 1) := by decide +kernel
theorem dX6_count_1 : decode cX6_count 1 = .ok (.tableswitch 106 0 6 #[43, 51, 59, 67, 78, 93, 98], 43) := by decide +kernel
theorem dX6_count_44 : decode cX6_count 44 = .ok (.aload_n 0, 1) := by decide +kernel
theorem dX6_count_45 : decode cX6_count 45 = .ok (.getfield 10, 3) := by decide +kernel
theorem dX6_count_48 : decode cX6_count 48 = .ok (.getfield 132, 3) := by decide +kernel
theorem dX6_count_51 : decode cX6_count 51 = .ok (.ireturn, 1) := by decide +kernel
theorem dX6_count_52 : decode cX6_count 52 = .ok (.aload_n 0, 1) := by decide +kernel
theorem dX6_count_53 : decode cX6_count 53 = .ok (.getfield 10, 3) := by decide +kernel
theorem dX6_count_56 : decode cX6_count 56 = .ok (.getfield 123, 3) := by decide +kernel
theorem dX6_count_59 : decode cX6_count 59 = .ok (.ireturn, 1) := by decide +kernel
theorem dX6_count_60 : decode cX6_count 60 = .ok (.aload_n 0, 1) := by decide +kernel
theorem dX6_count_61 : decode cX6_count 61 = .ok (.getfield 10, 3) := by decide +kernel
theorem dX6_count_64 : decode cX6_count 64 = .ok (.getfield 110, 3) := by decide +kernel
theorem dX6_count_67 : decode cX6_count 67 = .ok (.ireturn, 1) := by decide +kernel
theorem dX6_count_68 : decode cX6_count 68 = .ok (.aload_n 0, 1) := by decide +kernel
theorem dX6_count_69 : decode cX6_count 69 = .ok (.getfield 19, 3) := by decide +kernel
theorem dX6_count_72 : decode cX6_count 72 = .ok (.getfield 67, 3) := by decide +kernel
theorem dX6_count_75 : decode cX6_count 75 = .ok (.getfield 71, 3) := by decide +kernel
theorem dX6_count_78 : decode cX6_count 78 = .ok (.ireturn, 1) := by decide +kernel
theorem dX6_count_79 : decode cX6_count 79 = .ok (.aload_n 0, 1) := by decide +kernel
theorem dX6_count_80 : decode cX6_count 80 = .ok (.getfield 26, 3) := by decide +kernel
theorem dX6_count_83 : decode cX6_count 83 = .ok (.aload_n 0, 1) := by decide +kernel
theorem dX6_count_84 : decode cX6_count 84 = .ok (.getfield 10, 3) := by decide +kernel
theorem dX6_count_87 : decode cX6_count 87 = .ok (.getfield 132, 3) := by decide +kernel
theorem dX6_count_90 : decode cX6_count 90 = .ok (.invokevirtual 135, 3) := by decide +kernel
theorem dX6_count_93 : decode cX6_count 93 = .ok (.ireturn, 1) := by decide +kernel
theorem dX6_count_94 : decode cX6_count 94 = .ok (.aload_n 0, 1) := by decide +kernel
theorem dX6_count_95 : decode cX6_count 95 = .ok (.invokevirtual 139, 3) := by decide +kernel
theorem dX6_count_98 : decode cX6_count 98 = .ok (.ireturn, 1) := by decide +kernel
theorem dX6_count_99 : decode cX6_count 99 = .ok (.aload_n 0, 1) := by decide +kernel
theorem dX6_count_100 : decode cX6_count 100 = .ok (.getfield 26, 3) := by decide +kernel
theorem dX6_count_103 : decode cX6_count 103 = .ok (.getfield 143, 3) := by decide +kernel
theorem dX6_count_106 : decode cX6_count 106 = .ok (.ireturn, 1) := by decide +kernel
theorem dX6_count_107 : decode cX6_count 107 = .ok (.iconst (-1), 1) := by decide +kernel
theorem dX6_count_108 : decode cX6_count 108 = .ok (.ireturn, 1) := by decide +kernel
theorem dX6_raced_0 : decode cX6_raced 0 = .ok (.aload_n 0, 1) := by decide +kernel
theorem dX6_raced_1 : decode cX6_raced 1 = .ok (.getfield 10, 3) := by decide +kernel
theorem dX6_raced_4 : decode cX6_raced 4 = .ok (.iload_n 1, 1) := by decide +kernel
theorem dX6_raced_5 : decode cX6_raced 5 = .ok (.invokevirtual 126, 3) := by decide +kernel
theorem dX6_raced_8 : decode cX6_raced 8 = .ok (.ifCond .ne 13, 3) := by decide +kernel
theorem dX6_raced_11 : decode cX6_raced 11 = .ok (.new 146, 3) := by decide +kernel
theorem dX6_raced_14 : decode cX6_raced 14 = .ok (.dup, 1) := by decide +kernel
theorem dX6_raced_15 : decode cX6_raced 15 = .ok (.ldc 148, 2) := by decide +kernel
theorem dX6_raced_17 : decode cX6_raced 17 = .ok (.invokespecial 150, 3) := by decide +kernel
theorem dX6_raced_20 : decode cX6_raced 20 = .ok (.athrow, 1) := by decide +kernel
theorem dX6_raced_21 : decode cX6_raced 21 = .ok (.iload_n 2, 1) := by decide +kernel
theorem dX6_raced_22 : decode cX6_raced 22 = .ok (.tableswitch 70 0 3 #[30, 40, 50, 60], 30) := by decide +kernel
theorem dX6_raced_52 : decode cX6_raced 52 = .ok (.aload_n 0, 1) := by decide +kernel
theorem dX6_raced_53 : decode cX6_raced 53 = .ok (.getfield 10, 3) := by decide +kernel
theorem dX6_raced_56 : decode cX6_raced 56 = .ok (.getfield 153, 3) := by decide +kernel
theorem dX6_raced_59 : decode cX6_raced 59 = .ok (.iload_n 1, 1) := by decide +kernel
theorem dX6_raced_60 : decode cX6_raced 60 = .ok (.iaload, 1) := by decide +kernel
theorem dX6_raced_61 : decode cX6_raced 61 = .ok (.ireturn, 1) := by decide +kernel
theorem dX6_raced_62 : decode cX6_raced 62 = .ok (.aload_n 0, 1) := by decide +kernel
theorem dX6_raced_63 : decode cX6_raced 63 = .ok (.getfield 10, 3) := by decide +kernel
theorem dX6_raced_66 : decode cX6_raced 66 = .ok (.getfield 156, 3) := by decide +kernel
theorem dX6_raced_69 : decode cX6_raced 69 = .ok (.iload_n 1, 1) := by decide +kernel
theorem dX6_raced_70 : decode cX6_raced 70 = .ok (.iaload, 1) := by decide +kernel
theorem dX6_raced_71 : decode cX6_raced 71 = .ok (.ireturn, 1) := by decide +kernel
theorem dX6_raced_72 : decode cX6_raced 72 = .ok (.aload_n 0, 1) := by decide +kernel
theorem dX6_raced_73 : decode cX6_raced 73 = .ok (.getfield 10, 3) := by decide +kernel
theorem dX6_raced_76 : decode cX6_raced 76 = .ok (.getfield 159, 3) := by decide +kernel
theorem dX6_raced_79 : decode cX6_raced 79 = .ok (.iload_n 1, 1) := by decide +kernel
theorem dX6_raced_80 : decode cX6_raced 80 = .ok (.iaload, 1) := by decide +kernel
theorem dX6_raced_81 : decode cX6_raced 81 = .ok (.ireturn, 1) := by decide +kernel
theorem dX6_raced_82 : decode cX6_raced 82 = .ok (.aload_n 0, 1) := by decide +kernel
theorem dX6_raced_83 : decode cX6_raced 83 = .ok (.getfield 10, 3) := by decide +kernel
theorem dX6_raced_86 : decode cX6_raced 86 = .ok (.getfield 162, 3) := by decide +kernel
theorem dX6_raced_89 : decode cX6_raced 89 = .ok (.iload_n 1, 1) := by decide +kernel
theorem dX6_raced_90 : decode cX6_raced 90 = .ok (.iaload, 1) := by decide +kernel
theorem dX6_raced_91 : decode cX6_raced 91 = .ok (.ireturn, 1) := by decide +kernel
theorem dX6_raced_92 : decode cX6_raced 92 = .ok (.new 146, 3) := by decide +kernel
theorem dX6_raced_95 : decode cX6_raced 95 = .ok (.dup, 1) := by decide +kernel
theorem dX6_raced_96 : decode cX6_raced 96 = .ok (.ldc 165, 2) := by decide +kernel
theorem dX6_raced_98 : decode cX6_raced 98 = .ok (.invokespecial 150, 3) := by decide +kernel
theorem dX6_raced_101 : decode cX6_raced 101 = .ok (.athrow, 1) := by decide +kernel
theorem dX6_difference_0 : decode cX6_difference 0 = .ok (.aload_n 0, 1) := by decide +kernel
theorem dX6_difference_1 : decode cX6_difference 1 = .ok (.getfield 10, 3) := by decide +kernel
theorem dX6_difference_4 : decode cX6_difference 4 = .ok (.iload_n 1, 1) := by decide +kernel
theorem dX6_difference_5 : decode cX6_difference 5 = .ok (.invokevirtual 167, 3) := by decide +kernel
theorem dX6_difference_8 : decode cX6_difference 8 = .ok (.ifCond .eq 14, 3) := by decide +kernel
theorem dX6_difference_11 : decode cX6_difference 11 = .ok (.aload_n 0, 1) := by decide +kernel
theorem dX6_difference_12 : decode cX6_difference 12 = .ok (.getfield 10, 3) := by decide +kernel
theorem dX6_difference_15 : decode cX6_difference 15 = .ok (.iload_n 2, 1) := by decide +kernel
theorem dX6_difference_16 : decode cX6_difference 16 = .ok (.invokevirtual 167, 3) := by decide +kernel
theorem dX6_difference_19 : decode cX6_difference 19 = .ok (.ifCond .ne 7, 3) := by decide +kernel
theorem dX6_difference_22 : decode cX6_difference 22 = .ok (.ldc2_w 170, 3) := by decide +kernel
theorem dX6_difference_25 : decode cX6_difference 25 = .ok (.lreturn, 1) := by decide +kernel
theorem dX6_difference_26 : decode cX6_difference 26 = .ok (.aload_n 0, 1) := by decide +kernel
theorem dX6_difference_27 : decode cX6_difference 27 = .ok (.iconst 1, 1) := by decide +kernel
theorem dX6_difference_28 : decode cX6_difference 28 = .ok (.iload_n 1, 1) := by decide +kernel
theorem dX6_difference_29 : decode cX6_difference 29 = .ok (.ishl, 1) := by decide +kernel
theorem dX6_difference_30 : decode cX6_difference 30 = .ok (.iconst 1, 1) := by decide +kernel
theorem dX6_difference_31 : decode cX6_difference 31 = .ok (.iload_n 2, 1) := by decide +kernel
theorem dX6_difference_32 : decode cX6_difference 32 = .ok (.ishl, 1) := by decide +kernel
theorem dX6_difference_33 : decode cX6_difference 33 = .ok (.iconst 0, 1) := by decide +kernel
theorem dX6_difference_34 : decode cX6_difference 34 = .ok (.iconst 0, 1) := by decide +kernel
theorem dX6_difference_35 : decode cX6_difference 35 = .ok (.iload_n 3, 1) := by decide +kernel
theorem dX6_difference_36 : decode cX6_difference 36 = .ok (.invokevirtual 172, 3) := by decide +kernel
theorem dX6_difference_39 : decode cX6_difference 39 = .ok (.lreturn, 1) := by decide +kernel
theorem dX6_doubt_0 : decode cX6_doubt 0 = .ok (.aload_n 0, 1) := by decide +kernel
theorem dX6_doubt_1 : decode cX6_doubt 1 = .ok (.getfield 10, 3) := by decide +kernel
theorem dX6_doubt_4 : decode cX6_doubt 4 = .ok (.iload_n 1, 1) := by decide +kernel
theorem dX6_doubt_5 : decode cX6_doubt 5 = .ok (.invokevirtual 167, 3) := by decide +kernel
theorem dX6_doubt_8 : decode cX6_doubt 8 = .ok (.ifCond .eq 14, 3) := by decide +kernel
theorem dX6_doubt_11 : decode cX6_doubt 11 = .ok (.aload_n 0, 1) := by decide +kernel
theorem dX6_doubt_12 : decode cX6_doubt 12 = .ok (.getfield 10, 3) := by decide +kernel
theorem dX6_doubt_15 : decode cX6_doubt 15 = .ok (.iload_n 2, 1) := by decide +kernel
theorem dX6_doubt_16 : decode cX6_doubt 16 = .ok (.invokevirtual 167, 3) := by decide +kernel
theorem dX6_doubt_19 : decode cX6_doubt 19 = .ok (.ifCond .ne 7, 3) := by decide +kernel
theorem dX6_doubt_22 : decode cX6_doubt 22 = .ok (.ldc2_w 170, 3) := by decide +kernel
theorem dX6_doubt_25 : decode cX6_doubt 25 = .ok (.lreturn, 1) := by decide +kernel
theorem dX6_doubt_26 : decode cX6_doubt 26 = .ok (.aload_n 0, 1) := by decide +kernel
theorem dX6_doubt_27 : decode cX6_doubt 27 = .ok (.iconst 1, 1) := by decide +kernel
theorem dX6_doubt_28 : decode cX6_doubt 28 = .ok (.iload_n 1, 1) := by decide +kernel
theorem dX6_doubt_29 : decode cX6_doubt 29 = .ok (.ishl, 1) := by decide +kernel
theorem dX6_doubt_30 : decode cX6_doubt 30 = .ok (.iconst 1, 1) := by decide +kernel
theorem dX6_doubt_31 : decode cX6_doubt 31 = .ok (.iload_n 2, 1) := by decide +kernel
theorem dX6_doubt_32 : decode cX6_doubt 32 = .ok (.ishl, 1) := by decide +kernel
theorem dX6_doubt_33 : decode cX6_doubt 33 = .ok (.iconst 0, 1) := by decide +kernel
theorem dX6_doubt_34 : decode cX6_doubt 34 = .ok (.iconst 1, 1) := by decide +kernel
theorem dX6_doubt_35 : decode cX6_doubt 35 = .ok (.iload_n 3, 1) := by decide +kernel
theorem dX6_doubt_36 : decode cX6_doubt 36 = .ok (.invokevirtual 172, 3) := by decide +kernel
theorem dX6_doubt_39 : decode cX6_doubt 39 = .ok (.lreturn, 1) := by decide +kernel
theorem dX6_drift_0 : decode cX6_drift 0 = .ok (.aload_n 0, 1) := by decide +kernel
theorem dX6_drift_1 : decode cX6_drift 1 = .ok (.iconst 0, 1) := by decide +kernel
theorem dX6_drift_2 : decode cX6_drift 2 = .ok (.iconst 0, 1) := by decide +kernel
theorem dX6_drift_3 : decode cX6_drift 3 = .ok (.iconst 1, 1) := by decide +kernel
theorem dX6_drift_4 : decode cX6_drift 4 = .ok (.iconst 0, 1) := by decide +kernel
theorem dX6_drift_5 : decode cX6_drift 5 = .ok (.iload_n 1, 1) := by decide +kernel
theorem dX6_drift_6 : decode cX6_drift 6 = .ok (.invokevirtual 172, 3) := by decide +kernel
theorem dX6_drift_9 : decode cX6_drift 9 = .ok (.lreturn, 1) := by decide +kernel
theorem dX6_rest_0 : decode cX6_rest 0 = .ok (.aload_n 0, 1) := by decide +kernel
theorem dX6_rest_1 : decode cX6_rest 1 = .ok (.getfield 10, 3) := by decide +kernel
theorem dX6_rest_4 : decode cX6_rest 4 = .ok (.iload_n 1, 1) := by decide +kernel
theorem dX6_rest_5 : decode cX6_rest 5 = .ok (.invokevirtual 126, 3) := by decide +kernel
theorem dX6_rest_8 : decode cX6_rest 8 = .ok (.ifCond .ne 7, 3) := by decide +kernel
theorem dX6_rest_11 : decode cX6_rest 11 = .ok (.ldc2_w 170, 3) := by decide +kernel
theorem dX6_rest_14 : decode cX6_rest 14 = .ok (.lreturn, 1) := by decide +kernel
theorem dX6_rest_15 : decode cX6_rest 15 = .ok (.aload_n 0, 1) := by decide +kernel
theorem dX6_rest_16 : decode cX6_rest 16 = .ok (.aload_n 0, 1) := by decide +kernel
theorem dX6_rest_17 : decode cX6_rest 17 = .ok (.iload_n 1, 1) := by decide +kernel
theorem dX6_rest_18 : decode cX6_rest 18 = .ok (.invokevirtual 176, 3) := by decide +kernel
theorem dX6_rest_21 : decode cX6_rest 21 = .ok (.aload_n 0, 1) := by decide +kernel
theorem dX6_rest_22 : decode cX6_rest 22 = .ok (.getfield 26, 3) := by decide +kernel
theorem dX6_rest_25 : decode cX6_rest 25 = .ok (.getfield 180, 3) := by decide +kernel
theorem dX6_rest_28 : decode cX6_rest 28 = .ok (.iload_n 2, 1) := by decide +kernel
theorem dX6_rest_29 : decode cX6_rest 29 = .ok (.invokevirtual 184, 3) := by decide +kernel
theorem dX6_rest_32 : decode cX6_rest 32 = .ok (.lreturn, 1) := by decide +kernel
theorem dX6_sum_0 : decode cX6_sum 0 = .ok (.aload_n 0, 1) := by decide +kernel
theorem dX6_sum_1 : decode cX6_sum 1 = .ok (.aload_n 0, 1) := by decide +kernel
theorem dX6_sum_2 : decode cX6_sum 2 = .ok (.getfield 26, 3) := by decide +kernel
theorem dX6_sum_5 : decode cX6_sum 5 = .ok (.invokevirtual 188, 3) := by decide +kernel
theorem dX6_sum_8 : decode cX6_sum 8 = .ok (.aload_n 0, 1) := by decide +kernel
theorem dX6_sum_9 : decode cX6_sum 9 = .ok (.getfield 26, 3) := by decide +kernel
theorem dX6_sum_12 : decode cX6_sum 12 = .ok (.getfield 180, 3) := by decide +kernel
theorem dX6_sum_15 : decode cX6_sum 15 = .ok (.iload_n 1, 1) := by decide +kernel
theorem dX6_sum_16 : decode cX6_sum 16 = .ok (.invokevirtual 184, 3) := by decide +kernel
theorem dX6_sum_19 : decode cX6_sum 19 = .ok (.lreturn, 1) := by decide +kernel
theorem dX6_guess_0 : decode cX6_guess 0 = .ok (.aload_n 0, 1) := by decide +kernel
theorem dX6_guess_1 : decode cX6_guess 1 = .ok (.getfield 10, 3) := by decide +kernel
theorem dX6_guess_4 : decode cX6_guess 4 = .ok (.iload_n 1, 1) := by decide +kernel
theorem dX6_guess_5 : decode cX6_guess 5 = .ok (.iload_n 2, 1) := by decide +kernel
theorem dX6_guess_6 : decode cX6_guess 6 = .ok (.iload_n 3, 1) := by decide +kernel
theorem dX6_guess_7 : decode cX6_guess 7 = .ok (.invokevirtual 113, 3) := by decide +kernel
theorem dX6_guess_10 : decode cX6_guess 10 = .ok (.ifCond .ne 7, 3) := by decide +kernel
theorem dX6_guess_13 : decode cX6_guess 13 = .ok (.ldc2_w 170, 3) := by decide +kernel
theorem dX6_guess_16 : decode cX6_guess 16 = .ok (.lreturn, 1) := by decide +kernel
theorem dX6_guess_17 : decode cX6_guess 17 = .ok (.aload_n 0, 1) := by decide +kernel
theorem dX6_guess_18 : decode cX6_guess 18 = .ok (.iload_n 1, 1) := by decide +kernel
theorem dX6_guess_19 : decode cX6_guess 19 = .ok (.iload_n 2, 1) := by decide +kernel
theorem dX6_guess_20 : decode cX6_guess 20 = .ok (.iload_n 3, 1) := by decide +kernel
theorem dX6_guess_21 : decode cX6_guess 21 = .ok (.iload 4, 2) := by decide +kernel
theorem dX6_guess_23 : decode cX6_guess 23 = .ok (.iload 5, 2) := by decide +kernel
theorem dX6_guess_25 : decode cX6_guess 25 = .ok (.invokevirtual 172, 3) := by decide +kernel
theorem dX6_guess_28 : decode cX6_guess 28 = .ok (.lreturn, 1) := by decide +kernel
theorem dX6_rank_0 : decode cX6_rank 0 = .ok (.aload_n 0, 1) := by decide +kernel
theorem dX6_rank_1 : decode cX6_rank 1 = .ok (.getfield 10, 3) := by decide +kernel
theorem dX6_rank_4 : decode cX6_rank 4 = .ok (.iload_n 1, 1) := by decide +kernel
theorem dX6_rank_5 : decode cX6_rank 5 = .ok (.invokevirtual 167, 3) := by decide +kernel
theorem dX6_rank_8 : decode cX6_rank 8 = .ok (.ifCond .ne 5, 3) := by decide +kernel
theorem dX6_rank_11 : decode cX6_rank 11 = .ok (.iconst (-1), 1) := by decide +kernel
theorem dX6_rank_12 : decode cX6_rank 12 = .ok (.ireturn, 1) := by decide +kernel
theorem dX6_rank_13 : decode cX6_rank 13 = .ok (.iload_n 2, 1) := by decide +kernel
theorem dX6_rank_14 : decode cX6_rank 14 = .ok (.tableswitch 68 0 3 #[30, 40, 56, 62], 30) := by decide +kernel
theorem dX6_rank_44 : decode cX6_rank 44 = .ok (.aload_n 0, 1) := by decide +kernel
theorem dX6_rank_45 : decode cX6_rank 45 = .ok (.iload_n 1, 1) := by decide +kernel
theorem dX6_rank_46 : decode cX6_rank 46 = .ok (.iconst 0, 1) := by decide +kernel
theorem dX6_rank_47 : decode cX6_rank 47 = .ok (.invokevirtual 192, 3) := by decide +kernel
theorem dX6_rank_50 : decode cX6_rank 50 = .ok (.invokestatic 196, 3) := by decide +kernel
theorem dX6_rank_53 : decode cX6_rank 53 = .ok (.ireturn, 1) := by decide +kernel
theorem dX6_rank_54 : decode cX6_rank 54 = .ok (.aload_n 0, 1) := by decide +kernel
theorem dX6_rank_55 : decode cX6_rank 55 = .ok (.iload_n 1, 1) := by decide +kernel
theorem dX6_rank_56 : decode cX6_rank 56 = .ok (.aload_n 0, 1) := by decide +kernel
theorem dX6_rank_57 : decode cX6_rank 57 = .ok (.getfield 10, 3) := by decide +kernel
theorem dX6_rank_60 : decode cX6_rank 60 = .ok (.getfield 110, 3) := by decide +kernel
theorem dX6_rank_63 : decode cX6_rank 63 = .ok (.invokevirtual 192, 3) := by decide +kernel
theorem dX6_rank_66 : decode cX6_rank 66 = .ok (.invokestatic 196, 3) := by decide +kernel
theorem dX6_rank_69 : decode cX6_rank 69 = .ok (.ireturn, 1) := by decide +kernel
theorem dX6_rank_70 : decode cX6_rank 70 = .ok (.aload_n 0, 1) := by decide +kernel
theorem dX6_rank_71 : decode cX6_rank 71 = .ok (.iload_n 1, 1) := by decide +kernel
theorem dX6_rank_72 : decode cX6_rank 72 = .ok (.invokevirtual 201, 3) := by decide +kernel
theorem dX6_rank_75 : decode cX6_rank 75 = .ok (.ireturn, 1) := by decide +kernel
theorem dX6_rank_76 : decode cX6_rank 76 = .ok (.aload_n 0, 1) := by decide +kernel
theorem dX6_rank_77 : decode cX6_rank 77 = .ok (.iload_n 1, 1) := by decide +kernel
theorem dX6_rank_78 : decode cX6_rank 78 = .ok (.invokevirtual 204, 3) := by decide +kernel
theorem dX6_rank_81 : decode cX6_rank 81 = .ok (.ireturn, 1) := by decide +kernel
theorem dX6_rank_82 : decode cX6_rank 82 = .ok (.iconst (-1), 1) := by decide +kernel
theorem dX6_rank_83 : decode cX6_rank 83 = .ok (.ireturn, 1) := by decide +kernel
theorem dX6_suit_0 : decode cX6_suit 0 = .ok (.aload_n 0, 1) := by decide +kernel
theorem dX6_suit_1 : decode cX6_suit 1 = .ok (.iload_n 1, 1) := by decide +kernel
theorem dX6_suit_2 : decode cX6_suit 2 = .ok (.iload_n 2, 1) := by decide +kernel
theorem dX6_suit_3 : decode cX6_suit 3 = .ok (.invokevirtual 207, 3) := by decide +kernel
theorem dX6_suit_6 : decode cX6_suit 6 = .ok (.ifCond .ne 7, 3) := by decide +kernel
theorem dX6_suit_9 : decode cX6_suit 9 = .ok (.ldc2_w 170, 3) := by decide +kernel
theorem dX6_suit_12 : decode cX6_suit 12 = .ok (.lreturn, 1) := by decide +kernel
theorem dX6_suit_13 : decode cX6_suit 13 = .ok (.iconst 1, 1) := by decide +kernel
theorem dX6_suit_14 : decode cX6_suit 14 = .ok (.iload_n 1, 1) := by decide +kernel
theorem dX6_suit_15 : decode cX6_suit 15 = .ok (.ishl, 1) := by decide +kernel
theorem dX6_suit_16 : decode cX6_suit 16 = .ok (.iconst 1, 1) := by decide +kernel
theorem dX6_suit_17 : decode cX6_suit 17 = .ok (.iload_n 2, 1) := by decide +kernel
theorem dX6_suit_18 : decode cX6_suit 18 = .ok (.ishl, 1) := by decide +kernel
theorem dX6_suit_19 : decode cX6_suit 19 = .ok (.ior, 1) := by decide +kernel
theorem dX6_suit_20 : decode cX6_suit 20 = .ok (.istore 4, 2) := by decide +kernel
theorem dX6_suit_22 : decode cX6_suit 22 = .ok (.lconst 0, 1) := by decide +kernel
theorem dX6_suit_23 : decode cX6_suit 23 = .ok (.lstore 5, 2) := by decide +kernel
theorem dX6_suit_25 : decode cX6_suit 25 = .ok (.iconst 0, 1) := by decide +kernel
theorem dX6_suit_26 : decode cX6_suit 26 = .ok (.istore 7, 2) := by decide +kernel
theorem dX6_suit_28 : decode cX6_suit 28 = .ok (.iload 7, 2) := by decide +kernel
theorem dX6_suit_30 : decode cX6_suit 30 = .ok (.aload_n 0, 1) := by decide +kernel
theorem dX6_suit_31 : decode cX6_suit 31 = .ok (.getfield 10, 3) := by decide +kernel
theorem dX6_suit_34 : decode cX6_suit 34 = .ok (.getfield 123, 3) := by decide +kernel
theorem dX6_suit_37 : decode cX6_suit 37 = .ok (.if_icmp .ge 70, 3) := by decide +kernel
theorem dX6_suit_40 : decode cX6_suit 40 = .ok (.aload_n 0, 1) := by decide +kernel
theorem dX6_suit_41 : decode cX6_suit 41 = .ok (.getfield 10, 3) := by decide +kernel
theorem dX6_suit_44 : decode cX6_suit 44 = .ok (.getfield 153, 3) := by decide +kernel
theorem dX6_suit_47 : decode cX6_suit 47 = .ok (.iload 7, 2) := by decide +kernel
theorem dX6_suit_49 : decode cX6_suit 49 = .ok (.iaload, 1) := by decide +kernel
theorem dX6_suit_50 : decode cX6_suit 50 = .ok (.iload 4, 2) := by decide +kernel
theorem dX6_suit_52 : decode cX6_suit 52 = .ok (.iand, 1) := by decide +kernel
theorem dX6_suit_53 : decode cX6_suit 53 = .ok (.iload 4, 2) := by decide +kernel
theorem dX6_suit_55 : decode cX6_suit 55 = .ok (.if_icmp .ne 17, 3) := by decide +kernel
theorem dX6_suit_58 : decode cX6_suit 58 = .ok (.lload 5, 2) := by decide +kernel
theorem dX6_suit_60 : decode cX6_suit 60 = .ok (.aload_n 0, 1) := by decide +kernel
theorem dX6_suit_61 : decode cX6_suit 61 = .ok (.iload 7, 2) := by decide +kernel
theorem dX6_suit_63 : decode cX6_suit 63 = .ok (.invokevirtual 176, 3) := by decide +kernel
theorem dX6_suit_66 : decode cX6_suit 66 = .ok (.ladd, 1) := by decide +kernel
theorem dX6_suit_67 : decode cX6_suit 67 = .ok (.lstore 5, 2) := by decide +kernel
theorem dX6_suit_69 : decode cX6_suit 69 = .ok (.goto 32, 3) := by decide +kernel
theorem dX6_suit_72 : decode cX6_suit 72 = .ok (.aload_n 0, 1) := by decide +kernel
theorem dX6_suit_73 : decode cX6_suit 73 = .ok (.getfield 10, 3) := by decide +kernel
theorem dX6_suit_76 : decode cX6_suit 76 = .ok (.getfield 156, 3) := by decide +kernel
theorem dX6_suit_79 : decode cX6_suit 79 = .ok (.iload 7, 2) := by decide +kernel
theorem dX6_suit_81 : decode cX6_suit 81 = .ok (.iaload, 1) := by decide +kernel
theorem dX6_suit_82 : decode cX6_suit 82 = .ok (.iload 4, 2) := by decide +kernel
theorem dX6_suit_84 : decode cX6_suit 84 = .ok (.iand, 1) := by decide +kernel
theorem dX6_suit_85 : decode cX6_suit 85 = .ok (.iload 4, 2) := by decide +kernel
theorem dX6_suit_87 : decode cX6_suit 87 = .ok (.if_icmp .ne 14, 3) := by decide +kernel
theorem dX6_suit_90 : decode cX6_suit 90 = .ok (.lload 5, 2) := by decide +kernel
theorem dX6_suit_92 : decode cX6_suit 92 = .ok (.aload_n 0, 1) := by decide +kernel
theorem dX6_suit_93 : decode cX6_suit 93 = .ok (.iload 7, 2) := by decide +kernel
theorem dX6_suit_95 : decode cX6_suit 95 = .ok (.invokevirtual 176, 3) := by decide +kernel
theorem dX6_suit_98 : decode cX6_suit 98 = .ok (.lsub, 1) := by decide +kernel
theorem dX6_suit_99 : decode cX6_suit 99 = .ok (.lstore 5, 2) := by decide +kernel
theorem dX6_suit_101 : decode cX6_suit 101 = .ok (.iinc 7 1, 3) := by decide +kernel
theorem dX6_suit_104 : decode cX6_suit 104 = .ok (.goto (-76), 3) := by decide +kernel
theorem dX6_suit_107 : decode cX6_suit 107 = .ok (.aload_n 0, 1) := by decide +kernel
theorem dX6_suit_108 : decode cX6_suit 108 = .ok (.lload 5, 2) := by decide +kernel
theorem dX6_suit_110 : decode cX6_suit 110 = .ok (.aload_n 0, 1) := by decide +kernel
theorem dX6_suit_111 : decode cX6_suit 111 = .ok (.getfield 26, 3) := by decide +kernel
theorem dX6_suit_114 : decode cX6_suit 114 = .ok (.getfield 180, 3) := by decide +kernel
theorem dX6_suit_117 : decode cX6_suit 117 = .ok (.iload_n 3, 1) := by decide +kernel
theorem dX6_suit_118 : decode cX6_suit 118 = .ok (.invokevirtual 184, 3) := by decide +kernel
theorem dX6_suit_121 : decode cX6_suit 121 = .ok (.lreturn, 1) := by decide +kernel
theorem dX6_swaps_0 : decode cX6_swaps 0 = .ok (.aload_n 0, 1) := by decide +kernel
theorem dX6_swaps_1 : decode cX6_swaps 1 = .ok (.iload_n 1, 1) := by decide +kernel
theorem dX6_swaps_2 : decode cX6_swaps 2 = .ok (.iload_n 2, 1) := by decide +kernel
theorem dX6_swaps_3 : decode cX6_swaps 3 = .ok (.invokevirtual 207, 3) := by decide +kernel
theorem dX6_swaps_6 : decode cX6_swaps 6 = .ok (.ifCond .eq 12, 3) := by decide +kernel
theorem dX6_swaps_9 : decode cX6_swaps 9 = .ok (.iload_n 3, 1) := by decide +kernel
theorem dX6_swaps_10 : decode cX6_swaps 10 = .ok (.ifCond .lt 8, 3) := by decide +kernel
theorem dX6_swaps_13 : decode cX6_swaps 13 = .ok (.iload_n 3, 1) := by decide +kernel
theorem dX6_swaps_14 : decode cX6_swaps 14 = .ok (.iconst 2, 1) := by decide +kernel
theorem dX6_swaps_15 : decode cX6_swaps 15 = .ok (.if_icmp .le 7, 3) := by decide +kernel
theorem dX6_swaps_18 : decode cX6_swaps 18 = .ok (.ldc2_w 170, 3) := by decide +kernel
theorem dX6_swaps_21 : decode cX6_swaps 21 = .ok (.lreturn, 1) := by decide +kernel
theorem dX6_swaps_22 : decode cX6_swaps 22 = .ok (.iconst 0, 1) := by decide +kernel
theorem dX6_swaps_23 : decode cX6_swaps 23 = .ok (.istore 4, 2) := by decide +kernel
theorem dX6_swaps_25 : decode cX6_swaps 25 = .ok (.iconst 0, 1) := by decide +kernel
theorem dX6_swaps_26 : decode cX6_swaps 26 = .ok (.istore 5, 2) := by decide +kernel
theorem dX6_swaps_28 : decode cX6_swaps 28 = .ok (.iconst 0, 1) := by decide +kernel
theorem dX6_swaps_29 : decode cX6_swaps 29 = .ok (.istore 6, 2) := by decide +kernel
theorem dX6_swaps_31 : decode cX6_swaps 31 = .ok (.iload 6, 2) := by decide +kernel
theorem dX6_swaps_33 : decode cX6_swaps 33 = .ok (.aload_n 0, 1) := by decide +kernel
theorem dX6_swaps_34 : decode cX6_swaps 34 = .ok (.getfield 10, 3) := by decide +kernel
theorem dX6_swaps_37 : decode cX6_swaps 37 = .ok (.getfield 123, 3) := by decide +kernel
theorem dX6_swaps_40 : decode cX6_swaps 40 = .ok (.if_icmp .ge 75, 3) := by decide +kernel
theorem dX6_swaps_43 : decode cX6_swaps 43 = .ok (.iconst 0, 1) := by decide +kernel
theorem dX6_swaps_44 : decode cX6_swaps 44 = .ok (.istore 7, 2) := by decide +kernel
theorem dX6_swaps_46 : decode cX6_swaps 46 = .ok (.iload 7, 2) := by decide +kernel
theorem dX6_swaps_48 : decode cX6_swaps 48 = .ok (.aload_n 0, 1) := by decide +kernel
theorem dX6_swaps_49 : decode cX6_swaps 49 = .ok (.getfield 10, 3) := by decide +kernel
theorem dX6_swaps_52 : decode cX6_swaps 52 = .ok (.getfield 123, 3) := by decide +kernel
theorem dX6_swaps_55 : decode cX6_swaps 55 = .ok (.if_icmp .ge 54, 3) := by decide +kernel
theorem dX6_swaps_58 : decode cX6_swaps 58 = .ok (.aload_n 0, 1) := by decide +kernel
theorem dX6_swaps_59 : decode cX6_swaps 59 = .ok (.getfield 10, 3) := by decide +kernel
theorem dX6_swaps_62 : decode cX6_swaps 62 = .ok (.iload 6, 2) := by decide +kernel
theorem dX6_swaps_64 : decode cX6_swaps 64 = .ok (.iload 7, 2) := by decide +kernel
theorem dX6_swaps_66 : decode cX6_swaps 66 = .ok (.iload_n 1, 1) := by decide +kernel
theorem dX6_swaps_67 : decode cX6_swaps 67 = .ok (.iload_n 2, 1) := by decide +kernel
theorem dX6_swaps_68 : decode cX6_swaps 68 = .ok (.invokevirtual 211, 3) := by decide +kernel
theorem dX6_swaps_71 : decode cX6_swaps 71 = .ok (.ifCond .eq 32, 3) := by decide +kernel
theorem dX6_swaps_74 : decode cX6_swaps 74 = .ok (.iinc 4 1, 3) := by decide +kernel
theorem dX6_swaps_77 : decode cX6_swaps 77 = .ok (.iload 5, 2) := by decide +kernel
theorem dX6_swaps_79 : decode cX6_swaps 79 = .ok (.aload_n 0, 1) := by decide +kernel
theorem dX6_swaps_80 : decode cX6_swaps 80 = .ok (.getfield 10, 3) := by decide +kernel
theorem dX6_swaps_83 : decode cX6_swaps 83 = .ok (.getfield 159, 3) := by decide +kernel
theorem dX6_swaps_86 : decode cX6_swaps 86 = .ok (.iload 6, 2) := by decide +kernel
theorem dX6_swaps_88 : decode cX6_swaps 88 = .ok (.iaload, 1) := by decide +kernel
theorem dX6_swaps_89 : decode cX6_swaps 89 = .ok (.aload_n 0, 1) := by decide +kernel
theorem dX6_swaps_90 : decode cX6_swaps 90 = .ok (.getfield 10, 3) := by decide +kernel
theorem dX6_swaps_93 : decode cX6_swaps 93 = .ok (.getfield 159, 3) := by decide +kernel
theorem dX6_swaps_96 : decode cX6_swaps 96 = .ok (.iload 7, 2) := by decide +kernel
theorem dX6_swaps_98 : decode cX6_swaps 98 = .ok (.iaload, 1) := by decide +kernel
theorem dX6_swaps_99 : decode cX6_swaps 99 = .ok (.isub, 1) := by decide +kernel
theorem dX6_swaps_100 : decode cX6_swaps 100 = .ok (.iadd, 1) := by decide +kernel
theorem dX6_swaps_101 : decode cX6_swaps 101 = .ok (.istore 5, 2) := by decide +kernel
theorem dX6_swaps_103 : decode cX6_swaps 103 = .ok (.iinc 7 1, 3) := by decide +kernel
theorem dX6_swaps_106 : decode cX6_swaps 106 = .ok (.goto (-60), 3) := by decide +kernel
theorem dX6_swaps_109 : decode cX6_swaps 109 = .ok (.iinc 6 1, 3) := by decide +kernel
theorem dX6_swaps_112 : decode cX6_swaps 112 = .ok (.goto (-81), 3) := by decide +kernel
theorem dX6_swaps_115 : decode cX6_swaps 115 = .ok (.iload_n 3, 1) := by decide +kernel
theorem dX6_swaps_116 : decode cX6_swaps 116 = .ok (.ifCond .ne 7, 3) := by decide +kernel
theorem dX6_swaps_119 : decode cX6_swaps 119 = .ok (.iload 4, 2) := by decide +kernel
theorem dX6_swaps_121 : decode cX6_swaps 121 = .ok (.i2l, 1) := by decide +kernel
theorem dX6_swaps_122 : decode cX6_swaps 122 = .ok (.lreturn, 1) := by decide +kernel
theorem dX6_swaps_123 : decode cX6_swaps 123 = .ok (.iload 4, 2) := by decide +kernel
theorem dX6_swaps_125 : decode cX6_swaps 125 = .ok (.ifCond .ne 9, 3) := by decide +kernel
theorem dX6_swaps_128 : decode cX6_swaps 128 = .ok (.ldc2_w 170, 3) := by decide +kernel
theorem dX6_swaps_131 : decode cX6_swaps 131 = .ok (.goto 27, 3) := by decide +kernel
theorem dX6_swaps_134 : decode cX6_swaps 134 = .ok (.aload_n 0, 1) := by decide +kernel
theorem dX6_swaps_135 : decode cX6_swaps 135 = .ok (.iload 5, 2) := by decide +kernel
theorem dX6_swaps_137 : decode cX6_swaps 137 = .ok (.i2l, 1) := by decide +kernel
theorem dX6_swaps_138 : decode cX6_swaps 138 = .ok (.ldc2_w 215, 3) := by decide +kernel
theorem dX6_swaps_141 : decode cX6_swaps 141 = .ok (.iload 4, 2) := by decide +kernel
theorem dX6_swaps_143 : decode cX6_swaps 143 = .ok (.i2l, 1) := by decide +kernel
theorem dX6_swaps_144 : decode cX6_swaps 144 = .ok (.lmul, 1) := by decide +kernel
theorem dX6_swaps_145 : decode cX6_swaps 145 = .ok (.iload_n 3, 1) := by decide +kernel
theorem dX6_swaps_146 : decode cX6_swaps 146 = .ok (.iconst 2, 1) := by decide +kernel
theorem dX6_swaps_147 : decode cX6_swaps 147 = .ok (.if_icmp .ne 7, 3) := by decide +kernel
theorem dX6_swaps_150 : decode cX6_swaps 150 = .ok (.iconst 1, 1) := by decide +kernel
theorem dX6_swaps_151 : decode cX6_swaps 151 = .ok (.goto 4, 3) := by decide +kernel
theorem dX6_swaps_154 : decode cX6_swaps 154 = .ok (.iconst 0, 1) := by decide +kernel
theorem dX6_swaps_155 : decode cX6_swaps 155 = .ok (.invokevirtual 184, 3) := by decide +kernel
theorem dX6_swaps_158 : decode cX6_swaps 158 = .ok (.lreturn, 1) := by decide +kernel
theorem dX6_next_0 : decode cX6_next 0 = .ok (.iload_n 2, 1) := by decide +kernel
theorem dX6_next_1 : decode cX6_next 1 = .ok (.ifCond .lt 16, 3) := by decide +kernel
theorem dX6_next_4 : decode cX6_next 4 = .ok (.iload_n 2, 1) := by decide +kernel
theorem dX6_next_5 : decode cX6_next 5 = .ok (.iconst 4, 1) := by decide +kernel
theorem dX6_next_6 : decode cX6_next 6 = .ok (.if_icmp .gt 11, 3) := by decide +kernel
theorem dX6_next_9 : decode cX6_next 9 = .ok (.aload_n 0, 1) := by decide +kernel
theorem dX6_next_10 : decode cX6_next 10 = .ok (.iload_n 1, 1) := by decide +kernel
theorem dX6_next_11 : decode cX6_next 11 = .ok (.invokevirtual 217, 3) := by decide +kernel
theorem dX6_next_14 : decode cX6_next 14 = .ok (.ifCond .ne 7, 3) := by decide +kernel
theorem dX6_next_17 : decode cX6_next 17 = .ok (.ldc2_w 220, 3) := by decide +kernel
theorem dX6_next_20 : decode cX6_next 20 = .ok (.lreturn, 1) := by decide +kernel
theorem dX6_next_21 : decode cX6_next 21 = .ok (.iload_n 2, 1) := by decide +kernel
theorem dX6_next_22 : decode cX6_next 22 = .ok (.tableswitch 68 0 3 #[30, 39, 48, 57], 30) := by decide +kernel
theorem dX6_next_52 : decode cX6_next 52 = .ok (.aload_n 0, 1) := by decide +kernel
theorem dX6_next_53 : decode cX6_next 53 = .ok (.getfield 49, 3) := by decide +kernel
theorem dX6_next_56 : decode cX6_next 56 = .ok (.getfield 222, 3) := by decide +kernel
theorem dX6_next_59 : decode cX6_next 59 = .ok (.i2l, 1) := by decide +kernel
theorem dX6_next_60 : decode cX6_next 60 = .ok (.lreturn, 1) := by decide +kernel
theorem dX6_next_61 : decode cX6_next 61 = .ok (.aload_n 0, 1) := by decide +kernel
theorem dX6_next_62 : decode cX6_next 62 = .ok (.getfield 49, 3) := by decide +kernel
theorem dX6_next_65 : decode cX6_next 65 = .ok (.getfield 225, 3) := by decide +kernel
theorem dX6_next_68 : decode cX6_next 68 = .ok (.i2l, 1) := by decide +kernel
theorem dX6_next_69 : decode cX6_next 69 = .ok (.lreturn, 1) := by decide +kernel
theorem dX6_next_70 : decode cX6_next 70 = .ok (.aload_n 0, 1) := by decide +kernel
theorem dX6_next_71 : decode cX6_next 71 = .ok (.getfield 49, 3) := by decide +kernel
theorem dX6_next_74 : decode cX6_next 74 = .ok (.getfield 228, 3) := by decide +kernel
theorem dX6_next_77 : decode cX6_next 77 = .ok (.i2l, 1) := by decide +kernel
theorem dX6_next_78 : decode cX6_next 78 = .ok (.lreturn, 1) := by decide +kernel
theorem dX6_next_79 : decode cX6_next 79 = .ok (.aload_n 0, 1) := by decide +kernel
theorem dX6_next_80 : decode cX6_next 80 = .ok (.getfield 49, 3) := by decide +kernel
theorem dX6_next_83 : decode cX6_next 83 = .ok (.getfield 231, 3) := by decide +kernel
theorem dX6_next_86 : decode cX6_next 86 = .ok (.getfield 234, 3) := by decide +kernel
theorem dX6_next_89 : decode cX6_next 89 = .ok (.lreturn, 1) := by decide +kernel
theorem dX6_next_90 : decode cX6_next 90 = .ok (.aload_n 0, 1) := by decide +kernel
theorem dX6_next_91 : decode cX6_next 91 = .ok (.getfield 49, 3) := by decide +kernel
theorem dX6_next_94 : decode cX6_next 94 = .ok (.getfield 231, 3) := by decide +kernel
theorem dX6_next_97 : decode cX6_next 97 = .ok (.getfield 237, 3) := by decide +kernel
theorem dX6_next_100 : decode cX6_next 100 = .ok (.lreturn, 1) := by decide +kernel
theorem dX6_fewest_0 : decode cX6_fewest 0 = .ok (.iload_n 1, 1) := by decide +kernel
theorem dX6_fewest_1 : decode cX6_fewest 1 = .ok (.iconst 1, 1) := by decide +kernel
theorem dX6_fewest_2 : decode cX6_fewest 2 = .ok (.if_icmp .lt 8, 3) := by decide +kernel
theorem dX6_fewest_5 : decode cX6_fewest 5 = .ok (.iload_n 1, 1) := by decide +kernel
theorem dX6_fewest_6 : decode cX6_fewest 6 = .ok (.iconst 3, 1) := by decide +kernel
theorem dX6_fewest_7 : decode cX6_fewest 7 = .ok (.if_icmp .le 5, 3) := by decide +kernel
theorem dX6_fewest_10 : decode cX6_fewest 10 = .ok (.iconst (-1), 1) := by decide +kernel
theorem dX6_fewest_11 : decode cX6_fewest 11 = .ok (.ireturn, 1) := by decide +kernel
theorem dX6_fewest_12 : decode cX6_fewest 12 = .ok (.aload_n 0, 1) := by decide +kernel
theorem dX6_fewest_13 : decode cX6_fewest 13 = .ok (.getfield 30, 3) := by decide +kernel
theorem dX6_fewest_16 : decode cX6_fewest 16 = .ok (.aload_n 0, 1) := by decide +kernel
theorem dX6_fewest_17 : decode cX6_fewest 17 = .ok (.getfield 26, 3) := by decide +kernel
theorem dX6_fewest_20 : decode cX6_fewest 20 = .ok (.invokevirtual 240, 3) := by decide +kernel
theorem dX6_fewest_23 : decode cX6_fewest 23 = .ok (.aload_n 0, 1) := by decide +kernel
theorem dX6_fewest_24 : decode cX6_fewest 24 = .ok (.getfield 30, 3) := by decide +kernel
theorem dX6_fewest_27 : decode cX6_fewest 27 = .ok (.invokevirtual 244, 3) := by decide +kernel
theorem dX6_fewest_30 : decode cX6_fewest 30 = .ok (.aload_n 0, 1) := by decide +kernel
theorem dX6_fewest_31 : decode cX6_fewest 31 = .ok (.iload_n 1, 1) := by decide +kernel
theorem dX6_fewest_32 : decode cX6_fewest 32 = .ok (.invokevirtual 247, 3) := by decide +kernel
theorem dX6_fewest_35 : decode cX6_fewest 35 = .ok (.istore_n 2, 1) := by decide +kernel
theorem dX6_fewest_36 : decode cX6_fewest 36 = .ok (.iconst 0, 1) := by decide +kernel
theorem dX6_fewest_37 : decode cX6_fewest 37 = .ok (.istore_n 3, 1) := by decide +kernel
theorem dX6_fewest_38 : decode cX6_fewest 38 = .ok (.iconst 0, 1) := by decide +kernel
theorem dX6_fewest_39 : decode cX6_fewest 39 = .ok (.istore 4, 2) := by decide +kernel
theorem dX6_fewest_41 : decode cX6_fewest 41 = .ok (.iload 4, 2) := by decide +kernel
theorem dX6_fewest_43 : decode cX6_fewest 43 = .ok (.iload_n 2, 1) := by decide +kernel
theorem dX6_fewest_44 : decode cX6_fewest 44 = .ok (.if_icmp .ge 60, 3) := by decide +kernel
theorem dX6_fewest_47 : decode cX6_fewest 47 = .ok (.aload_n 0, 1) := by decide +kernel
theorem dX6_fewest_48 : decode cX6_fewest 48 = .ok (.getfield 30, 3) := by decide +kernel
theorem dX6_fewest_51 : decode cX6_fewest 51 = .ok (.aload_n 0, 1) := by decide +kernel
theorem dX6_fewest_52 : decode cX6_fewest 52 = .ok (.getfield 53, 3) := by decide +kernel
theorem dX6_fewest_55 : decode cX6_fewest 55 = .ok (.iload 4, 2) := by decide +kernel
theorem dX6_fewest_57 : decode cX6_fewest 57 = .ok (.iaload, 1) := by decide +kernel
theorem dX6_fewest_58 : decode cX6_fewest 58 = .ok (.aload_n 0, 1) := by decide +kernel
theorem dX6_fewest_59 : decode cX6_fewest 59 = .ok (.getfield 57, 3) := by decide +kernel
theorem dX6_fewest_62 : decode cX6_fewest 62 = .ok (.iload 4, 2) := by decide +kernel
theorem dX6_fewest_64 : decode cX6_fewest 64 = .ok (.iaload, 1) := by decide +kernel
theorem dX6_fewest_65 : decode cX6_fewest 65 = .ok (.iconst 0, 1) := by decide +kernel
theorem dX6_fewest_66 : decode cX6_fewest 66 = .ok (.iconst 0, 1) := by decide +kernel
theorem dX6_fewest_67 : decode cX6_fewest 67 = .ok (.invokevirtual 250, 3) := by decide +kernel
theorem dX6_fewest_70 : decode cX6_fewest 70 = .ok (.aload_n 0, 1) := by decide +kernel
theorem dX6_fewest_71 : decode cX6_fewest 71 = .ok (.getfield 30, 3) := by decide +kernel
theorem dX6_fewest_74 : decode cX6_fewest 74 = .ok (.invokevirtual 253, 3) := by decide +kernel
theorem dX6_fewest_77 : decode cX6_fewest 77 = .ok (.ifCond .ne 21, 3) := by decide +kernel
theorem dX6_fewest_80 : decode cX6_fewest 80 = .ok (.aload_n 0, 1) := by decide +kernel
theorem dX6_fewest_81 : decode cX6_fewest 81 = .ok (.getfield 30, 3) := by decide +kernel
theorem dX6_fewest_84 : decode cX6_fewest 84 = .ok (.iconst 1, 1) := by decide +kernel
theorem dX6_fewest_85 : decode cX6_fewest 85 = .ok (.invokevirtual 256, 3) := by decide +kernel
theorem dX6_fewest_88 : decode cX6_fewest 88 = .ok (.aload_n 0, 1) := by decide +kernel
theorem dX6_fewest_89 : decode cX6_fewest 89 = .ok (.getfield 30, 3) := by decide +kernel
theorem dX6_fewest_92 : decode cX6_fewest 92 = .ok (.invokevirtual 244, 3) := by decide +kernel
theorem dX6_fewest_95 : decode cX6_fewest 95 = .ok (.iinc 3 1, 3) := by decide +kernel
theorem dX6_fewest_98 : decode cX6_fewest 98 = .ok (.iinc 4 1, 3) := by decide +kernel
theorem dX6_fewest_101 : decode cX6_fewest 101 = .ok (.goto (-60), 3) := by decide +kernel
theorem dX6_fewest_104 : decode cX6_fewest 104 = .ok (.aload_n 0, 1) := by decide +kernel
theorem dX6_fewest_105 : decode cX6_fewest 105 = .ok (.getfield 10, 3) := by decide +kernel
theorem dX6_fewest_108 : decode cX6_fewest 108 = .ok (.getfield 132, 3) := by decide +kernel
theorem dX6_fewest_111 : decode cX6_fewest 111 = .ok (.aload_n 0, 1) := by decide +kernel
theorem dX6_fewest_112 : decode cX6_fewest 112 = .ok (.getfield 10, 3) := by decide +kernel
theorem dX6_fewest_115 : decode cX6_fewest 115 = .ok (.getfield 132, 3) := by decide +kernel
theorem dX6_fewest_118 : decode cX6_fewest 118 = .ok (.iconst 1, 1) := by decide +kernel
theorem dX6_fewest_119 : decode cX6_fewest 119 = .ok (.isub, 1) := by decide +kernel
theorem dX6_fewest_120 : decode cX6_fewest 120 = .ok (.imul, 1) := by decide +kernel
theorem dX6_fewest_121 : decode cX6_fewest 121 = .ok (.iconst 2, 1) := by decide +kernel
theorem dX6_fewest_122 : decode cX6_fewest 122 = .ok (.idiv, 1) := by decide +kernel
theorem dX6_fewest_123 : decode cX6_fewest 123 = .ok (.istore 4, 2) := by decide +kernel
theorem dX6_fewest_125 : decode cX6_fewest 125 = .ok (.aload_n 0, 1) := by decide +kernel
theorem dX6_fewest_126 : decode cX6_fewest 126 = .ok (.getfield 30, 3) := by decide +kernel
theorem dX6_fewest_129 : decode cX6_fewest 129 = .ok (.aload_n 0, 1) := by decide +kernel
theorem dX6_fewest_130 : decode cX6_fewest 130 = .ok (.getfield 10, 3) := by decide +kernel
theorem dX6_fewest_133 : decode cX6_fewest 133 = .ok (.getfield 132, 3) := by decide +kernel
theorem dX6_fewest_136 : decode cX6_fewest 136 = .ok (.invokevirtual 135, 3) := by decide +kernel
theorem dX6_fewest_139 : decode cX6_fewest 139 = .ok (.iload 4, 2) := by decide +kernel
theorem dX6_fewest_141 : decode cX6_fewest 141 = .ok (.if_icmp .ne 7, 3) := by decide +kernel
theorem dX6_fewest_144 : decode cX6_fewest 144 = .ok (.iload_n 3, 1) := by decide +kernel
theorem dX6_fewest_145 : decode cX6_fewest 145 = .ok (.goto 4, 3) := by decide +kernel
theorem dX6_fewest_148 : decode cX6_fewest 148 = .ok (.iconst (-1), 1) := by decide +kernel
theorem dX6_fewest_149 : decode cX6_fewest 149 = .ok (.ireturn, 1) := by decide +kernel
theorem dX6_odd_0 : decode cX6_odd 0 = .ok (.iload_n 1, 1) := by decide +kernel
theorem dX6_odd_1 : decode cX6_odd 1 = .ok (.ifCond .lt 18, 3) := by decide +kernel
theorem dX6_odd_4 : decode cX6_odd 4 = .ok (.iload_n 1, 1) := by decide +kernel
theorem dX6_odd_5 : decode cX6_odd 5 = .ok (.iconst 2, 1) := by decide +kernel
theorem dX6_odd_6 : decode cX6_odd 6 = .ok (.if_icmp .gt 13, 3) := by decide +kernel
theorem dX6_odd_9 : decode cX6_odd 9 = .ok (.aload_n 0, 1) := by decide +kernel
theorem dX6_odd_10 : decode cX6_odd 10 = .ok (.getfield 10, 3) := by decide +kernel
theorem dX6_odd_13 : decode cX6_odd 13 = .ok (.getfield 123, 3) := by decide +kernel
theorem dX6_odd_16 : decode cX6_odd 16 = .ok (.ifCond .ne 7, 3) := by decide +kernel
theorem dX6_odd_19 : decode cX6_odd 19 = .ok (.ldc2_w 220, 3) := by decide +kernel
theorem dX6_odd_22 : decode cX6_odd 22 = .ok (.lreturn, 1) := by decide +kernel
theorem dX6_odd_23 : decode cX6_odd 23 = .ok (.iconst 0, 1) := by decide +kernel
theorem dX6_odd_24 : decode cX6_odd 24 = .ok (.istore_n 2, 1) := by decide +kernel
theorem dX6_odd_25 : decode cX6_odd 25 = .ok (.iconst 0, 1) := by decide +kernel
theorem dX6_odd_26 : decode cX6_odd 26 = .ok (.istore_n 3, 1) := by decide +kernel
theorem dX6_odd_27 : decode cX6_odd 27 = .ok (.iload_n 3, 1) := by decide +kernel
theorem dX6_odd_28 : decode cX6_odd 28 = .ok (.aload_n 0, 1) := by decide +kernel
theorem dX6_odd_29 : decode cX6_odd 29 = .ok (.getfield 10, 3) := by decide +kernel
theorem dX6_odd_32 : decode cX6_odd 32 = .ok (.getfield 123, 3) := by decide +kernel
theorem dX6_odd_35 : decode cX6_odd 35 = .ok (.if_icmp .ge 141, 3) := by decide +kernel
theorem dX6_odd_38 : decode cX6_odd 38 = .ok (.aload_n 0, 1) := by decide +kernel
theorem dX6_odd_39 : decode cX6_odd 39 = .ok (.getfield 30, 3) := by decide +kernel
theorem dX6_odd_42 : decode cX6_odd 42 = .ok (.aload_n 0, 1) := by decide +kernel
theorem dX6_odd_43 : decode cX6_odd 43 = .ok (.getfield 26, 3) := by decide +kernel
theorem dX6_odd_46 : decode cX6_odd 46 = .ok (.invokevirtual 240, 3) := by decide +kernel
theorem dX6_odd_49 : decode cX6_odd 49 = .ok (.aload_n 0, 1) := by decide +kernel
theorem dX6_odd_50 : decode cX6_odd 50 = .ok (.getfield 30, 3) := by decide +kernel
theorem dX6_odd_53 : decode cX6_odd 53 = .ok (.aload_n 0, 1) := by decide +kernel
theorem dX6_odd_54 : decode cX6_odd 54 = .ok (.getfield 26, 3) := by decide +kernel
theorem dX6_odd_57 : decode cX6_odd 57 = .ok (.invokevirtual 259, 3) := by decide +kernel
theorem dX6_odd_60 : decode cX6_odd 60 = .ok (.aload_n 0, 1) := by decide +kernel
theorem dX6_odd_61 : decode cX6_odd 61 = .ok (.getfield 30, 3) := by decide +kernel
theorem dX6_odd_64 : decode cX6_odd 64 = .ok (.aload_n 0, 1) := by decide +kernel
theorem dX6_odd_65 : decode cX6_odd 65 = .ok (.getfield 10, 3) := by decide +kernel
theorem dX6_odd_68 : decode cX6_odd 68 = .ok (.getfield 153, 3) := by decide +kernel
theorem dX6_odd_71 : decode cX6_odd 71 = .ok (.iload_n 3, 1) := by decide +kernel
theorem dX6_odd_72 : decode cX6_odd 72 = .ok (.iaload, 1) := by decide +kernel
theorem dX6_odd_73 : decode cX6_odd 73 = .ok (.aload_n 0, 1) := by decide +kernel
theorem dX6_odd_74 : decode cX6_odd 74 = .ok (.getfield 10, 3) := by decide +kernel
theorem dX6_odd_77 : decode cX6_odd 77 = .ok (.getfield 156, 3) := by decide +kernel
theorem dX6_odd_80 : decode cX6_odd 80 = .ok (.iload_n 3, 1) := by decide +kernel
theorem dX6_odd_81 : decode cX6_odd 81 = .ok (.iaload, 1) := by decide +kernel
theorem dX6_odd_82 : decode cX6_odd 82 = .ok (.aload_n 0, 1) := by decide +kernel
theorem dX6_odd_83 : decode cX6_odd 83 = .ok (.getfield 10, 3) := by decide +kernel
theorem dX6_odd_86 : decode cX6_odd 86 = .ok (.getfield 162, 3) := by decide +kernel
theorem dX6_odd_89 : decode cX6_odd 89 = .ok (.iload_n 3, 1) := by decide +kernel
theorem dX6_odd_90 : decode cX6_odd 90 = .ok (.iaload, 1) := by decide +kernel
theorem dX6_odd_91 : decode cX6_odd 91 = .ok (.aload_n 0, 1) := by decide +kernel
theorem dX6_odd_92 : decode cX6_odd 92 = .ok (.getfield 10, 3) := by decide +kernel
theorem dX6_odd_95 : decode cX6_odd 95 = .ok (.getfield 159, 3) := by decide +kernel
theorem dX6_odd_98 : decode cX6_odd 98 = .ok (.iload_n 3, 1) := by decide +kernel
theorem dX6_odd_99 : decode cX6_odd 99 = .ok (.iaload, 1) := by decide +kernel
theorem dX6_odd_100 : decode cX6_odd 100 = .ok (.invokevirtual 250, 3) := by decide +kernel
theorem dX6_odd_103 : decode cX6_odd 103 = .ok (.aload_n 0, 1) := by decide +kernel
theorem dX6_odd_104 : decode cX6_odd 104 = .ok (.getfield 30, 3) := by decide +kernel
theorem dX6_odd_107 : decode cX6_odd 107 = .ok (.iconst (-1), 1) := by decide +kernel
theorem dX6_odd_108 : decode cX6_odd 108 = .ok (.invokevirtual 256, 3) := by decide +kernel
theorem dX6_odd_111 : decode cX6_odd 111 = .ok (.aload_n 0, 1) := by decide +kernel
theorem dX6_odd_112 : decode cX6_odd 112 = .ok (.getfield 30, 3) := by decide +kernel
theorem dX6_odd_115 : decode cX6_odd 115 = .ok (.invokevirtual 244, 3) := by decide +kernel
theorem dX6_odd_118 : decode cX6_odd 118 = .ok (.aload_n 0, 1) := by decide +kernel
theorem dX6_odd_119 : decode cX6_odd 119 = .ok (.getfield 40, 3) := by decide +kernel
theorem dX6_odd_122 : decode cX6_odd 122 = .ok (.aload_n 0, 1) := by decide +kernel
theorem dX6_odd_123 : decode cX6_odd 123 = .ok (.getfield 30, 3) := by decide +kernel
theorem dX6_odd_126 : decode cX6_odd 126 = .ok (.invokevirtual 188, 3) := by decide +kernel
theorem dX6_odd_129 : decode cX6_odd 129 = .ok (.aload_n 0, 1) := by decide +kernel
theorem dX6_odd_130 : decode cX6_odd 130 = .ok (.getfield 30, 3) := by decide +kernel
theorem dX6_odd_133 : decode cX6_odd 133 = .ok (.getfield 180, 3) := by decide +kernel
theorem dX6_odd_136 : decode cX6_odd 136 = .ok (.invokevirtual 262, 3) := by decide +kernel
theorem dX6_odd_139 : decode cX6_odd 139 = .ok (.iload_n 3, 1) := by decide +kernel
theorem dX6_odd_140 : decode cX6_odd 140 = .ok (.ifCond .eq 17, 3) := by decide +kernel
theorem dX6_odd_143 : decode cX6_odd 143 = .ok (.aload_n 0, 1) := by decide +kernel
theorem dX6_odd_144 : decode cX6_odd 144 = .ok (.getfield 40, 3) := by decide +kernel
theorem dX6_odd_147 : decode cX6_odd 147 = .ok (.aload_n 0, 1) := by decide +kernel
theorem dX6_odd_148 : decode cX6_odd 148 = .ok (.getfield 43, 3) := by decide +kernel
theorem dX6_odd_151 : decode cX6_odd 151 = .ok (.invokevirtual 266, 3) := by decide +kernel
theorem dX6_odd_154 : decode cX6_odd 154 = .ok (.ifCond .eq 16, 3) := by decide +kernel
theorem dX6_odd_157 : decode cX6_odd 157 = .ok (.iload_n 3, 1) := by decide +kernel
theorem dX6_odd_158 : decode cX6_odd 158 = .ok (.istore_n 2, 1) := by decide +kernel
theorem dX6_odd_159 : decode cX6_odd 159 = .ok (.aload_n 0, 1) := by decide +kernel
theorem dX6_odd_160 : decode cX6_odd 160 = .ok (.getfield 43, 3) := by decide +kernel
theorem dX6_odd_163 : decode cX6_odd 163 = .ok (.aload_n 0, 1) := by decide +kernel
theorem dX6_odd_164 : decode cX6_odd 164 = .ok (.getfield 40, 3) := by decide +kernel
theorem dX6_odd_167 : decode cX6_odd 167 = .ok (.invokevirtual 270, 3) := by decide +kernel
theorem dX6_odd_170 : decode cX6_odd 170 = .ok (.iinc 3 1, 3) := by decide +kernel
theorem dX6_odd_173 : decode cX6_odd 173 = .ok (.goto (-146), 3) := by decide +kernel
theorem dX6_odd_176 : decode cX6_odd 176 = .ok (.iload_n 1, 1) := by decide +kernel
theorem dX6_odd_177 : decode cX6_odd 177 = .ok (.ifCond .ne 6, 3) := by decide +kernel
theorem dX6_odd_180 : decode cX6_odd 180 = .ok (.iload_n 2, 1) := by decide +kernel
theorem dX6_odd_181 : decode cX6_odd 181 = .ok (.i2l, 1) := by decide +kernel
theorem dX6_odd_182 : decode cX6_odd 182 = .ok (.lreturn, 1) := by decide +kernel
theorem dX6_odd_183 : decode cX6_odd 183 = .ok (.iload_n 1, 1) := by decide +kernel
theorem dX6_odd_184 : decode cX6_odd 184 = .ok (.iconst 1, 1) := by decide +kernel
theorem dX6_odd_185 : decode cX6_odd 185 = .ok (.if_icmp .ne 13, 3) := by decide +kernel
theorem dX6_odd_188 : decode cX6_odd 188 = .ok (.aload_n 0, 1) := by decide +kernel
theorem dX6_odd_189 : decode cX6_odd 189 = .ok (.getfield 43, 3) := by decide +kernel
theorem dX6_odd_192 : decode cX6_odd 192 = .ok (.getfield 234, 3) := by decide +kernel
theorem dX6_odd_195 : decode cX6_odd 195 = .ok (.goto 10, 3) := by decide +kernel
theorem dX6_odd_198 : decode cX6_odd 198 = .ok (.aload_n 0, 1) := by decide +kernel
theorem dX6_odd_199 : decode cX6_odd 199 = .ok (.getfield 43, 3) := by decide +kernel
theorem dX6_odd_202 : decode cX6_odd 202 = .ok (.getfield 237, 3) := by decide +kernel
theorem dX6_odd_205 : decode cX6_odd 205 = .ok (.lreturn, 1) := by decide +kernel
theorem dX6_even_0 : decode cX6_even 0 = .ok (.iload_n 2, 1) := by decide +kernel
theorem dX6_even_1 : decode cX6_even 1 = .ok (.ifCond .lt 16, 3) := by decide +kernel
theorem dX6_even_4 : decode cX6_even 4 = .ok (.iload_n 2, 1) := by decide +kernel
theorem dX6_even_5 : decode cX6_even 5 = .ok (.iconst 1, 1) := by decide +kernel
theorem dX6_even_6 : decode cX6_even 6 = .ok (.if_icmp .gt 11, 3) := by decide +kernel
theorem dX6_even_9 : decode cX6_even 9 = .ok (.aload_n 0, 1) := by decide +kernel
theorem dX6_even_10 : decode cX6_even 10 = .ok (.iload_n 1, 1) := by decide +kernel
theorem dX6_even_11 : decode cX6_even 11 = .ok (.invokevirtual 273, 3) := by decide +kernel
theorem dX6_even_14 : decode cX6_even 14 = .ok (.ifCond .ne 5, 3) := by decide +kernel
theorem dX6_even_17 : decode cX6_even 17 = .ok (.iconst (-1), 1) := by decide +kernel
theorem dX6_even_18 : decode cX6_even 18 = .ok (.ireturn, 1) := by decide +kernel
theorem dX6_even_19 : decode cX6_even 19 = .ok (.iload_n 2, 1) := by decide +kernel
theorem dX6_even_20 : decode cX6_even 20 = .ok (.ifCond .ne 13, 3) := by decide +kernel
theorem dX6_even_23 : decode cX6_even 23 = .ok (.aload_n 0, 1) := by decide +kernel
theorem dX6_even_24 : decode cX6_even 24 = .ok (.getfield 49, 3) := by decide +kernel
theorem dX6_even_27 : decode cX6_even 27 = .ok (.getfield 222, 3) := by decide +kernel
theorem dX6_even_30 : decode cX6_even 30 = .ok (.goto 10, 3) := by decide +kernel
theorem dX6_even_33 : decode cX6_even 33 = .ok (.aload_n 0, 1) := by decide +kernel
theorem dX6_even_34 : decode cX6_even 34 = .ok (.getfield 49, 3) := by decide +kernel
theorem dX6_even_37 : decode cX6_even 37 = .ok (.getfield 225, 3) := by decide +kernel
theorem dX6_even_40 : decode cX6_even 40 = .ok (.ireturn, 1) := by decide +kernel
theorem dX6_judge_0 : decode cX6_judge 0 = .ok (.aload_n 0, 1) := by decide +kernel
theorem dX6_judge_1 : decode cX6_judge 1 = .ok (.getfield 26, 3) := by decide +kernel
theorem dX6_judge_4 : decode cX6_judge 4 = .ok (.invokevirtual 276, 3) := by decide +kernel
theorem dX6_judge_7 : decode cX6_judge 7 = .ok (.iconst 0, 1) := by decide +kernel
theorem dX6_judge_8 : decode cX6_judge 8 = .ok (.istore_n 1, 1) := by decide +kernel
theorem dX6_judge_9 : decode cX6_judge 9 = .ok (.iload_n 1, 1) := by decide +kernel
theorem dX6_judge_10 : decode cX6_judge 10 = .ok (.aload_n 0, 1) := by decide +kernel
theorem dX6_judge_11 : decode cX6_judge 11 = .ok (.getfield 10, 3) := by decide +kernel
theorem dX6_judge_14 : decode cX6_judge 14 = .ok (.getfield 123, 3) := by decide +kernel
theorem dX6_judge_17 : decode cX6_judge 17 = .ok (.if_icmp .ge 60, 3) := by decide +kernel
theorem dX6_judge_20 : decode cX6_judge 20 = .ok (.aload_n 0, 1) := by decide +kernel
theorem dX6_judge_21 : decode cX6_judge 21 = .ok (.getfield 26, 3) := by decide +kernel
theorem dX6_judge_24 : decode cX6_judge 24 = .ok (.aload_n 0, 1) := by decide +kernel
theorem dX6_judge_25 : decode cX6_judge 25 = .ok (.getfield 10, 3) := by decide +kernel
theorem dX6_judge_28 : decode cX6_judge 28 = .ok (.getfield 153, 3) := by decide +kernel
theorem dX6_judge_31 : decode cX6_judge 31 = .ok (.iload_n 1, 1) := by decide +kernel
theorem dX6_judge_32 : decode cX6_judge 32 = .ok (.iaload, 1) := by decide +kernel
theorem dX6_judge_33 : decode cX6_judge 33 = .ok (.aload_n 0, 1) := by decide +kernel
theorem dX6_judge_34 : decode cX6_judge 34 = .ok (.getfield 10, 3) := by decide +kernel
theorem dX6_judge_37 : decode cX6_judge 37 = .ok (.getfield 156, 3) := by decide +kernel
theorem dX6_judge_40 : decode cX6_judge 40 = .ok (.iload_n 1, 1) := by decide +kernel
theorem dX6_judge_41 : decode cX6_judge 41 = .ok (.iaload, 1) := by decide +kernel
theorem dX6_judge_42 : decode cX6_judge 42 = .ok (.aload_n 0, 1) := by decide +kernel
theorem dX6_judge_43 : decode cX6_judge 43 = .ok (.getfield 10, 3) := by decide +kernel
theorem dX6_judge_46 : decode cX6_judge 46 = .ok (.getfield 162, 3) := by decide +kernel
theorem dX6_judge_49 : decode cX6_judge 49 = .ok (.iload_n 1, 1) := by decide +kernel
theorem dX6_judge_50 : decode cX6_judge 50 = .ok (.iaload, 1) := by decide +kernel
theorem dX6_judge_51 : decode cX6_judge 51 = .ok (.aload_n 0, 1) := by decide +kernel
theorem dX6_judge_52 : decode cX6_judge 52 = .ok (.getfield 10, 3) := by decide +kernel
theorem dX6_judge_55 : decode cX6_judge 55 = .ok (.getfield 159, 3) := by decide +kernel
theorem dX6_judge_58 : decode cX6_judge 58 = .ok (.iload_n 1, 1) := by decide +kernel
theorem dX6_judge_59 : decode cX6_judge 59 = .ok (.iaload, 1) := by decide +kernel
theorem dX6_judge_60 : decode cX6_judge 60 = .ok (.invokevirtual 250, 3) := by decide +kernel
theorem dX6_judge_63 : decode cX6_judge 63 = .ok (.aload_n 0, 1) := by decide +kernel
theorem dX6_judge_64 : decode cX6_judge 64 = .ok (.getfield 26, 3) := by decide +kernel
theorem dX6_judge_67 : decode cX6_judge 67 = .ok (.iconst 1, 1) := by decide +kernel
theorem dX6_judge_68 : decode cX6_judge 68 = .ok (.invokevirtual 256, 3) := by decide +kernel
theorem dX6_judge_71 : decode cX6_judge 71 = .ok (.iinc 1 1, 3) := by decide +kernel
theorem dX6_judge_74 : decode cX6_judge 74 = .ok (.goto (-65), 3) := by decide +kernel
theorem dX6_judge_77 : decode cX6_judge 77 = .ok (.aload_n 0, 1) := by decide +kernel
theorem dX6_judge_78 : decode cX6_judge 78 = .ok (.getfield 26, 3) := by decide +kernel
theorem dX6_judge_81 : decode cX6_judge 81 = .ok (.invokevirtual 244, 3) := by decide +kernel
theorem dX6_judge_84 : decode cX6_judge 84 = .ok (.return_, 1) := by decide +kernel
theorem dX6_areTwo_0 : decode cX6_areTwo 0 = .ok (.aload_n 0, 1) := by decide +kernel
theorem dX6_areTwo_1 : decode cX6_areTwo 1 = .ok (.getfield 10, 3) := by decide +kernel
theorem dX6_areTwo_4 : decode cX6_areTwo 4 = .ok (.iload_n 1, 1) := by decide +kernel
theorem dX6_areTwo_5 : decode cX6_areTwo 5 = .ok (.invokevirtual 167, 3) := by decide +kernel
theorem dX6_areTwo_8 : decode cX6_areTwo 8 = .ok (.ifCond .eq 23, 3) := by decide +kernel
theorem dX6_areTwo_11 : decode cX6_areTwo 11 = .ok (.aload_n 0, 1) := by decide +kernel
theorem dX6_areTwo_12 : decode cX6_areTwo 12 = .ok (.getfield 10, 3) := by decide +kernel
theorem dX6_areTwo_15 : decode cX6_areTwo 15 = .ok (.iload_n 2, 1) := by decide +kernel
theorem dX6_areTwo_16 : decode cX6_areTwo 16 = .ok (.invokevirtual 167, 3) := by decide +kernel
theorem dX6_areTwo_19 : decode cX6_areTwo 19 = .ok (.ifCond .eq 12, 3) := by decide +kernel
theorem dX6_areTwo_22 : decode cX6_areTwo 22 = .ok (.iload_n 1, 1) := by decide +kernel
theorem dX6_areTwo_23 : decode cX6_areTwo 23 = .ok (.iload_n 2, 1) := by decide +kernel
theorem dX6_areTwo_24 : decode cX6_areTwo 24 = .ok (.if_icmp .eq 7, 3) := by decide +kernel
theorem dX6_areTwo_27 : decode cX6_areTwo 27 = .ok (.iconst 1, 1) := by decide +kernel
theorem dX6_areTwo_28 : decode cX6_areTwo 28 = .ok (.goto 4, 3) := by decide +kernel
theorem dX6_areTwo_31 : decode cX6_areTwo 31 = .ok (.iconst 0, 1) := by decide +kernel
theorem dX6_areTwo_32 : decode cX6_areTwo 32 = .ok (.ireturn, 1) := by decide +kernel
theorem dX6_tellFraction_0 : decode cX6_tellFraction 0 = .ok (.aload_n 0, 1) := by decide +kernel
theorem dX6_tellFraction_1 : decode cX6_tellFraction 1 = .ok (.getfield 36, 3) := by decide +kernel
theorem dX6_tellFraction_4 : decode cX6_tellFraction 4 = .ok (.lload_n 1, 1) := by decide +kernel
theorem dX6_tellFraction_5 : decode cX6_tellFraction 5 = .ok (.lload_n 3, 1) := by decide +kernel
theorem dX6_tellFraction_6 : decode cX6_tellFraction 6 = .ok (.invokevirtual 262, 3) := by decide +kernel
theorem dX6_tellFraction_9 : decode cX6_tellFraction 9 = .ok (.iload 5, 2) := by decide +kernel
theorem dX6_tellFraction_11 : decode cX6_tellFraction 11 = .ok (.ifCond .eq 13, 3) := by decide +kernel
theorem dX6_tellFraction_14 : decode cX6_tellFraction 14 = .ok (.aload_n 0, 1) := by decide +kernel
theorem dX6_tellFraction_15 : decode cX6_tellFraction 15 = .ok (.getfield 36, 3) := by decide +kernel
theorem dX6_tellFraction_18 : decode cX6_tellFraction 18 = .ok (.getfield 237, 3) := by decide +kernel
theorem dX6_tellFraction_21 : decode cX6_tellFraction 21 = .ok (.goto 10, 3) := by decide +kernel
theorem dX6_tellFraction_24 : decode cX6_tellFraction 24 = .ok (.aload_n 0, 1) := by decide +kernel
theorem dX6_tellFraction_25 : decode cX6_tellFraction 25 = .ok (.getfield 36, 3) := by decide +kernel
theorem dX6_tellFraction_28 : decode cX6_tellFraction 28 = .ok (.getfield 234, 3) := by decide +kernel
theorem dX6_tellFraction_31 : decode cX6_tellFraction 31 = .ok (.lreturn, 1) := by decide +kernel
theorem dX6_tellForm_0 : decode cX6_tellForm 0 = .ok (.aload_n 0, 1) := by decide +kernel
theorem dX6_tellForm_1 : decode cX6_tellForm 1 = .ok (.getfield 26, 3) := by decide +kernel
theorem dX6_tellForm_4 : decode cX6_tellForm 4 = .ok (.iload_n 1, 1) := by decide +kernel
theorem dX6_tellForm_5 : decode cX6_tellForm 5 = .ok (.iload_n 2, 1) := by decide +kernel
theorem dX6_tellForm_6 : decode cX6_tellForm 6 = .ok (.iload_n 3, 1) := by decide +kernel
theorem dX6_tellForm_7 : decode cX6_tellForm 7 = .ok (.iconst 0, 1) := by decide +kernel
theorem dX6_tellForm_8 : decode cX6_tellForm 8 = .ok (.invokevirtual 250, 3) := by decide +kernel
theorem dX6_tellForm_11 : decode cX6_tellForm 11 = .ok (.aload_n 0, 1) := by decide +kernel
theorem dX6_tellForm_12 : decode cX6_tellForm 12 = .ok (.getfield 26, 3) := by decide +kernel
theorem dX6_tellForm_15 : decode cX6_tellForm 15 = .ok (.invokevirtual 253, 3) := by decide +kernel
theorem dX6_tellForm_18 : decode cX6_tellForm 18 = .ok (.ifCond .ne 7, 3) := by decide +kernel
theorem dX6_tellForm_21 : decode cX6_tellForm 21 = .ok (.ldc2_w 170, 3) := by decide +kernel
theorem dX6_tellForm_24 : decode cX6_tellForm 24 = .ok (.lreturn, 1) := by decide +kernel
theorem dX6_tellForm_25 : decode cX6_tellForm 25 = .ok (.aload_n 0, 1) := by decide +kernel
theorem dX6_tellForm_26 : decode cX6_tellForm 26 = .ok (.iload 4, 2) := by decide +kernel
theorem dX6_tellForm_28 : decode cX6_tellForm 28 = .ok (.ifCond .eq 13, 3) := by decide +kernel
theorem dX6_tellForm_31 : decode cX6_tellForm 31 = .ok (.aload_n 0, 1) := by decide +kernel
theorem dX6_tellForm_32 : decode cX6_tellForm 32 = .ok (.getfield 26, 3) := by decide +kernel
theorem dX6_tellForm_35 : decode cX6_tellForm 35 = .ok (.invokevirtual 279, 3) := by decide +kernel
theorem dX6_tellForm_38 : decode cX6_tellForm 38 = .ok (.goto 10, 3) := by decide +kernel
theorem dX6_tellForm_41 : decode cX6_tellForm 41 = .ok (.aload_n 0, 1) := by decide +kernel
theorem dX6_tellForm_42 : decode cX6_tellForm 42 = .ok (.getfield 26, 3) := by decide +kernel
theorem dX6_tellForm_45 : decode cX6_tellForm 45 = .ok (.invokevirtual 282, 3) := by decide +kernel
theorem dX6_tellForm_48 : decode cX6_tellForm 48 = .ok (.aload_n 0, 1) := by decide +kernel
theorem dX6_tellForm_49 : decode cX6_tellForm 49 = .ok (.getfield 26, 3) := by decide +kernel
theorem dX6_tellForm_52 : decode cX6_tellForm 52 = .ok (.getfield 180, 3) := by decide +kernel
theorem dX6_tellForm_55 : decode cX6_tellForm 55 = .ok (.iload 5, 2) := by decide +kernel
theorem dX6_tellForm_57 : decode cX6_tellForm 57 = .ok (.invokevirtual 184, 3) := by decide +kernel
theorem dX6_tellForm_60 : decode cX6_tellForm 60 = .ok (.lreturn, 1) := by decide +kernel
theorem dX6_scaledRest_0 : decode cX6_scaledRest 0 = .ok (.aload_n 0, 1) := by decide +kernel
theorem dX6_scaledRest_1 : decode cX6_scaledRest 1 = .ok (.getfield 26, 3) := by decide +kernel
theorem dX6_scaledRest_4 : decode cX6_scaledRest 4 = .ok (.aload_n 0, 1) := by decide +kernel
theorem dX6_scaledRest_5 : decode cX6_scaledRest 5 = .ok (.getfield 10, 3) := by decide +kernel
theorem dX6_scaledRest_8 : decode cX6_scaledRest 8 = .ok (.getfield 153, 3) := by decide +kernel
theorem dX6_scaledRest_11 : decode cX6_scaledRest 11 = .ok (.iload_n 1, 1) := by decide +kernel
theorem dX6_scaledRest_12 : decode cX6_scaledRest 12 = .ok (.iaload, 1) := by decide +kernel
theorem dX6_scaledRest_13 : decode cX6_scaledRest 13 = .ok (.aload_n 0, 1) := by decide +kernel
theorem dX6_scaledRest_14 : decode cX6_scaledRest 14 = .ok (.getfield 10, 3) := by decide +kernel
theorem dX6_scaledRest_17 : decode cX6_scaledRest 17 = .ok (.getfield 156, 3) := by decide +kernel
theorem dX6_scaledRest_20 : decode cX6_scaledRest 20 = .ok (.iload_n 1, 1) := by decide +kernel
theorem dX6_scaledRest_21 : decode cX6_scaledRest 21 = .ok (.iaload, 1) := by decide +kernel
theorem dX6_scaledRest_22 : decode cX6_scaledRest 22 = .ok (.aload_n 0, 1) := by decide +kernel
theorem dX6_scaledRest_23 : decode cX6_scaledRest 23 = .ok (.getfield 10, 3) := by decide +kernel
theorem dX6_scaledRest_26 : decode cX6_scaledRest 26 = .ok (.getfield 162, 3) := by decide +kernel
theorem dX6_scaledRest_29 : decode cX6_scaledRest 29 = .ok (.iload_n 1, 1) := by decide +kernel
theorem dX6_scaledRest_30 : decode cX6_scaledRest 30 = .ok (.iaload, 1) := by decide +kernel
theorem dX6_scaledRest_31 : decode cX6_scaledRest 31 = .ok (.iconst 0, 1) := by decide +kernel
theorem dX6_scaledRest_32 : decode cX6_scaledRest 32 = .ok (.invokevirtual 250, 3) := by decide +kernel
theorem dX6_scaledRest_35 : decode cX6_scaledRest 35 = .ok (.aload_n 0, 1) := by decide +kernel
theorem dX6_scaledRest_36 : decode cX6_scaledRest 36 = .ok (.getfield 10, 3) := by decide +kernel
theorem dX6_scaledRest_39 : decode cX6_scaledRest 39 = .ok (.getfield 159, 3) := by decide +kernel
theorem dX6_scaledRest_42 : decode cX6_scaledRest 42 = .ok (.iload_n 1, 1) := by decide +kernel
theorem dX6_scaledRest_43 : decode cX6_scaledRest 43 = .ok (.iaload, 1) := by decide +kernel
theorem dX6_scaledRest_44 : decode cX6_scaledRest 44 = .ok (.i2l, 1) := by decide +kernel
theorem dX6_scaledRest_45 : decode cX6_scaledRest 45 = .ok (.aload_n 0, 1) := by decide +kernel
theorem dX6_scaledRest_46 : decode cX6_scaledRest 46 = .ok (.getfield 26, 3) := by decide +kernel
theorem dX6_scaledRest_49 : decode cX6_scaledRest 49 = .ok (.getfield 180, 3) := by decide +kernel
theorem dX6_scaledRest_52 : decode cX6_scaledRest 52 = .ok (.lmul, 1) := by decide +kernel
theorem dX6_scaledRest_53 : decode cX6_scaledRest 53 = .ok (.aload_n 0, 1) := by decide +kernel
theorem dX6_scaledRest_54 : decode cX6_scaledRest 54 = .ok (.getfield 26, 3) := by decide +kernel
theorem dX6_scaledRest_57 : decode cX6_scaledRest 57 = .ok (.invokevirtual 282, 3) := by decide +kernel
theorem dX6_scaledRest_60 : decode cX6_scaledRest 60 = .ok (.lsub, 1) := by decide +kernel
theorem dX6_scaledRest_61 : decode cX6_scaledRest 61 = .ok (.lreturn, 1) := by decide +kernel
theorem dX6_groupOf_0 : decode cX6_groupOf 0 = .ok (.iconst 0, 1) := by decide +kernel
theorem dX6_groupOf_1 : decode cX6_groupOf 1 = .ok (.istore_n 2, 1) := by decide +kernel
theorem dX6_groupOf_2 : decode cX6_groupOf 2 = .ok (.iconst 0, 1) := by decide +kernel
theorem dX6_groupOf_3 : decode cX6_groupOf 3 = .ok (.istore_n 3, 1) := by decide +kernel
theorem dX6_groupOf_4 : decode cX6_groupOf 4 = .ok (.iload_n 3, 1) := by decide +kernel
theorem dX6_groupOf_5 : decode cX6_groupOf 5 = .ok (.aload_n 0, 1) := by decide +kernel
theorem dX6_groupOf_6 : decode cX6_groupOf 6 = .ok (.getfield 10, 3) := by decide +kernel
theorem dX6_groupOf_9 : decode cX6_groupOf 9 = .ok (.getfield 132, 3) := by decide +kernel
theorem dX6_groupOf_12 : decode cX6_groupOf 12 = .ok (.if_icmp .ge 40, 3) := by decide +kernel
theorem dX6_groupOf_15 : decode cX6_groupOf 15 = .ok (.aload_n 0, 1) := by decide +kernel
theorem dX6_groupOf_16 : decode cX6_groupOf 16 = .ok (.getfield 26, 3) := by decide +kernel
theorem dX6_groupOf_19 : decode cX6_groupOf 19 = .ok (.iconst 1, 1) := by decide +kernel
theorem dX6_groupOf_20 : decode cX6_groupOf 20 = .ok (.iload_n 1, 1) := by decide +kernel
theorem dX6_groupOf_21 : decode cX6_groupOf 21 = .ok (.ishl, 1) := by decide +kernel
theorem dX6_groupOf_22 : decode cX6_groupOf 22 = .ok (.iconst 1, 1) := by decide +kernel
theorem dX6_groupOf_23 : decode cX6_groupOf 23 = .ok (.iload_n 3, 1) := by decide +kernel
theorem dX6_groupOf_24 : decode cX6_groupOf 24 = .ok (.ishl, 1) := by decide +kernel
theorem dX6_groupOf_25 : decode cX6_groupOf 25 = .ok (.iconst 0, 1) := by decide +kernel
theorem dX6_groupOf_26 : decode cX6_groupOf 26 = .ok (.iconst 0, 1) := by decide +kernel
theorem dX6_groupOf_27 : decode cX6_groupOf 27 = .ok (.invokevirtual 250, 3) := by decide +kernel
theorem dX6_groupOf_30 : decode cX6_groupOf 30 = .ok (.aload_n 0, 1) := by decide +kernel
theorem dX6_groupOf_31 : decode cX6_groupOf 31 = .ok (.getfield 26, 3) := by decide +kernel
theorem dX6_groupOf_34 : decode cX6_groupOf 34 = .ok (.invokevirtual 253, 3) := by decide +kernel
theorem dX6_groupOf_37 : decode cX6_groupOf 37 = .ok (.ifCond .eq 9, 3) := by decide +kernel
theorem dX6_groupOf_40 : decode cX6_groupOf 40 = .ok (.iload_n 2, 1) := by decide +kernel
theorem dX6_groupOf_41 : decode cX6_groupOf 41 = .ok (.iconst 1, 1) := by decide +kernel
theorem dX6_groupOf_42 : decode cX6_groupOf 42 = .ok (.iload_n 3, 1) := by decide +kernel
theorem dX6_groupOf_43 : decode cX6_groupOf 43 = .ok (.ishl, 1) := by decide +kernel
theorem dX6_groupOf_44 : decode cX6_groupOf 44 = .ok (.ior, 1) := by decide +kernel
theorem dX6_groupOf_45 : decode cX6_groupOf 45 = .ok (.istore_n 2, 1) := by decide +kernel
theorem dX6_groupOf_46 : decode cX6_groupOf 46 = .ok (.iinc 3 1, 3) := by decide +kernel
theorem dX6_groupOf_49 : decode cX6_groupOf 49 = .ok (.goto (-45), 3) := by decide +kernel
theorem dX6_groupOf_52 : decode cX6_groupOf 52 = .ok (.iload_n 2, 1) := by decide +kernel
theorem dX6_groupOf_53 : decode cX6_groupOf 53 = .ok (.ireturn, 1) := by decide +kernel
theorem dX6_countGroups_0 : decode cX6_countGroups 0 = .ok (.iconst 0, 1) := by decide +kernel
theorem dX6_countGroups_1 : decode cX6_countGroups 1 = .ok (.istore_n 1, 1) := by decide +kernel
theorem dX6_countGroups_2 : decode cX6_countGroups 2 = .ok (.iconst 0, 1) := by decide +kernel
theorem dX6_countGroups_3 : decode cX6_countGroups 3 = .ok (.istore_n 2, 1) := by decide +kernel
theorem dX6_countGroups_4 : decode cX6_countGroups 4 = .ok (.iload_n 2, 1) := by decide +kernel
theorem dX6_countGroups_5 : decode cX6_countGroups 5 = .ok (.aload_n 0, 1) := by decide +kernel
theorem dX6_countGroups_6 : decode cX6_countGroups 6 = .ok (.getfield 10, 3) := by decide +kernel
theorem dX6_countGroups_9 : decode cX6_countGroups 9 = .ok (.getfield 132, 3) := by decide +kernel
theorem dX6_countGroups_12 : decode cX6_countGroups 12 = .ok (.if_icmp .ge 28, 3) := by decide +kernel
theorem dX6_countGroups_15 : decode cX6_countGroups 15 = .ok (.iconst 1, 1) := by decide +kernel
theorem dX6_countGroups_16 : decode cX6_countGroups 16 = .ok (.iload_n 2, 1) := by decide +kernel
theorem dX6_countGroups_17 : decode cX6_countGroups 17 = .ok (.ishl, 1) := by decide +kernel
theorem dX6_countGroups_18 : decode cX6_countGroups 18 = .ok (.iconst 1, 1) := by decide +kernel
theorem dX6_countGroups_19 : decode cX6_countGroups 19 = .ok (.isub, 1) := by decide +kernel
theorem dX6_countGroups_20 : decode cX6_countGroups 20 = .ok (.istore_n 3, 1) := by decide +kernel
theorem dX6_countGroups_21 : decode cX6_countGroups 21 = .ok (.aload_n 0, 1) := by decide +kernel
theorem dX6_countGroups_22 : decode cX6_countGroups 22 = .ok (.iload_n 2, 1) := by decide +kernel
theorem dX6_countGroups_23 : decode cX6_countGroups 23 = .ok (.invokevirtual 204, 3) := by decide +kernel
theorem dX6_countGroups_26 : decode cX6_countGroups 26 = .ok (.iload_n 3, 1) := by decide +kernel
theorem dX6_countGroups_27 : decode cX6_countGroups 27 = .ok (.iand, 1) := by decide +kernel
theorem dX6_countGroups_28 : decode cX6_countGroups 28 = .ok (.ifCond .ne 6, 3) := by decide +kernel
theorem dX6_countGroups_31 : decode cX6_countGroups 31 = .ok (.iinc 1 1, 3) := by decide +kernel
theorem dX6_countGroups_34 : decode cX6_countGroups 34 = .ok (.iinc 2 1, 3) := by decide +kernel
theorem dX6_countGroups_37 : decode cX6_countGroups 37 = .ok (.goto (-33), 3) := by decide +kernel
theorem dX6_countGroups_40 : decode cX6_countGroups 40 = .ok (.iload_n 1, 1) := by decide +kernel
theorem dX6_countGroups_41 : decode cX6_countGroups 41 = .ok (.ireturn, 1) := by decide +kernel
theorem dX6_isAhead_0 : decode cX6_isAhead 0 = .ok (.aload_n 0, 1) := by decide +kernel
theorem dX6_isAhead_1 : decode cX6_isAhead 1 = .ok (.getfield 26, 3) := by decide +kernel
theorem dX6_isAhead_4 : decode cX6_isAhead 4 = .ok (.iconst 1, 1) := by decide +kernel
theorem dX6_isAhead_5 : decode cX6_isAhead 5 = .ok (.iload_n 1, 1) := by decide +kernel
theorem dX6_isAhead_6 : decode cX6_isAhead 6 = .ok (.ishl, 1) := by decide +kernel
theorem dX6_isAhead_7 : decode cX6_isAhead 7 = .ok (.iconst 1, 1) := by decide +kernel
theorem dX6_isAhead_8 : decode cX6_isAhead 8 = .ok (.iload_n 2, 1) := by decide +kernel
theorem dX6_isAhead_9 : decode cX6_isAhead 9 = .ok (.ishl, 1) := by decide +kernel
theorem dX6_isAhead_10 : decode cX6_isAhead 10 = .ok (.iconst 0, 1) := by decide +kernel
theorem dX6_isAhead_11 : decode cX6_isAhead 11 = .ok (.iconst 0, 1) := by decide +kernel
theorem dX6_isAhead_12 : decode cX6_isAhead 12 = .ok (.invokevirtual 250, 3) := by decide +kernel
theorem dX6_isAhead_15 : decode cX6_isAhead 15 = .ok (.aload_n 0, 1) := by decide +kernel
theorem dX6_isAhead_16 : decode cX6_isAhead 16 = .ok (.getfield 26, 3) := by decide +kernel
theorem dX6_isAhead_19 : decode cX6_isAhead 19 = .ok (.invokevirtual 253, 3) := by decide +kernel
theorem dX6_isAhead_22 : decode cX6_isAhead 22 = .ok (.ifCond .eq 28, 3) := by decide +kernel
theorem dX6_isAhead_25 : decode cX6_isAhead 25 = .ok (.aload_n 0, 1) := by decide +kernel
theorem dX6_isAhead_26 : decode cX6_isAhead 26 = .ok (.getfield 26, 3) := by decide +kernel
theorem dX6_isAhead_29 : decode cX6_isAhead 29 = .ok (.invokevirtual 282, 3) := by decide +kernel
theorem dX6_isAhead_32 : decode cX6_isAhead 32 = .ok (.iload_n 3, 1) := by decide +kernel
theorem dX6_isAhead_33 : decode cX6_isAhead 33 = .ok (.i2l, 1) := by decide +kernel
theorem dX6_isAhead_34 : decode cX6_isAhead 34 = .ok (.aload_n 0, 1) := by decide +kernel
theorem dX6_isAhead_35 : decode cX6_isAhead 35 = .ok (.getfield 26, 3) := by decide +kernel
theorem dX6_isAhead_38 : decode cX6_isAhead 38 = .ok (.invokevirtual 279, 3) := by decide +kernel
theorem dX6_isAhead_41 : decode cX6_isAhead 41 = .ok (.lmul, 1) := by decide +kernel
theorem dX6_isAhead_42 : decode cX6_isAhead 42 = .ok (.lcmp, 1) := by decide +kernel
theorem dX6_isAhead_43 : decode cX6_isAhead 43 = .ok (.ifCond .le 7, 3) := by decide +kernel
theorem dX6_isAhead_46 : decode cX6_isAhead 46 = .ok (.iconst 1, 1) := by decide +kernel
theorem dX6_isAhead_47 : decode cX6_isAhead 47 = .ok (.goto 4, 3) := by decide +kernel
theorem dX6_isAhead_50 : decode cX6_isAhead 50 = .ok (.iconst 0, 1) := by decide +kernel
theorem dX6_isAhead_51 : decode cX6_isAhead 51 = .ok (.ireturn, 1) := by decide +kernel
theorem dX6_thoseAheadOf_0 : decode cX6_thoseAheadOf 0 = .ok (.iconst 0, 1) := by decide +kernel
theorem dX6_thoseAheadOf_1 : decode cX6_thoseAheadOf 1 = .ok (.istore_n 3, 1) := by decide +kernel
theorem dX6_thoseAheadOf_2 : decode cX6_thoseAheadOf 2 = .ok (.iconst 0, 1) := by decide +kernel
theorem dX6_thoseAheadOf_3 : decode cX6_thoseAheadOf 3 = .ok (.istore 4, 2) := by decide +kernel
theorem dX6_thoseAheadOf_5 : decode cX6_thoseAheadOf 5 = .ok (.iload 4, 2) := by decide +kernel
theorem dX6_thoseAheadOf_7 : decode cX6_thoseAheadOf 7 = .ok (.aload_n 0, 1) := by decide +kernel
theorem dX6_thoseAheadOf_8 : decode cX6_thoseAheadOf 8 = .ok (.getfield 10, 3) := by decide +kernel
theorem dX6_thoseAheadOf_11 : decode cX6_thoseAheadOf 11 = .ok (.getfield 132, 3) := by decide +kernel
theorem dX6_thoseAheadOf_14 : decode cX6_thoseAheadOf 14 = .ok (.if_icmp .ge 27, 3) := by decide +kernel
theorem dX6_thoseAheadOf_17 : decode cX6_thoseAheadOf 17 = .ok (.aload_n 0, 1) := by decide +kernel
theorem dX6_thoseAheadOf_18 : decode cX6_thoseAheadOf 18 = .ok (.iload 4, 2) := by decide +kernel
theorem dX6_thoseAheadOf_20 : decode cX6_thoseAheadOf 20 = .ok (.iload_n 1, 1) := by decide +kernel
theorem dX6_thoseAheadOf_21 : decode cX6_thoseAheadOf 21 = .ok (.iload_n 2, 1) := by decide +kernel
theorem dX6_thoseAheadOf_22 : decode cX6_thoseAheadOf 22 = .ok (.invokevirtual 285, 3) := by decide +kernel
theorem dX6_thoseAheadOf_25 : decode cX6_thoseAheadOf 25 = .ok (.ifCond .eq 10, 3) := by decide +kernel
theorem dX6_thoseAheadOf_28 : decode cX6_thoseAheadOf 28 = .ok (.iload_n 3, 1) := by decide +kernel
theorem dX6_thoseAheadOf_29 : decode cX6_thoseAheadOf 29 = .ok (.iconst 1, 1) := by decide +kernel
theorem dX6_thoseAheadOf_30 : decode cX6_thoseAheadOf 30 = .ok (.iload 4, 2) := by decide +kernel
theorem dX6_thoseAheadOf_32 : decode cX6_thoseAheadOf 32 = .ok (.ishl, 1) := by decide +kernel
theorem dX6_thoseAheadOf_33 : decode cX6_thoseAheadOf 33 = .ok (.ior, 1) := by decide +kernel
theorem dX6_thoseAheadOf_34 : decode cX6_thoseAheadOf 34 = .ok (.istore_n 3, 1) := by decide +kernel
theorem dX6_thoseAheadOf_35 : decode cX6_thoseAheadOf 35 = .ok (.iinc 4 1, 3) := by decide +kernel
theorem dX6_thoseAheadOf_38 : decode cX6_thoseAheadOf 38 = .ok (.goto (-33), 3) := by decide +kernel
theorem dX6_thoseAheadOf_41 : decode cX6_thoseAheadOf 41 = .ok (.iload_n 3, 1) := by decide +kernel
theorem dX6_thoseAheadOf_42 : decode cX6_thoseAheadOf 42 = .ok (.ireturn, 1) := by decide +kernel
theorem dX6_countSurelyBehind_0 : decode cX6_countSurelyBehind 0 = .ok (.iconst 0, 1) := by decide +kernel
theorem dX6_countSurelyBehind_1 : decode cX6_countSurelyBehind 1 = .ok (.istore_n 2, 1) := by decide +kernel
theorem dX6_countSurelyBehind_2 : decode cX6_countSurelyBehind 2 = .ok (.iconst 0, 1) := by decide +kernel
theorem dX6_countSurelyBehind_3 : decode cX6_countSurelyBehind 3 = .ok (.istore_n 3, 1) := by decide +kernel
theorem dX6_countSurelyBehind_4 : decode cX6_countSurelyBehind 4 = .ok (.iload_n 3, 1) := by decide +kernel
theorem dX6_countSurelyBehind_5 : decode cX6_countSurelyBehind 5 = .ok (.aload_n 0, 1) := by decide +kernel
theorem dX6_countSurelyBehind_6 : decode cX6_countSurelyBehind 6 = .ok (.getfield 10, 3) := by decide +kernel
theorem dX6_countSurelyBehind_9 : decode cX6_countSurelyBehind 9 = .ok (.getfield 132, 3) := by decide +kernel
theorem dX6_countSurelyBehind_12 : decode cX6_countSurelyBehind 12 = .ok (.if_icmp .ge 28, 3) := by decide +kernel
theorem dX6_countSurelyBehind_15 : decode cX6_countSurelyBehind 15 = .ok (.aload_n 0, 1) := by decide +kernel
theorem dX6_countSurelyBehind_16 : decode cX6_countSurelyBehind 16 = .ok (.iload_n 1, 1) := by decide +kernel
theorem dX6_countSurelyBehind_17 : decode cX6_countSurelyBehind 17 = .ok (.iload_n 3, 1) := by decide +kernel
theorem dX6_countSurelyBehind_18 : decode cX6_countSurelyBehind 18 = .ok (.aload_n 0, 1) := by decide +kernel
theorem dX6_countSurelyBehind_19 : decode cX6_countSurelyBehind 19 = .ok (.getfield 10, 3) := by decide +kernel
theorem dX6_countSurelyBehind_22 : decode cX6_countSurelyBehind 22 = .ok (.getfield 110, 3) := by decide +kernel
theorem dX6_countSurelyBehind_25 : decode cX6_countSurelyBehind 25 = .ok (.invokevirtual 285, 3) := by decide +kernel
theorem dX6_countSurelyBehind_28 : decode cX6_countSurelyBehind 28 = .ok (.ifCond .eq 6, 3) := by decide +kernel
theorem dX6_countSurelyBehind_31 : decode cX6_countSurelyBehind 31 = .ok (.iinc 2 1, 3) := by decide +kernel
theorem dX6_countSurelyBehind_34 : decode cX6_countSurelyBehind 34 = .ok (.iinc 3 1, 3) := by decide +kernel
theorem dX6_countSurelyBehind_37 : decode cX6_countSurelyBehind 37 = .ok (.goto (-33), 3) := by decide +kernel
theorem dX6_countSurelyBehind_40 : decode cX6_countSurelyBehind 40 = .ok (.iload_n 2, 1) := by decide +kernel
theorem dX6_countSurelyBehind_41 : decode cX6_countSurelyBehind 41 = .ok (.ireturn, 1) := by decide +kernel
theorem dX6_listMatches_0 : decode cX6_listMatches 0 = .ok (.iconst 1, 1) := by decide +kernel
theorem dX6_listMatches_1 : decode cX6_listMatches 1 = .ok (.aload_n 0, 1) := by decide +kernel
theorem dX6_listMatches_2 : decode cX6_listMatches 2 = .ok (.getfield 10, 3) := by decide +kernel
theorem dX6_listMatches_5 : decode cX6_listMatches 5 = .ok (.getfield 132, 3) := by decide +kernel
theorem dX6_listMatches_8 : decode cX6_listMatches 8 = .ok (.ishl, 1) := by decide +kernel
theorem dX6_listMatches_9 : decode cX6_listMatches 9 = .ok (.istore_n 2, 1) := by decide +kernel
theorem dX6_listMatches_10 : decode cX6_listMatches 10 = .ok (.iconst 0, 1) := by decide +kernel
theorem dX6_listMatches_11 : decode cX6_listMatches 11 = .ok (.istore_n 3, 1) := by decide +kernel
theorem dX6_listMatches_12 : decode cX6_listMatches 12 = .ok (.iconst 1, 1) := by decide +kernel
theorem dX6_listMatches_13 : decode cX6_listMatches 13 = .ok (.istore 4, 2) := by decide +kernel
theorem dX6_listMatches_15 : decode cX6_listMatches 15 = .ok (.iload 4, 2) := by decide +kernel
theorem dX6_listMatches_17 : decode cX6_listMatches 17 = .ok (.iload_n 2, 1) := by decide +kernel
theorem dX6_listMatches_18 : decode cX6_listMatches 18 = .ok (.if_icmp .ge 72, 3) := by decide +kernel
theorem dX6_listMatches_21 : decode cX6_listMatches 21 = .ok (.iload 4, 2) := by decide +kernel
theorem dX6_listMatches_23 : decode cX6_listMatches 23 = .ok (.invokestatic 196, 3) := by decide +kernel
theorem dX6_listMatches_26 : decode cX6_listMatches 26 = .ok (.iload_n 1, 1) := by decide +kernel
theorem dX6_listMatches_27 : decode cX6_listMatches 27 = .ok (.if_icmp .eq 6, 3) := by decide +kernel
theorem dX6_listMatches_30 : decode cX6_listMatches 30 = .ok (.goto 54, 3) := by decide +kernel
theorem dX6_listMatches_33 : decode cX6_listMatches 33 = .ok (.iconst 1, 1) := by decide +kernel
theorem dX6_listMatches_34 : decode cX6_listMatches 34 = .ok (.istore 5, 2) := by decide +kernel
theorem dX6_listMatches_36 : decode cX6_listMatches 36 = .ok (.iload 5, 2) := by decide +kernel
theorem dX6_listMatches_38 : decode cX6_listMatches 38 = .ok (.iload_n 2, 1) := by decide +kernel
theorem dX6_listMatches_39 : decode cX6_listMatches 39 = .ok (.if_icmp .ge 45, 3) := by decide +kernel
theorem dX6_listMatches_42 : decode cX6_listMatches 42 = .ok (.iload_n 3, 1) := by decide +kernel
theorem dX6_listMatches_43 : decode cX6_listMatches 43 = .ok (.bipush 45, 2) := by decide +kernel
theorem dX6_listMatches_45 : decode cX6_listMatches 45 = .ok (.if_icmp .ge 39, 3) := by decide +kernel
theorem dX6_listMatches_48 : decode cX6_listMatches 48 = .ok (.aload_n 0, 1) := by decide +kernel
theorem dX6_listMatches_49 : decode cX6_listMatches 49 = .ok (.iload 4, 2) := by decide +kernel
theorem dX6_listMatches_51 : decode cX6_listMatches 51 = .ok (.iload 5, 2) := by decide +kernel
theorem dX6_listMatches_53 : decode cX6_listMatches 53 = .ok (.invokevirtual 288, 3) := by decide +kernel
theorem dX6_listMatches_56 : decode cX6_listMatches 56 = .ok (.ifCond .eq 22, 3) := by decide +kernel
theorem dX6_listMatches_59 : decode cX6_listMatches 59 = .ok (.aload_n 0, 1) := by decide +kernel
theorem dX6_listMatches_60 : decode cX6_listMatches 60 = .ok (.getfield 53, 3) := by decide +kernel
theorem dX6_listMatches_63 : decode cX6_listMatches 63 = .ok (.iload_n 3, 1) := by decide +kernel
theorem dX6_listMatches_64 : decode cX6_listMatches 64 = .ok (.iload 4, 2) := by decide +kernel
theorem dX6_listMatches_66 : decode cX6_listMatches 66 = .ok (.iastore, 1) := by decide +kernel
theorem dX6_listMatches_67 : decode cX6_listMatches 67 = .ok (.aload_n 0, 1) := by decide +kernel
theorem dX6_listMatches_68 : decode cX6_listMatches 68 = .ok (.getfield 57, 3) := by decide +kernel
theorem dX6_listMatches_71 : decode cX6_listMatches 71 = .ok (.iload_n 3, 1) := by decide +kernel
theorem dX6_listMatches_72 : decode cX6_listMatches 72 = .ok (.iload 5, 2) := by decide +kernel
theorem dX6_listMatches_74 : decode cX6_listMatches 74 = .ok (.iastore, 1) := by decide +kernel
theorem dX6_listMatches_75 : decode cX6_listMatches 75 = .ok (.iinc 3 1, 3) := by decide +kernel
theorem dX6_listMatches_78 : decode cX6_listMatches 78 = .ok (.iinc 5 1, 3) := by decide +kernel
theorem dX6_listMatches_81 : decode cX6_listMatches 81 = .ok (.goto (-45), 3) := by decide +kernel
theorem dX6_listMatches_84 : decode cX6_listMatches 84 = .ok (.iinc 4 1, 3) := by decide +kernel
theorem dX6_listMatches_87 : decode cX6_listMatches 87 = .ok (.goto (-72), 3) := by decide +kernel
theorem dX6_listMatches_90 : decode cX6_listMatches 90 = .ok (.iload_n 3, 1) := by decide +kernel
theorem dX6_listMatches_91 : decode cX6_listMatches 91 = .ok (.ireturn, 1) := by decide +kernel
theorem dX6_isMatch_0 : decode cX6_isMatch 0 = .ok (.aload_n 0, 1) := by decide +kernel
theorem dX6_isMatch_1 : decode cX6_isMatch 1 = .ok (.getfield 10, 3) := by decide +kernel
theorem dX6_isMatch_4 : decode cX6_isMatch 4 = .ok (.iload_n 1, 1) := by decide +kernel
theorem dX6_isMatch_5 : decode cX6_isMatch 5 = .ok (.iload_n 2, 1) := by decide +kernel
theorem dX6_isMatch_6 : decode cX6_isMatch 6 = .ok (.iconst 0, 1) := by decide +kernel
theorem dX6_isMatch_7 : decode cX6_isMatch 7 = .ok (.invokevirtual 113, 3) := by decide +kernel
theorem dX6_isMatch_10 : decode cX6_isMatch 10 = .ok (.ifCond .eq 18, 3) := by decide +kernel
theorem dX6_isMatch_13 : decode cX6_isMatch 13 = .ok (.iload_n 1, 1) := by decide +kernel
theorem dX6_isMatch_14 : decode cX6_isMatch 14 = .ok (.iload_n 1, 1) := by decide +kernel
theorem dX6_isMatch_15 : decode cX6_isMatch 15 = .ok (.ineg, 1) := by decide +kernel
theorem dX6_isMatch_16 : decode cX6_isMatch 16 = .ok (.iand, 1) := by decide +kernel
theorem dX6_isMatch_17 : decode cX6_isMatch 17 = .ok (.iload_n 2, 1) := by decide +kernel
theorem dX6_isMatch_18 : decode cX6_isMatch 18 = .ok (.iload_n 2, 1) := by decide +kernel
theorem dX6_isMatch_19 : decode cX6_isMatch 19 = .ok (.ineg, 1) := by decide +kernel
theorem dX6_isMatch_20 : decode cX6_isMatch 20 = .ok (.iand, 1) := by decide +kernel
theorem dX6_isMatch_21 : decode cX6_isMatch 21 = .ok (.if_icmp .ge 7, 3) := by decide +kernel
theorem dX6_isMatch_24 : decode cX6_isMatch 24 = .ok (.iconst 1, 1) := by decide +kernel
theorem dX6_isMatch_25 : decode cX6_isMatch 25 = .ok (.goto 4, 3) := by decide +kernel
theorem dX6_isMatch_28 : decode cX6_isMatch 28 = .ok (.iconst 0, 1) := by decide +kernel
theorem dX6_isMatch_29 : decode cX6_isMatch 29 = .ok (.ireturn, 1) := by decide +kernel
theorem dX6_chooseNext_0 : decode cX6_chooseNext 0 = .ok (.aload_n 0, 1) := by decide +kernel
theorem dX6_chooseNext_1 : decode cX6_chooseNext 1 = .ok (.getfield 49, 3) := by decide +kernel
theorem dX6_chooseNext_4 : decode cX6_chooseNext 4 = .ok (.iconst (-1), 1) := by decide +kernel
theorem dX6_chooseNext_5 : decode cX6_chooseNext 5 = .ok (.putfield 228, 3) := by decide +kernel
theorem dX6_chooseNext_8 : decode cX6_chooseNext 8 = .ok (.aload_n 0, 1) := by decide +kernel
theorem dX6_chooseNext_9 : decode cX6_chooseNext 9 = .ok (.iload_n 1, 1) := by decide +kernel
theorem dX6_chooseNext_10 : decode cX6_chooseNext 10 = .ok (.invokevirtual 247, 3) := by decide +kernel
theorem dX6_chooseNext_13 : decode cX6_chooseNext 13 = .ok (.istore_n 2, 1) := by decide +kernel
theorem dX6_chooseNext_14 : decode cX6_chooseNext 14 = .ok (.iconst 0, 1) := by decide +kernel
theorem dX6_chooseNext_15 : decode cX6_chooseNext 15 = .ok (.istore_n 3, 1) := by decide +kernel
theorem dX6_chooseNext_16 : decode cX6_chooseNext 16 = .ok (.iload_n 3, 1) := by decide +kernel
theorem dX6_chooseNext_17 : decode cX6_chooseNext 17 = .ok (.iload_n 2, 1) := by decide +kernel
theorem dX6_chooseNext_18 : decode cX6_chooseNext 18 = .ok (.if_icmp .ge 193, 3) := by decide +kernel
theorem dX6_chooseNext_21 : decode cX6_chooseNext 21 = .ok (.aload_n 0, 1) := by decide +kernel
theorem dX6_chooseNext_22 : decode cX6_chooseNext 22 = .ok (.getfield 30, 3) := by decide +kernel
theorem dX6_chooseNext_25 : decode cX6_chooseNext 25 = .ok (.aload_n 0, 1) := by decide +kernel
theorem dX6_chooseNext_26 : decode cX6_chooseNext 26 = .ok (.getfield 26, 3) := by decide +kernel
theorem dX6_chooseNext_29 : decode cX6_chooseNext 29 = .ok (.invokevirtual 240, 3) := by decide +kernel
theorem dX6_chooseNext_32 : decode cX6_chooseNext 32 = .ok (.aload_n 0, 1) := by decide +kernel
theorem dX6_chooseNext_33 : decode cX6_chooseNext 33 = .ok (.getfield 30, 3) := by decide +kernel
theorem dX6_chooseNext_36 : decode cX6_chooseNext 36 = .ok (.aload_n 0, 1) := by decide +kernel
theorem dX6_chooseNext_37 : decode cX6_chooseNext 37 = .ok (.getfield 53, 3) := by decide +kernel
theorem dX6_chooseNext_40 : decode cX6_chooseNext 40 = .ok (.iload_n 3, 1) := by decide +kernel
theorem dX6_chooseNext_41 : decode cX6_chooseNext 41 = .ok (.iaload, 1) := by decide +kernel
theorem dX6_chooseNext_42 : decode cX6_chooseNext 42 = .ok (.aload_n 0, 1) := by decide +kernel
theorem dX6_chooseNext_43 : decode cX6_chooseNext 43 = .ok (.getfield 57, 3) := by decide +kernel
theorem dX6_chooseNext_46 : decode cX6_chooseNext 46 = .ok (.iload_n 3, 1) := by decide +kernel
theorem dX6_chooseNext_47 : decode cX6_chooseNext 47 = .ok (.iaload, 1) := by decide +kernel
theorem dX6_chooseNext_48 : decode cX6_chooseNext 48 = .ok (.iconst 0, 1) := by decide +kernel
theorem dX6_chooseNext_49 : decode cX6_chooseNext 49 = .ok (.iconst 0, 1) := by decide +kernel
theorem dX6_chooseNext_50 : decode cX6_chooseNext 50 = .ok (.invokevirtual 250, 3) := by decide +kernel
theorem dX6_chooseNext_53 : decode cX6_chooseNext 53 = .ok (.aload_n 0, 1) := by decide +kernel
theorem dX6_chooseNext_54 : decode cX6_chooseNext 54 = .ok (.getfield 30, 3) := by decide +kernel
theorem dX6_chooseNext_57 : decode cX6_chooseNext 57 = .ok (.iconst 1, 1) := by decide +kernel
theorem dX6_chooseNext_58 : decode cX6_chooseNext 58 = .ok (.invokevirtual 256, 3) := by decide +kernel
theorem dX6_chooseNext_61 : decode cX6_chooseNext 61 = .ok (.aload_n 0, 1) := by decide +kernel
theorem dX6_chooseNext_62 : decode cX6_chooseNext 62 = .ok (.getfield 30, 3) := by decide +kernel
theorem dX6_chooseNext_65 : decode cX6_chooseNext 65 = .ok (.invokevirtual 244, 3) := by decide +kernel
theorem dX6_chooseNext_68 : decode cX6_chooseNext 68 = .ok (.aload_n 0, 1) := by decide +kernel
theorem dX6_chooseNext_69 : decode cX6_chooseNext 69 = .ok (.getfield 30, 3) := by decide +kernel
theorem dX6_chooseNext_72 : decode cX6_chooseNext 72 = .ok (.aload_n 0, 1) := by decide +kernel
theorem dX6_chooseNext_73 : decode cX6_chooseNext 73 = .ok (.getfield 10, 3) := by decide +kernel
theorem dX6_chooseNext_76 : decode cX6_chooseNext 76 = .ok (.getfield 132, 3) := by decide +kernel
theorem dX6_chooseNext_79 : decode cX6_chooseNext 79 = .ok (.invokevirtual 135, 3) := by decide +kernel
theorem dX6_chooseNext_82 : decode cX6_chooseNext 82 = .ok (.istore 4, 2) := by decide +kernel
theorem dX6_chooseNext_84 : decode cX6_chooseNext 84 = .ok (.iload 4, 2) := by decide +kernel
theorem dX6_chooseNext_86 : decode cX6_chooseNext 86 = .ok (.aload_n 0, 1) := by decide +kernel
theorem dX6_chooseNext_87 : decode cX6_chooseNext 87 = .ok (.getfield 49, 3) := by decide +kernel
theorem dX6_chooseNext_90 : decode cX6_chooseNext 90 = .ok (.getfield 228, 3) := by decide +kernel
theorem dX6_chooseNext_93 : decode cX6_chooseNext 93 = .ok (.if_icmp .ge 6, 3) := by decide +kernel
theorem dX6_chooseNext_96 : decode cX6_chooseNext 96 = .ok (.goto 109, 3) := by decide +kernel
theorem dX6_chooseNext_99 : decode cX6_chooseNext 99 = .ok (.aload_n 0, 1) := by decide +kernel
theorem dX6_chooseNext_100 : decode cX6_chooseNext 100 = .ok (.getfield 40, 3) := by decide +kernel
theorem dX6_chooseNext_103 : decode cX6_chooseNext 103 = .ok (.aload_n 0, 1) := by decide +kernel
theorem dX6_chooseNext_104 : decode cX6_chooseNext 104 = .ok (.getfield 30, 3) := by decide +kernel
theorem dX6_chooseNext_107 : decode cX6_chooseNext 107 = .ok (.aload_n 0, 1) := by decide +kernel
theorem dX6_chooseNext_108 : decode cX6_chooseNext 108 = .ok (.getfield 10, 3) := by decide +kernel
theorem dX6_chooseNext_111 : decode cX6_chooseNext 111 = .ok (.getfield 132, 3) := by decide +kernel
theorem dX6_chooseNext_114 : decode cX6_chooseNext 114 = .ok (.invokevirtual 291, 3) := by decide +kernel
theorem dX6_chooseNext_117 : decode cX6_chooseNext 117 = .ok (.aload_n 0, 1) := by decide +kernel
theorem dX6_chooseNext_118 : decode cX6_chooseNext 118 = .ok (.getfield 30, 3) := by decide +kernel
theorem dX6_chooseNext_121 : decode cX6_chooseNext 121 = .ok (.getfield 180, 3) := by decide +kernel
theorem dX6_chooseNext_124 : decode cX6_chooseNext 124 = .ok (.invokevirtual 262, 3) := by decide +kernel
theorem dX6_chooseNext_127 : decode cX6_chooseNext 127 = .ok (.iload 4, 2) := by decide +kernel
theorem dX6_chooseNext_129 : decode cX6_chooseNext 129 = .ok (.aload_n 0, 1) := by decide +kernel
theorem dX6_chooseNext_130 : decode cX6_chooseNext 130 = .ok (.getfield 49, 3) := by decide +kernel
theorem dX6_chooseNext_133 : decode cX6_chooseNext 133 = .ok (.getfield 228, 3) := by decide +kernel
theorem dX6_chooseNext_136 : decode cX6_chooseNext 136 = .ok (.if_icmp .gt 20, 3) := by decide +kernel
theorem dX6_chooseNext_139 : decode cX6_chooseNext 139 = .ok (.aload_n 0, 1) := by decide +kernel
theorem dX6_chooseNext_140 : decode cX6_chooseNext 140 = .ok (.getfield 40, 3) := by decide +kernel
theorem dX6_chooseNext_143 : decode cX6_chooseNext 143 = .ok (.aload_n 0, 1) := by decide +kernel
theorem dX6_chooseNext_144 : decode cX6_chooseNext 144 = .ok (.getfield 49, 3) := by decide +kernel
theorem dX6_chooseNext_147 : decode cX6_chooseNext 147 = .ok (.getfield 231, 3) := by decide +kernel
theorem dX6_chooseNext_150 : decode cX6_chooseNext 150 = .ok (.invokevirtual 266, 3) := by decide +kernel
theorem dX6_chooseNext_153 : decode cX6_chooseNext 153 = .ok (.ifCond .eq 52, 3) := by decide +kernel
theorem dX6_chooseNext_156 : decode cX6_chooseNext 156 = .ok (.aload_n 0, 1) := by decide +kernel
theorem dX6_chooseNext_157 : decode cX6_chooseNext 157 = .ok (.getfield 49, 3) := by decide +kernel
theorem dX6_chooseNext_160 : decode cX6_chooseNext 160 = .ok (.aload_n 0, 1) := by decide +kernel
theorem dX6_chooseNext_161 : decode cX6_chooseNext 161 = .ok (.getfield 53, 3) := by decide +kernel
theorem dX6_chooseNext_164 : decode cX6_chooseNext 164 = .ok (.iload_n 3, 1) := by decide +kernel
theorem dX6_chooseNext_165 : decode cX6_chooseNext 165 = .ok (.iaload, 1) := by decide +kernel
theorem dX6_chooseNext_166 : decode cX6_chooseNext 166 = .ok (.putfield 222, 3) := by decide +kernel
theorem dX6_chooseNext_169 : decode cX6_chooseNext 169 = .ok (.aload_n 0, 1) := by decide +kernel
theorem dX6_chooseNext_170 : decode cX6_chooseNext 170 = .ok (.getfield 49, 3) := by decide +kernel
theorem dX6_chooseNext_173 : decode cX6_chooseNext 173 = .ok (.aload_n 0, 1) := by decide +kernel
theorem dX6_chooseNext_174 : decode cX6_chooseNext 174 = .ok (.getfield 57, 3) := by decide +kernel
theorem dX6_chooseNext_177 : decode cX6_chooseNext 177 = .ok (.iload_n 3, 1) := by decide +kernel
theorem dX6_chooseNext_178 : decode cX6_chooseNext 178 = .ok (.iaload, 1) := by decide +kernel
theorem dX6_chooseNext_179 : decode cX6_chooseNext 179 = .ok (.putfield 225, 3) := by decide +kernel
theorem dX6_chooseNext_182 : decode cX6_chooseNext 182 = .ok (.aload_n 0, 1) := by decide +kernel
theorem dX6_chooseNext_183 : decode cX6_chooseNext 183 = .ok (.getfield 49, 3) := by decide +kernel
theorem dX6_chooseNext_186 : decode cX6_chooseNext 186 = .ok (.iload 4, 2) := by decide +kernel
theorem dX6_chooseNext_188 : decode cX6_chooseNext 188 = .ok (.putfield 228, 3) := by decide +kernel
theorem dX6_chooseNext_191 : decode cX6_chooseNext 191 = .ok (.aload_n 0, 1) := by decide +kernel
theorem dX6_chooseNext_192 : decode cX6_chooseNext 192 = .ok (.getfield 49, 3) := by decide +kernel
theorem dX6_chooseNext_195 : decode cX6_chooseNext 195 = .ok (.getfield 231, 3) := by decide +kernel
theorem dX6_chooseNext_198 : decode cX6_chooseNext 198 = .ok (.aload_n 0, 1) := by decide +kernel
theorem dX6_chooseNext_199 : decode cX6_chooseNext 199 = .ok (.getfield 40, 3) := by decide +kernel
theorem dX6_chooseNext_202 : decode cX6_chooseNext 202 = .ok (.invokevirtual 270, 3) := by decide +kernel
theorem dX6_chooseNext_205 : decode cX6_chooseNext 205 = .ok (.iinc 3 1, 3) := by decide +kernel
theorem dX6_chooseNext_208 : decode cX6_chooseNext 208 = .ok (.goto (-192), 3) := by decide +kernel
theorem dX6_chooseNext_211 : decode cX6_chooseNext 211 = .ok (.iload_n 2, 1) := by decide +kernel
theorem dX6_chooseNext_212 : decode cX6_chooseNext 212 = .ok (.ifCond .le 7, 3) := by decide +kernel
theorem dX6_chooseNext_215 : decode cX6_chooseNext 215 = .ok (.iconst 1, 1) := by decide +kernel
theorem dX6_chooseNext_216 : decode cX6_chooseNext 216 = .ok (.goto 4, 3) := by decide +kernel
theorem dX6_chooseNext_219 : decode cX6_chooseNext 219 = .ok (.iconst 0, 1) := by decide +kernel
theorem dX6_chooseNext_220 : decode cX6_chooseNext 220 = .ok (.ireturn, 1) := by decide +kernel
theorem dX6_chooseEven_0 : decode cX6_chooseEven 0 = .ok (.iconst 0, 1) := by decide +kernel
theorem dX6_chooseEven_1 : decode cX6_chooseEven 1 = .ok (.istore_n 2, 1) := by decide +kernel
theorem dX6_chooseEven_2 : decode cX6_chooseEven 2 = .ok (.lconst 0, 1) := by decide +kernel
theorem dX6_chooseEven_3 : decode cX6_chooseEven 3 = .ok (.lstore_n 3, 1) := by decide +kernel
theorem dX6_chooseEven_4 : decode cX6_chooseEven 4 = .ok (.aload_n 0, 1) := by decide +kernel
theorem dX6_chooseEven_5 : decode cX6_chooseEven 5 = .ok (.iload_n 1, 1) := by decide +kernel
theorem dX6_chooseEven_6 : decode cX6_chooseEven 6 = .ok (.invokevirtual 247, 3) := by decide +kernel
theorem dX6_chooseEven_9 : decode cX6_chooseEven 9 = .ok (.istore 5, 2) := by decide +kernel
theorem dX6_chooseEven_11 : decode cX6_chooseEven 11 = .ok (.iconst 0, 1) := by decide +kernel
theorem dX6_chooseEven_12 : decode cX6_chooseEven 12 = .ok (.istore 6, 2) := by decide +kernel
theorem dX6_chooseEven_14 : decode cX6_chooseEven 14 = .ok (.iload 6, 2) := by decide +kernel
theorem dX6_chooseEven_16 : decode cX6_chooseEven 16 = .ok (.iload 5, 2) := by decide +kernel
theorem dX6_chooseEven_18 : decode cX6_chooseEven 18 = .ok (.if_icmp .ge 101, 3) := by decide +kernel
theorem dX6_chooseEven_21 : decode cX6_chooseEven 21 = .ok (.aload_n 0, 1) := by decide +kernel
theorem dX6_chooseEven_22 : decode cX6_chooseEven 22 = .ok (.getfield 26, 3) := by decide +kernel
theorem dX6_chooseEven_25 : decode cX6_chooseEven 25 = .ok (.aload_n 0, 1) := by decide +kernel
theorem dX6_chooseEven_26 : decode cX6_chooseEven 26 = .ok (.getfield 53, 3) := by decide +kernel
theorem dX6_chooseEven_29 : decode cX6_chooseEven 29 = .ok (.iload 6, 2) := by decide +kernel
theorem dX6_chooseEven_31 : decode cX6_chooseEven 31 = .ok (.iaload, 1) := by decide +kernel
theorem dX6_chooseEven_32 : decode cX6_chooseEven 32 = .ok (.aload_n 0, 1) := by decide +kernel
theorem dX6_chooseEven_33 : decode cX6_chooseEven 33 = .ok (.getfield 57, 3) := by decide +kernel
theorem dX6_chooseEven_36 : decode cX6_chooseEven 36 = .ok (.iload 6, 2) := by decide +kernel
theorem dX6_chooseEven_38 : decode cX6_chooseEven 38 = .ok (.iaload, 1) := by decide +kernel
theorem dX6_chooseEven_39 : decode cX6_chooseEven 39 = .ok (.iconst 0, 1) := by decide +kernel
theorem dX6_chooseEven_40 : decode cX6_chooseEven 40 = .ok (.iconst 0, 1) := by decide +kernel
theorem dX6_chooseEven_41 : decode cX6_chooseEven 41 = .ok (.invokevirtual 250, 3) := by decide +kernel
theorem dX6_chooseEven_44 : decode cX6_chooseEven 44 = .ok (.aload_n 0, 1) := by decide +kernel
theorem dX6_chooseEven_45 : decode cX6_chooseEven 45 = .ok (.getfield 26, 3) := by decide +kernel
theorem dX6_chooseEven_48 : decode cX6_chooseEven 48 = .ok (.invokevirtual 253, 3) := by decide +kernel
theorem dX6_chooseEven_51 : decode cX6_chooseEven 51 = .ok (.ifCond .ne 6, 3) := by decide +kernel
theorem dX6_chooseEven_54 : decode cX6_chooseEven 54 = .ok (.goto 59, 3) := by decide +kernel
theorem dX6_chooseEven_57 : decode cX6_chooseEven 57 = .ok (.aload_n 0, 1) := by decide +kernel
theorem dX6_chooseEven_58 : decode cX6_chooseEven 58 = .ok (.getfield 26, 3) := by decide +kernel
theorem dX6_chooseEven_61 : decode cX6_chooseEven 61 = .ok (.invokevirtual 282, 3) := by decide +kernel
theorem dX6_chooseEven_64 : decode cX6_chooseEven 64 = .ok (.invokestatic 294, 3) := by decide +kernel
theorem dX6_chooseEven_67 : decode cX6_chooseEven 67 = .ok (.lstore 7, 2) := by decide +kernel
theorem dX6_chooseEven_69 : decode cX6_chooseEven 69 = .ok (.iload_n 2, 1) := by decide +kernel
theorem dX6_chooseEven_70 : decode cX6_chooseEven 70 = .ok (.ifCond .eq 10, 3) := by decide +kernel
theorem dX6_chooseEven_73 : decode cX6_chooseEven 73 = .ok (.lload 7, 2) := by decide +kernel
theorem dX6_chooseEven_75 : decode cX6_chooseEven 75 = .ok (.lload_n 3, 1) := by decide +kernel
theorem dX6_chooseEven_76 : decode cX6_chooseEven 76 = .ok (.lcmp, 1) := by decide +kernel
theorem dX6_chooseEven_77 : decode cX6_chooseEven 77 = .ok (.ifCond .ge 36, 3) := by decide +kernel
theorem dX6_chooseEven_80 : decode cX6_chooseEven 80 = .ok (.iconst 1, 1) := by decide +kernel
theorem dX6_chooseEven_81 : decode cX6_chooseEven 81 = .ok (.istore_n 2, 1) := by decide +kernel
theorem dX6_chooseEven_82 : decode cX6_chooseEven 82 = .ok (.lload 7, 2) := by decide +kernel
theorem dX6_chooseEven_84 : decode cX6_chooseEven 84 = .ok (.lstore_n 3, 1) := by decide +kernel
theorem dX6_chooseEven_85 : decode cX6_chooseEven 85 = .ok (.aload_n 0, 1) := by decide +kernel
theorem dX6_chooseEven_86 : decode cX6_chooseEven 86 = .ok (.getfield 49, 3) := by decide +kernel
theorem dX6_chooseEven_89 : decode cX6_chooseEven 89 = .ok (.aload_n 0, 1) := by decide +kernel
theorem dX6_chooseEven_90 : decode cX6_chooseEven 90 = .ok (.getfield 53, 3) := by decide +kernel
theorem dX6_chooseEven_93 : decode cX6_chooseEven 93 = .ok (.iload 6, 2) := by decide +kernel
theorem dX6_chooseEven_95 : decode cX6_chooseEven 95 = .ok (.iaload, 1) := by decide +kernel
theorem dX6_chooseEven_96 : decode cX6_chooseEven 96 = .ok (.putfield 222, 3) := by decide +kernel
theorem dX6_chooseEven_99 : decode cX6_chooseEven 99 = .ok (.aload_n 0, 1) := by decide +kernel
theorem dX6_chooseEven_100 : decode cX6_chooseEven 100 = .ok (.getfield 49, 3) := by decide +kernel
theorem dX6_chooseEven_103 : decode cX6_chooseEven 103 = .ok (.aload_n 0, 1) := by decide +kernel
theorem dX6_chooseEven_104 : decode cX6_chooseEven 104 = .ok (.getfield 57, 3) := by decide +kernel
theorem dX6_chooseEven_107 : decode cX6_chooseEven 107 = .ok (.iload 6, 2) := by decide +kernel
theorem dX6_chooseEven_109 : decode cX6_chooseEven 109 = .ok (.iaload, 1) := by decide +kernel
theorem dX6_chooseEven_110 : decode cX6_chooseEven 110 = .ok (.putfield 225, 3) := by decide +kernel
theorem dX6_chooseEven_113 : decode cX6_chooseEven 113 = .ok (.iinc 6 1, 3) := by decide +kernel
theorem dX6_chooseEven_116 : decode cX6_chooseEven 116 = .ok (.goto (-102), 3) := by decide +kernel
theorem dX6_chooseEven_119 : decode cX6_chooseEven 119 = .ok (.iload_n 2, 1) := by decide +kernel
theorem dX6_chooseEven_120 : decode cX6_chooseEven 120 = .ok (.ireturn, 1) := by decide +kernel
end
section
theorem dX7_init_0 : decode cX7_init 0 = .ok (.aload_n 0, 1) := by decide +kernel
theorem dX7_init_1 : decode cX7_init 1 = .ok (.invokespecial 1, 3) := by decide +kernel
theorem dX7_init_4 : decode cX7_init 4 = .ok (.aload_n 0, 1) := by decide +kernel
theorem dX7_init_5 : decode cX7_init 5 = .ok (.bipush 60, 2) := by decide +kernel
theorem dX7_init_7 : decode cX7_init 7 = .ok (.newarray .int, 2) := by decide +kernel
theorem dX7_init_9 : decode cX7_init 9 = .ok (.putfield 7, 3) := by decide +kernel
theorem dX7_init_12 : decode cX7_init 12 = .ok (.aload_n 0, 1) := by decide +kernel
theorem dX7_init_13 : decode cX7_init 13 = .ok (.bipush 60, 2) := by decide +kernel
theorem dX7_init_15 : decode cX7_init 15 = .ok (.newarray .int, 2) := by decide +kernel
theorem dX7_init_17 : decode cX7_init 17 = .ok (.putfield 13, 3) := by decide +kernel
theorem dX7_init_20 : decode cX7_init 20 = .ok (.aload_n 0, 1) := by decide +kernel
theorem dX7_init_21 : decode cX7_init 21 = .ok (.sipush 300, 3) := by decide +kernel
theorem dX7_init_24 : decode cX7_init 24 = .ok (.newarray .byte, 2) := by decide +kernel
theorem dX7_init_26 : decode cX7_init 26 = .ok (.putfield 16, 3) := by decide +kernel
theorem dX7_init_29 : decode cX7_init 29 = .ok (.aload_n 0, 1) := by decide +kernel
theorem dX7_init_30 : decode cX7_init 30 = .ok (.iconst (-1), 1) := by decide +kernel
theorem dX7_init_31 : decode cX7_init 31 = .ok (.putfield 20, 3) := by decide +kernel
theorem dX7_init_34 : decode cX7_init 34 = .ok (.aload_n 0, 1) := by decide +kernel
theorem dX7_init_35 : decode cX7_init 35 = .ok (.bipush 7, 2) := by decide +kernel
theorem dX7_init_37 : decode cX7_init 37 = .ok (.newarray .int, 2) := by decide +kernel
theorem dX7_init_39 : decode cX7_init 39 = .ok (.putfield 24, 3) := by decide +kernel
theorem dX7_init_42 : decode cX7_init 42 = .ok (.aload_n 0, 1) := by decide +kernel
theorem dX7_init_43 : decode cX7_init 43 = .ok (.bipush 49, 2) := by decide +kernel
theorem dX7_init_45 : decode cX7_init 45 = .ok (.newarray .long, 2) := by decide +kernel
theorem dX7_init_47 : decode cX7_init 47 = .ok (.putfield 27, 3) := by decide +kernel
theorem dX7_init_50 : decode cX7_init 50 = .ok (.aload_n 0, 1) := by decide +kernel
theorem dX7_init_51 : decode cX7_init 51 = .ok (.bipush 7, 2) := by decide +kernel
theorem dX7_init_53 : decode cX7_init 53 = .ok (.newarray .long, 2) := by decide +kernel
theorem dX7_init_55 : decode cX7_init 55 = .ok (.putfield 31, 3) := by decide +kernel
theorem dX7_init_58 : decode cX7_init 58 = .ok (.aload_n 0, 1) := by decide +kernel
theorem dX7_init_59 : decode cX7_init 59 = .ok (.bipush 56, 2) := by decide +kernel
theorem dX7_init_61 : decode cX7_init 61 = .ok (.newarray .long, 2) := by decide +kernel
theorem dX7_init_63 : decode cX7_init 63 = .ok (.putfield 34, 3) := by decide +kernel
theorem dX7_init_66 : decode cX7_init 66 = .ok (.aload_n 0, 1) := by decide +kernel
theorem dX7_init_67 : decode cX7_init 67 = .ok (.bipush 7, 2) := by decide +kernel
theorem dX7_init_69 : decode cX7_init 69 = .ok (.newarray .long, 2) := by decide +kernel
theorem dX7_init_71 : decode cX7_init 71 = .ok (.putfield 37, 3) := by decide +kernel
theorem dX7_init_74 : decode cX7_init 74 = .ok (.aload_n 0, 1) := by decide +kernel
theorem dX7_init_75 : decode cX7_init 75 = .ok (.bipush 7, 2) := by decide +kernel
theorem dX7_init_77 : decode cX7_init 77 = .ok (.newarray .int, 2) := by decide +kernel
theorem dX7_init_79 : decode cX7_init 79 = .ok (.putfield 40, 3) := by decide +kernel
theorem dX7_init_82 : decode cX7_init 82 = .ok (.aload_n 0, 1) := by decide +kernel
theorem dX7_init_83 : decode cX7_init 83 = .ok (.getfield 7, 3) := by decide +kernel
theorem dX7_init_86 : decode cX7_init 86 = .ok (.iconst 1, 1) := by decide +kernel
theorem dX7_init_87 : decode cX7_init 87 = .ok (.bipush 10, 2) := by decide +kernel
theorem dX7_init_89 : decode cX7_init 89 = .ok (.iastore, 1) := by decide +kernel
theorem dX7_init_90 : decode cX7_init 90 = .ok (.return_, 1) := by decide +kernel
theorem dX7_thrown_0 : decode cX7_thrown 0 = .ok (.aload_n 0, 1) := by decide +kernel
theorem dX7_thrown_1 : decode cX7_thrown 1 = .ok (.getfield 43, 3) := by decide +kernel
theorem dX7_thrown_4 : decode cX7_thrown 4 = .ok (.ireturn, 1) := by decide +kernel
theorem dX7_isIn_0 : decode cX7_isIn 0 = .ok (.iload_n 0, 1) := by decide +kernel
theorem dX7_isIn_1 : decode cX7_isIn 1 = .ok (.iload_n 1, 1) := by decide +kernel
theorem dX7_isIn_2 : decode cX7_isIn 2 = .ok (.if_icmp .lt 12, 3) := by decide +kernel
theorem dX7_isIn_5 : decode cX7_isIn 5 = .ok (.iload_n 0, 1) := by decide +kernel
theorem dX7_isIn_6 : decode cX7_isIn 6 = .ok (.iload_n 2, 1) := by decide +kernel
theorem dX7_isIn_7 : decode cX7_isIn 7 = .ok (.if_icmp .gt 7, 3) := by decide +kernel
theorem dX7_isIn_10 : decode cX7_isIn 10 = .ok (.iconst 1, 1) := by decide +kernel
theorem dX7_isIn_11 : decode cX7_isIn 11 = .ok (.goto 4, 3) := by decide +kernel
theorem dX7_isIn_14 : decode cX7_isIn 14 = .ok (.iconst 0, 1) := by decide +kernel
theorem dX7_isIn_15 : decode cX7_isIn 15 = .ok (.ireturn, 1) := by decide +kernel
theorem dX7_has_0 : decode cX7_has 0 = .ok (.iload_n 0, 1) := by decide +kernel
theorem dX7_has_1 : decode cX7_has 1 = .ok (.iload_n 1, 1) := by decide +kernel
theorem dX7_has_2 : decode cX7_has 2 = .ok (.ishr, 1) := by decide +kernel
theorem dX7_has_3 : decode cX7_has 3 = .ok (.iconst 1, 1) := by decide +kernel
theorem dX7_has_4 : decode cX7_has 4 = .ok (.iand, 1) := by decide +kernel
theorem dX7_has_5 : decode cX7_has 5 = .ok (.iconst 1, 1) := by decide +kernel
theorem dX7_has_6 : decode cX7_has 6 = .ok (.if_icmp .ne 7, 3) := by decide +kernel
theorem dX7_has_9 : decode cX7_has 9 = .ok (.iconst 1, 1) := by decide +kernel
theorem dX7_has_10 : decode cX7_has 10 = .ok (.goto 4, 3) := by decide +kernel
theorem dX7_has_13 : decode cX7_has 13 = .ok (.iconst 0, 1) := by decide +kernel
theorem dX7_has_14 : decode cX7_has 14 = .ok (.ireturn, 1) := by decide +kernel
theorem dX7_bits_0 : decode cX7_bits 0 = .ok (.iconst 0, 1) := by decide +kernel
theorem dX7_bits_1 : decode cX7_bits 1 = .ok (.istore_n 1, 1) := by decide +kernel
theorem dX7_bits_2 : decode cX7_bits 2 = .ok (.iload_n 0, 1) := by decide +kernel
theorem dX7_bits_3 : decode cX7_bits 3 = .ok (.istore_n 2, 1) := by decide +kernel
theorem dX7_bits_4 : decode cX7_bits 4 = .ok (.iload_n 2, 1) := by decide +kernel
theorem dX7_bits_5 : decode cX7_bits 5 = .ok (.ifCond .le 16, 3) := by decide +kernel
theorem dX7_bits_8 : decode cX7_bits 8 = .ok (.iload_n 1, 1) := by decide +kernel
theorem dX7_bits_9 : decode cX7_bits 9 = .ok (.iload_n 2, 1) := by decide +kernel
theorem dX7_bits_10 : decode cX7_bits 10 = .ok (.iconst 2, 1) := by decide +kernel
theorem dX7_bits_11 : decode cX7_bits 11 = .ok (.irem, 1) := by decide +kernel
theorem dX7_bits_12 : decode cX7_bits 12 = .ok (.iadd, 1) := by decide +kernel
theorem dX7_bits_13 : decode cX7_bits 13 = .ok (.istore_n 1, 1) := by decide +kernel
theorem dX7_bits_14 : decode cX7_bits 14 = .ok (.iload_n 2, 1) := by decide +kernel
theorem dX7_bits_15 : decode cX7_bits 15 = .ok (.iconst 2, 1) := by decide +kernel
theorem dX7_bits_16 : decode cX7_bits 16 = .ok (.idiv, 1) := by decide +kernel
theorem dX7_bits_17 : decode cX7_bits 17 = .ok (.istore_n 2, 1) := by decide +kernel
theorem dX7_bits_18 : decode cX7_bits 18 = .ok (.goto (-14), 3) := by decide +kernel
theorem dX7_bits_21 : decode cX7_bits 21 = .ok (.iload_n 1, 1) := by decide +kernel
theorem dX7_bits_22 : decode cX7_bits 22 = .ok (.ireturn, 1) := by decide +kernel
theorem dX7_size_0 : decode cX7_size 0 = .ok (.lload_n 0, 1) := by decide +kernel
theorem dX7_size_1 : decode cX7_size 1 = .ok (.lconst 0, 1) := by decide +kernel
theorem dX7_size_2 : decode cX7_size 2 = .ok (.lcmp, 1) := by decide +kernel
theorem dX7_size_3 : decode cX7_size 3 = .ok (.ifCond .ge 8, 3) := by decide +kernel
theorem dX7_size_6 : decode cX7_size 6 = .ok (.lload_n 0, 1) := by decide +kernel
theorem dX7_size_7 : decode cX7_size 7 = .ok (.lneg, 1) := by decide +kernel
theorem dX7_size_8 : decode cX7_size 8 = .ok (.goto 4, 3) := by decide +kernel
theorem dX7_size_11 : decode cX7_size 11 = .ok (.lload_n 0, 1) := by decide +kernel
theorem dX7_size_12 : decode cX7_size 12 = .ok (.lreturn, 1) := by decide +kernel
theorem dX7_n_0 : decode cX7_n 0 = .ok (.aload_n 0, 1) := by decide +kernel
theorem dX7_n_1 : decode cX7_n 1 = .ok (.getfield 7, 3) := by decide +kernel
theorem dX7_n_4 : decode cX7_n 4 = .ok (.iconst 0, 1) := by decide +kernel
theorem dX7_n_5 : decode cX7_n 5 = .ok (.iaload, 1) := by decide +kernel
theorem dX7_n_6 : decode cX7_n 6 = .ok (.ireturn, 1) := by decide +kernel
theorem dX7_races_0 : decode cX7_races 0 = .ok (.aload_n 0, 1) := by decide +kernel
theorem dX7_races_1 : decode cX7_races 1 = .ok (.getfield 7, 3) := by decide +kernel
theorem dX7_races_4 : decode cX7_races 4 = .ok (.iconst 2, 1) := by decide +kernel
theorem dX7_races_5 : decode cX7_races 5 = .ok (.iaload, 1) := by decide +kernel
theorem dX7_races_6 : decode cX7_races 6 = .ok (.ireturn, 1) := by decide +kernel
theorem dX7_of_0 : decode cX7_of 0 = .ok (.aload_n 0, 1) := by decide +kernel
theorem dX7_of_1 : decode cX7_of 1 = .ok (.getfield 7, 3) := by decide +kernel
theorem dX7_of_4 : decode cX7_of 4 = .ok (.iconst 3, 1) := by decide +kernel
theorem dX7_of_5 : decode cX7_of 5 = .ok (.iconst 4, 1) := by decide +kernel
theorem dX7_of_6 : decode cX7_of 6 = .ok (.iload_n 1, 1) := by decide +kernel
theorem dX7_of_7 : decode cX7_of 7 = .ok (.imul, 1) := by decide +kernel
theorem dX7_of_8 : decode cX7_of 8 = .ok (.iadd, 1) := by decide +kernel
theorem dX7_of_9 : decode cX7_of 9 = .ok (.iload_n 2, 1) := by decide +kernel
theorem dX7_of_10 : decode cX7_of 10 = .ok (.iadd, 1) := by decide +kernel
theorem dX7_of_11 : decode cX7_of 11 = .ok (.iaload, 1) := by decide +kernel
theorem dX7_of_12 : decode cX7_of 12 = .ok (.ireturn, 1) := by decide +kernel
theorem dX7_isRower_0 : decode cX7_isRower 0 = .ok (.iload_n 1, 1) := by decide +kernel
theorem dX7_isRower_1 : decode cX7_isRower 1 = .ok (.iconst 0, 1) := by decide +kernel
theorem dX7_isRower_2 : decode cX7_isRower 2 = .ok (.aload_n 0, 1) := by decide +kernel
theorem dX7_isRower_3 : decode cX7_isRower 3 = .ok (.invokevirtual 46, 3) := by decide +kernel
theorem dX7_isRower_6 : decode cX7_isRower 6 = .ok (.iconst 1, 1) := by decide +kernel
theorem dX7_isRower_7 : decode cX7_isRower 7 = .ok (.isub, 1) := by decide +kernel
theorem dX7_isRower_8 : decode cX7_isRower 8 = .ok (.invokestatic 50, 3) := by decide +kernel
theorem dX7_isRower_11 : decode cX7_isRower 11 = .ok (.ireturn, 1) := by decide +kernel
theorem dX7_areCrews_0 : decode cX7_areCrews 0 = .ok (.iload_n 1, 1) := by decide +kernel
theorem dX7_areCrews_1 : decode cX7_areCrews 1 = .ok (.ifCond .le 56, 3) := by decide +kernel
theorem dX7_areCrews_4 : decode cX7_areCrews 4 = .ok (.iload_n 2, 1) := by decide +kernel
theorem dX7_areCrews_5 : decode cX7_areCrews 5 = .ok (.ifCond .le 52, 3) := by decide +kernel
theorem dX7_areCrews_8 : decode cX7_areCrews 8 = .ok (.iload_n 1, 1) := by decide +kernel
theorem dX7_areCrews_9 : decode cX7_areCrews 9 = .ok (.iconst 1, 1) := by decide +kernel
theorem dX7_areCrews_10 : decode cX7_areCrews 10 = .ok (.aload_n 0, 1) := by decide +kernel
theorem dX7_areCrews_11 : decode cX7_areCrews 11 = .ok (.invokevirtual 46, 3) := by decide +kernel
theorem dX7_areCrews_14 : decode cX7_areCrews 14 = .ok (.ishl, 1) := by decide +kernel
theorem dX7_areCrews_15 : decode cX7_areCrews 15 = .ok (.if_icmp .ge 42, 3) := by decide +kernel
theorem dX7_areCrews_18 : decode cX7_areCrews 18 = .ok (.iload_n 2, 1) := by decide +kernel
theorem dX7_areCrews_19 : decode cX7_areCrews 19 = .ok (.iconst 1, 1) := by decide +kernel
theorem dX7_areCrews_20 : decode cX7_areCrews 20 = .ok (.aload_n 0, 1) := by decide +kernel
theorem dX7_areCrews_21 : decode cX7_areCrews 21 = .ok (.invokevirtual 46, 3) := by decide +kernel
theorem dX7_areCrews_24 : decode cX7_areCrews 24 = .ok (.ishl, 1) := by decide +kernel
theorem dX7_areCrews_25 : decode cX7_areCrews 25 = .ok (.if_icmp .ge 32, 3) := by decide +kernel
theorem dX7_areCrews_28 : decode cX7_areCrews 28 = .ok (.iload_n 1, 1) := by decide +kernel
theorem dX7_areCrews_29 : decode cX7_areCrews 29 = .ok (.iload_n 2, 1) := by decide +kernel
theorem dX7_areCrews_30 : decode cX7_areCrews 30 = .ok (.iand, 1) := by decide +kernel
theorem dX7_areCrews_31 : decode cX7_areCrews 31 = .ok (.ifCond .ne 26, 3) := by decide +kernel
theorem dX7_areCrews_34 : decode cX7_areCrews 34 = .ok (.iload_n 1, 1) := by decide +kernel
theorem dX7_areCrews_35 : decode cX7_areCrews 35 = .ok (.invokestatic 54, 3) := by decide +kernel
theorem dX7_areCrews_38 : decode cX7_areCrews 38 = .ok (.iload_n 2, 1) := by decide +kernel
theorem dX7_areCrews_39 : decode cX7_areCrews 39 = .ok (.invokestatic 54, 3) := by decide +kernel
theorem dX7_areCrews_42 : decode cX7_areCrews 42 = .ok (.if_icmp .ne 15, 3) := by decide +kernel
theorem dX7_areCrews_45 : decode cX7_areCrews 45 = .ok (.iload_n 1, 1) := by decide +kernel
theorem dX7_areCrews_46 : decode cX7_areCrews 46 = .ok (.invokestatic 54, 3) := by decide +kernel
theorem dX7_areCrews_49 : decode cX7_areCrews 49 = .ok (.iconst 3, 1) := by decide +kernel
theorem dX7_areCrews_50 : decode cX7_areCrews 50 = .ok (.if_icmp .gt 7, 3) := by decide +kernel
theorem dX7_areCrews_53 : decode cX7_areCrews 53 = .ok (.iconst 1, 1) := by decide +kernel
theorem dX7_areCrews_54 : decode cX7_areCrews 54 = .ok (.goto 4, 3) := by decide +kernel
theorem dX7_areCrews_57 : decode cX7_areCrews 57 = .ok (.iconst 0, 1) := by decide +kernel
theorem dX7_areCrews_58 : decode cX7_areCrews 58 = .ok (.ireturn, 1) := by decide +kernel
theorem dX7_more_0 : decode cX7_more 0 = .ok (.iconst 3, 1) := by decide +kernel
theorem dX7_more_1 : decode cX7_more 1 = .ok (.iconst 4, 1) := by decide +kernel
theorem dX7_more_2 : decode cX7_more 2 = .ok (.aload_n 0, 1) := by decide +kernel
theorem dX7_more_3 : decode cX7_more 3 = .ok (.invokevirtual 58, 3) := by decide +kernel
theorem dX7_more_6 : decode cX7_more 6 = .ok (.imul, 1) := by decide +kernel
theorem dX7_more_7 : decode cX7_more 7 = .ok (.iadd, 1) := by decide +kernel
theorem dX7_more_8 : decode cX7_more 8 = .ok (.istore 5, 2) := by decide +kernel
theorem dX7_more_10 : decode cX7_more 10 = .ok (.aload_n 0, 1) := by decide +kernel
theorem dX7_more_11 : decode cX7_more 11 = .ok (.getfield 7, 3) := by decide +kernel
theorem dX7_more_14 : decode cX7_more 14 = .ok (.iload 5, 2) := by decide +kernel
theorem dX7_more_16 : decode cX7_more 16 = .ok (.iload_n 1, 1) := by decide +kernel
theorem dX7_more_17 : decode cX7_more 17 = .ok (.iastore, 1) := by decide +kernel
theorem dX7_more_18 : decode cX7_more 18 = .ok (.aload_n 0, 1) := by decide +kernel
theorem dX7_more_19 : decode cX7_more 19 = .ok (.getfield 7, 3) := by decide +kernel
theorem dX7_more_22 : decode cX7_more 22 = .ok (.iload 5, 2) := by decide +kernel
theorem dX7_more_24 : decode cX7_more 24 = .ok (.iconst 1, 1) := by decide +kernel
theorem dX7_more_25 : decode cX7_more 25 = .ok (.iadd, 1) := by decide +kernel
theorem dX7_more_26 : decode cX7_more 26 = .ok (.iload_n 2, 1) := by decide +kernel
theorem dX7_more_27 : decode cX7_more 27 = .ok (.iastore, 1) := by decide +kernel
theorem dX7_more_28 : decode cX7_more 28 = .ok (.aload_n 0, 1) := by decide +kernel
theorem dX7_more_29 : decode cX7_more 29 = .ok (.getfield 7, 3) := by decide +kernel
theorem dX7_more_32 : decode cX7_more 32 = .ok (.iload 5, 2) := by decide +kernel
theorem dX7_more_34 : decode cX7_more 34 = .ok (.iconst 2, 1) := by decide +kernel
theorem dX7_more_35 : decode cX7_more 35 = .ok (.iadd, 1) := by decide +kernel
theorem dX7_more_36 : decode cX7_more 36 = .ok (.iload_n 3, 1) := by decide +kernel
theorem dX7_more_37 : decode cX7_more 37 = .ok (.iastore, 1) := by decide +kernel
theorem dX7_more_38 : decode cX7_more 38 = .ok (.aload_n 0, 1) := by decide +kernel
theorem dX7_more_39 : decode cX7_more 39 = .ok (.getfield 7, 3) := by decide +kernel
theorem dX7_more_42 : decode cX7_more 42 = .ok (.iload 5, 2) := by decide +kernel
theorem dX7_more_44 : decode cX7_more 44 = .ok (.iconst 3, 1) := by decide +kernel
theorem dX7_more_45 : decode cX7_more 45 = .ok (.iadd, 1) := by decide +kernel
theorem dX7_more_46 : decode cX7_more 46 = .ok (.iload 4, 2) := by decide +kernel
theorem dX7_more_48 : decode cX7_more 48 = .ok (.iastore, 1) := by decide +kernel
theorem dX7_more_49 : decode cX7_more 49 = .ok (.aload_n 0, 1) := by decide +kernel
theorem dX7_more_50 : decode cX7_more 50 = .ok (.getfield 7, 3) := by decide +kernel
theorem dX7_more_53 : decode cX7_more 53 = .ok (.iconst 2, 1) := by decide +kernel
theorem dX7_more_54 : decode cX7_more 54 = .ok (.dup2, 1) := by decide +kernel
theorem dX7_more_55 : decode cX7_more 55 = .ok (.iaload, 1) := by decide +kernel
theorem dX7_more_56 : decode cX7_more 56 = .ok (.iconst 1, 1) := by decide +kernel
theorem dX7_more_57 : decode cX7_more 57 = .ok (.iadd, 1) := by decide +kernel
theorem dX7_more_58 : decode cX7_more 58 = .ok (.iastore, 1) := by decide +kernel
theorem dX7_more_59 : decode cX7_more 59 = .ok (.return_, 1) := by decide +kernel
theorem dX7_crew_0 : decode cX7_crew 0 = .ok (.aload_n 0, 1) := by decide +kernel
theorem dX7_crew_1 : decode cX7_crew 1 = .ok (.iconst 0, 1) := by decide +kernel
theorem dX7_crew_2 : decode cX7_crew 2 = .ok (.putfield 43, 3) := by decide +kernel
theorem dX7_crew_5 : decode cX7_crew 5 = .ok (.iload_n 1, 1) := by decide +kernel
theorem dX7_crew_6 : decode cX7_crew 6 = .ok (.iconst 0, 1) := by decide +kernel
theorem dX7_crew_7 : decode cX7_crew 7 = .ok (.bipush 6, 2) := by decide +kernel
theorem dX7_crew_9 : decode cX7_crew 9 = .ok (.invokestatic 50, 3) := by decide +kernel
theorem dX7_crew_12 : decode cX7_crew 12 = .ok (.ifCond .ne 5, 3) := by decide +kernel
theorem dX7_crew_15 : decode cX7_crew 15 = .ok (.iconst 0, 1) := by decide +kernel
theorem dX7_crew_16 : decode cX7_crew 16 = .ok (.ireturn, 1) := by decide +kernel
theorem dX7_crew_17 : decode cX7_crew 17 = .ok (.aload_n 0, 1) := by decide +kernel
theorem dX7_crew_18 : decode cX7_crew 18 = .ok (.getfield 7, 3) := by decide +kernel
theorem dX7_crew_21 : decode cX7_crew 21 = .ok (.iconst 0, 1) := by decide +kernel
theorem dX7_crew_22 : decode cX7_crew 22 = .ok (.iload_n 1, 1) := by decide +kernel
theorem dX7_crew_23 : decode cX7_crew 23 = .ok (.iastore, 1) := by decide +kernel
theorem dX7_crew_24 : decode cX7_crew 24 = .ok (.aload_n 0, 1) := by decide +kernel
theorem dX7_crew_25 : decode cX7_crew 25 = .ok (.getfield 7, 3) := by decide +kernel
theorem dX7_crew_28 : decode cX7_crew 28 = .ok (.iconst 2, 1) := by decide +kernel
theorem dX7_crew_29 : decode cX7_crew 29 = .ok (.iconst 0, 1) := by decide +kernel
theorem dX7_crew_30 : decode cX7_crew 30 = .ok (.iastore, 1) := by decide +kernel
theorem dX7_crew_31 : decode cX7_crew 31 = .ok (.iconst 1, 1) := by decide +kernel
theorem dX7_crew_32 : decode cX7_crew 32 = .ok (.ireturn, 1) := by decide +kernel
theorem dX7_limit_0 : decode cX7_limit 0 = .ok (.aload_n 0, 1) := by decide +kernel
theorem dX7_limit_1 : decode cX7_limit 1 = .ok (.iconst 0, 1) := by decide +kernel
theorem dX7_limit_2 : decode cX7_limit 2 = .ok (.putfield 43, 3) := by decide +kernel
theorem dX7_limit_5 : decode cX7_limit 5 = .ok (.iload_n 1, 1) := by decide +kernel
theorem dX7_limit_6 : decode cX7_limit 6 = .ok (.iconst 1, 1) := by decide +kernel
theorem dX7_limit_7 : decode cX7_limit 7 = .ok (.bipush 99, 2) := by decide +kernel
theorem dX7_limit_9 : decode cX7_limit 9 = .ok (.invokestatic 50, 3) := by decide +kernel
theorem dX7_limit_12 : decode cX7_limit 12 = .ok (.ifCond .eq 13, 3) := by decide +kernel
theorem dX7_limit_15 : decode cX7_limit 15 = .ok (.iload_n 1, 1) := by decide +kernel
theorem dX7_limit_16 : decode cX7_limit 16 = .ok (.aload_n 0, 1) := by decide +kernel
theorem dX7_limit_17 : decode cX7_limit 17 = .ok (.getfield 7, 3) := by decide +kernel
theorem dX7_limit_20 : decode cX7_limit 20 = .ok (.iconst 1, 1) := by decide +kernel
theorem dX7_limit_21 : decode cX7_limit 21 = .ok (.iaload, 1) := by decide +kernel
theorem dX7_limit_22 : decode cX7_limit 22 = .ok (.if_icmp .ne 5, 3) := by decide +kernel
theorem dX7_limit_25 : decode cX7_limit 25 = .ok (.iconst 0, 1) := by decide +kernel
theorem dX7_limit_26 : decode cX7_limit 26 = .ok (.ireturn, 1) := by decide +kernel
theorem dX7_limit_27 : decode cX7_limit 27 = .ok (.aload_n 0, 1) := by decide +kernel
theorem dX7_limit_28 : decode cX7_limit 28 = .ok (.getfield 7, 3) := by decide +kernel
theorem dX7_limit_31 : decode cX7_limit 31 = .ok (.iconst 1, 1) := by decide +kernel
theorem dX7_limit_32 : decode cX7_limit 32 = .ok (.iload_n 1, 1) := by decide +kernel
theorem dX7_limit_33 : decode cX7_limit 33 = .ok (.iastore, 1) := by decide +kernel
theorem dX7_limit_34 : decode cX7_limit 34 = .ok (.iconst 1, 1) := by decide +kernel
theorem dX7_limit_35 : decode cX7_limit 35 = .ok (.ireturn, 1) := by decide +kernel
theorem dX7_race_0 : decode cX7_race 0 = .ok (.aload_n 0, 1) := by decide +kernel
theorem dX7_race_1 : decode cX7_race 1 = .ok (.iconst 0, 1) := by decide +kernel
theorem dX7_race_2 : decode cX7_race 2 = .ok (.putfield 43, 3) := by decide +kernel
theorem dX7_race_5 : decode cX7_race 5 = .ok (.aload_n 0, 1) := by decide +kernel
theorem dX7_race_6 : decode cX7_race 6 = .ok (.iload_n 1, 1) := by decide +kernel
theorem dX7_race_7 : decode cX7_race 7 = .ok (.iload_n 2, 1) := by decide +kernel
theorem dX7_race_8 : decode cX7_race 8 = .ok (.invokevirtual 61, 3) := by decide +kernel
theorem dX7_race_11 : decode cX7_race 11 = .ok (.ifCond .eq 26, 3) := by decide +kernel
theorem dX7_race_14 : decode cX7_race 14 = .ok (.iload_n 3, 1) := by decide +kernel
theorem dX7_race_15 : decode cX7_race 15 = .ok (.sipush (-999), 3) := by decide +kernel
theorem dX7_race_18 : decode cX7_race 18 = .ok (.sipush 999, 3) := by decide +kernel
theorem dX7_race_21 : decode cX7_race 21 = .ok (.invokestatic 50, 3) := by decide +kernel
theorem dX7_race_24 : decode cX7_race 24 = .ok (.ifCond .eq 13, 3) := by decide +kernel
theorem dX7_race_27 : decode cX7_race 27 = .ok (.iload 4, 2) := by decide +kernel
theorem dX7_race_29 : decode cX7_race 29 = .ok (.iconst (-1), 1) := by decide +kernel
theorem dX7_race_30 : decode cX7_race 30 = .ok (.iconst 1, 1) := by decide +kernel
theorem dX7_race_31 : decode cX7_race 31 = .ok (.invokestatic 50, 3) := by decide +kernel
theorem dX7_race_34 : decode cX7_race 34 = .ok (.ifCond .ne 5, 3) := by decide +kernel
theorem dX7_race_37 : decode cX7_race 37 = .ok (.iconst (-1), 1) := by decide +kernel
theorem dX7_race_38 : decode cX7_race 38 = .ok (.ireturn, 1) := by decide +kernel
theorem dX7_race_39 : decode cX7_race 39 = .ok (.aload_n 0, 1) := by decide +kernel
theorem dX7_race_40 : decode cX7_race 40 = .ok (.invokevirtual 58, 3) := by decide +kernel
theorem dX7_race_43 : decode cX7_race 43 = .ok (.bipush 12, 2) := by decide +kernel
theorem dX7_race_45 : decode cX7_race 45 = .ok (.if_icmp .ne 6, 3) := by decide +kernel
theorem dX7_race_48 : decode cX7_race 48 = .ok (.bipush (-2), 2) := by decide +kernel
theorem dX7_race_50 : decode cX7_race 50 = .ok (.ireturn, 1) := by decide +kernel
theorem dX7_race_51 : decode cX7_race 51 = .ok (.aload_n 0, 1) := by decide +kernel
theorem dX7_race_52 : decode cX7_race 52 = .ok (.iload_n 1, 1) := by decide +kernel
theorem dX7_race_53 : decode cX7_race 53 = .ok (.iload_n 2, 1) := by decide +kernel
theorem dX7_race_54 : decode cX7_race 54 = .ok (.iload_n 3, 1) := by decide +kernel
theorem dX7_race_55 : decode cX7_race 55 = .ok (.iload 4, 2) := by decide +kernel
theorem dX7_race_57 : decode cX7_race 57 = .ok (.invokevirtual 65, 3) := by decide +kernel
theorem dX7_race_60 : decode cX7_race 60 = .ok (.aload_n 0, 1) := by decide +kernel
theorem dX7_race_61 : decode cX7_race 61 = .ok (.invokevirtual 58, 3) := by decide +kernel
theorem dX7_race_64 : decode cX7_race 64 = .ok (.iconst 1, 1) := by decide +kernel
theorem dX7_race_65 : decode cX7_race 65 = .ok (.isub, 1) := by decide +kernel
theorem dX7_race_66 : decode cX7_race 66 = .ok (.ireturn, 1) := by decide +kernel
theorem dX7_goes_0 : decode cX7_goes 0 = .ok (.iconst 3, 1) := by decide +kernel
theorem dX7_goes_1 : decode cX7_goes 1 = .ok (.iconst 4, 1) := by decide +kernel
theorem dX7_goes_2 : decode cX7_goes 2 = .ok (.iload_n 1, 1) := by decide +kernel
theorem dX7_goes_3 : decode cX7_goes 3 = .ok (.imul, 1) := by decide +kernel
theorem dX7_goes_4 : decode cX7_goes 4 = .ok (.iadd, 1) := by decide +kernel
theorem dX7_goes_5 : decode cX7_goes 5 = .ok (.istore_n 2, 1) := by decide +kernel
theorem dX7_goes_6 : decode cX7_goes 6 = .ok (.iload_n 2, 1) := by decide +kernel
theorem dX7_goes_7 : decode cX7_goes 7 = .ok (.iconst 3, 1) := by decide +kernel
theorem dX7_goes_8 : decode cX7_goes 8 = .ok (.iconst 4, 1) := by decide +kernel
theorem dX7_goes_9 : decode cX7_goes 9 = .ok (.aload_n 0, 1) := by decide +kernel
theorem dX7_goes_10 : decode cX7_goes 10 = .ok (.invokevirtual 58, 3) := by decide +kernel
theorem dX7_goes_13 : decode cX7_goes 13 = .ok (.iconst 1, 1) := by decide +kernel
theorem dX7_goes_14 : decode cX7_goes 14 = .ok (.isub, 1) := by decide +kernel
theorem dX7_goes_15 : decode cX7_goes 15 = .ok (.imul, 1) := by decide +kernel
theorem dX7_goes_16 : decode cX7_goes 16 = .ok (.iadd, 1) := by decide +kernel
theorem dX7_goes_17 : decode cX7_goes 17 = .ok (.if_icmp .ge 23, 3) := by decide +kernel
theorem dX7_goes_20 : decode cX7_goes 20 = .ok (.aload_n 0, 1) := by decide +kernel
theorem dX7_goes_21 : decode cX7_goes 21 = .ok (.getfield 7, 3) := by decide +kernel
theorem dX7_goes_24 : decode cX7_goes 24 = .ok (.iload_n 2, 1) := by decide +kernel
theorem dX7_goes_25 : decode cX7_goes 25 = .ok (.aload_n 0, 1) := by decide +kernel
theorem dX7_goes_26 : decode cX7_goes 26 = .ok (.getfield 7, 3) := by decide +kernel
theorem dX7_goes_29 : decode cX7_goes 29 = .ok (.iload_n 2, 1) := by decide +kernel
theorem dX7_goes_30 : decode cX7_goes 30 = .ok (.iconst 4, 1) := by decide +kernel
theorem dX7_goes_31 : decode cX7_goes 31 = .ok (.iadd, 1) := by decide +kernel
theorem dX7_goes_32 : decode cX7_goes 32 = .ok (.iaload, 1) := by decide +kernel
theorem dX7_goes_33 : decode cX7_goes 33 = .ok (.iastore, 1) := by decide +kernel
theorem dX7_goes_34 : decode cX7_goes 34 = .ok (.iinc 2 1, 3) := by decide +kernel
theorem dX7_goes_37 : decode cX7_goes 37 = .ok (.goto (-31), 3) := by decide +kernel
theorem dX7_goes_40 : decode cX7_goes 40 = .ok (.aload_n 0, 1) := by decide +kernel
theorem dX7_goes_41 : decode cX7_goes 41 = .ok (.getfield 7, 3) := by decide +kernel
theorem dX7_goes_44 : decode cX7_goes 44 = .ok (.iconst 2, 1) := by decide +kernel
theorem dX7_goes_45 : decode cX7_goes 45 = .ok (.dup2, 1) := by decide +kernel
theorem dX7_goes_46 : decode cX7_goes 46 = .ok (.iaload, 1) := by decide +kernel
theorem dX7_goes_47 : decode cX7_goes 47 = .ok (.iconst 1, 1) := by decide +kernel
theorem dX7_goes_48 : decode cX7_goes 48 = .ok (.isub, 1) := by decide +kernel
theorem dX7_goes_49 : decode cX7_goes 49 = .ok (.iastore, 1) := by decide +kernel
theorem dX7_goes_50 : decode cX7_goes 50 = .ok (.return_, 1) := by decide +kernel
theorem dX7_strike_0 : decode cX7_strike 0 = .ok (.aload_n 0, 1) := by decide +kernel
theorem dX7_strike_1 : decode cX7_strike 1 = .ok (.iconst 0, 1) := by decide +kernel
theorem dX7_strike_2 : decode cX7_strike 2 = .ok (.putfield 43, 3) := by decide +kernel
theorem dX7_strike_5 : decode cX7_strike 5 = .ok (.iload_n 1, 1) := by decide +kernel
theorem dX7_strike_6 : decode cX7_strike 6 = .ok (.iconst 0, 1) := by decide +kernel
theorem dX7_strike_7 : decode cX7_strike 7 = .ok (.aload_n 0, 1) := by decide +kernel
theorem dX7_strike_8 : decode cX7_strike 8 = .ok (.invokevirtual 58, 3) := by decide +kernel
theorem dX7_strike_11 : decode cX7_strike 11 = .ok (.iconst 1, 1) := by decide +kernel
theorem dX7_strike_12 : decode cX7_strike 12 = .ok (.isub, 1) := by decide +kernel
theorem dX7_strike_13 : decode cX7_strike 13 = .ok (.invokestatic 50, 3) := by decide +kernel
theorem dX7_strike_16 : decode cX7_strike 16 = .ok (.ifCond .ne 5, 3) := by decide +kernel
theorem dX7_strike_19 : decode cX7_strike 19 = .ok (.iconst (-1), 1) := by decide +kernel
theorem dX7_strike_20 : decode cX7_strike 20 = .ok (.ireturn, 1) := by decide +kernel
theorem dX7_strike_21 : decode cX7_strike 21 = .ok (.aload_n 0, 1) := by decide +kernel
theorem dX7_strike_22 : decode cX7_strike 22 = .ok (.iload_n 1, 1) := by decide +kernel
theorem dX7_strike_23 : decode cX7_strike 23 = .ok (.invokevirtual 69, 3) := by decide +kernel
theorem dX7_strike_26 : decode cX7_strike 26 = .ok (.aload_n 0, 1) := by decide +kernel
theorem dX7_strike_27 : decode cX7_strike 27 = .ok (.invokevirtual 58, 3) := by decide +kernel
theorem dX7_strike_30 : decode cX7_strike 30 = .ok (.ireturn, 1) := by decide +kernel
theorem dX7_raced_0 : decode cX7_raced 0 = .ok (.aload_n 0, 1) := by decide +kernel
theorem dX7_raced_1 : decode cX7_raced 1 = .ok (.iload_n 1, 1) := by decide +kernel
theorem dX7_raced_2 : decode cX7_raced 2 = .ok (.iconst 0, 1) := by decide +kernel
theorem dX7_raced_3 : decode cX7_raced 3 = .ok (.aload_n 0, 1) := by decide +kernel
theorem dX7_raced_4 : decode cX7_raced 4 = .ok (.invokevirtual 58, 3) := by decide +kernel
theorem dX7_raced_7 : decode cX7_raced 7 = .ok (.iconst 1, 1) := by decide +kernel
theorem dX7_raced_8 : decode cX7_raced 8 = .ok (.isub, 1) := by decide +kernel
theorem dX7_raced_9 : decode cX7_raced 9 = .ok (.invokestatic 50, 3) := by decide +kernel
theorem dX7_raced_12 : decode cX7_raced 12 = .ok (.ifCond .eq 16, 3) := by decide +kernel
theorem dX7_raced_15 : decode cX7_raced 15 = .ok (.iload_n 2, 1) := by decide +kernel
theorem dX7_raced_16 : decode cX7_raced 16 = .ok (.iconst 0, 1) := by decide +kernel
theorem dX7_raced_17 : decode cX7_raced 17 = .ok (.iconst 3, 1) := by decide +kernel
theorem dX7_raced_18 : decode cX7_raced 18 = .ok (.invokestatic 50, 3) := by decide +kernel
theorem dX7_raced_21 : decode cX7_raced 21 = .ok (.ifCond .eq 7, 3) := by decide +kernel
theorem dX7_raced_24 : decode cX7_raced 24 = .ok (.iconst 0, 1) := by decide +kernel
theorem dX7_raced_25 : decode cX7_raced 25 = .ok (.goto 4, 3) := by decide +kernel
theorem dX7_raced_28 : decode cX7_raced 28 = .ok (.iconst 1, 1) := by decide +kernel
theorem dX7_raced_29 : decode cX7_raced 29 = .ok (.putfield 43, 3) := by decide +kernel
theorem dX7_raced_32 : decode cX7_raced 32 = .ok (.aload_n 0, 1) := by decide +kernel
theorem dX7_raced_33 : decode cX7_raced 33 = .ok (.getfield 43, 3) := by decide +kernel
theorem dX7_raced_36 : decode cX7_raced 36 = .ok (.iconst 1, 1) := by decide +kernel
theorem dX7_raced_37 : decode cX7_raced 37 = .ok (.if_icmp .ne 7, 3) := by decide +kernel
theorem dX7_raced_40 : decode cX7_raced 40 = .ok (.iconst 0, 1) := by decide +kernel
theorem dX7_raced_41 : decode cX7_raced 41 = .ok (.goto 9, 3) := by decide +kernel
theorem dX7_raced_44 : decode cX7_raced 44 = .ok (.aload_n 0, 1) := by decide +kernel
theorem dX7_raced_45 : decode cX7_raced 45 = .ok (.iload_n 1, 1) := by decide +kernel
theorem dX7_raced_46 : decode cX7_raced 46 = .ok (.iload_n 2, 1) := by decide +kernel
theorem dX7_raced_47 : decode cX7_raced 47 = .ok (.invokevirtual 73, 3) := by decide +kernel
theorem dX7_raced_50 : decode cX7_raced 50 = .ok (.ireturn, 1) := by decide +kernel
theorem dX7_put_0 : decode cX7_put 0 = .ok (.bipush 24, 2) := by decide +kernel
theorem dX7_put_2 : decode cX7_put 2 = .ok (.istore_n 2, 1) := by decide +kernel
theorem dX7_put_3 : decode cX7_put 3 = .ok (.iload_n 2, 1) := by decide +kernel
theorem dX7_put_4 : decode cX7_put 4 = .ok (.ifCond .lt 32, 3) := by decide +kernel
theorem dX7_put_7 : decode cX7_put 7 = .ok (.aload_n 0, 1) := by decide +kernel
theorem dX7_put_8 : decode cX7_put 8 = .ok (.getfield 16, 3) := by decide +kernel
theorem dX7_put_11 : decode cX7_put 11 = .ok (.aload_n 0, 1) := by decide +kernel
theorem dX7_put_12 : decode cX7_put 12 = .ok (.getfield 77, 3) := by decide +kernel
theorem dX7_put_15 : decode cX7_put 15 = .ok (.iload_n 1, 1) := by decide +kernel
theorem dX7_put_16 : decode cX7_put 16 = .ok (.iload_n 2, 1) := by decide +kernel
theorem dX7_put_17 : decode cX7_put 17 = .ok (.ishr, 1) := by decide +kernel
theorem dX7_put_18 : decode cX7_put 18 = .ok (.i2b, 1) := by decide +kernel
theorem dX7_put_19 : decode cX7_put 19 = .ok (.bastore, 1) := by decide +kernel
theorem dX7_put_20 : decode cX7_put 20 = .ok (.aload_n 0, 1) := by decide +kernel
theorem dX7_put_21 : decode cX7_put 21 = .ok (.dup, 1) := by decide +kernel
theorem dX7_put_22 : decode cX7_put 22 = .ok (.getfield 77, 3) := by decide +kernel
theorem dX7_put_25 : decode cX7_put 25 = .ok (.iconst 1, 1) := by decide +kernel
theorem dX7_put_26 : decode cX7_put 26 = .ok (.iadd, 1) := by decide +kernel
theorem dX7_put_27 : decode cX7_put 27 = .ok (.putfield 77, 3) := by decide +kernel
theorem dX7_put_30 : decode cX7_put 30 = .ok (.iinc 2 (-8), 3) := by decide +kernel
theorem dX7_put_33 : decode cX7_put 33 = .ok (.goto (-30), 3) := by decide +kernel
theorem dX7_put_36 : decode cX7_put 36 = .ok (.return_, 1) := by decide +kernel
theorem dX7_feed_0 : decode cX7_feed 0 = .ok (.aload_n 0, 1) := by decide +kernel
theorem dX7_feed_1 : decode cX7_feed 1 = .ok (.iconst 0, 1) := by decide +kernel
theorem dX7_feed_2 : decode cX7_feed 2 = .ok (.putfield 43, 3) := by decide +kernel
theorem dX7_feed_5 : decode cX7_feed 5 = .ok (.aload_n 0, 1) := by decide +kernel
theorem dX7_feed_6 : decode cX7_feed 6 = .ok (.getfield 77, 3) := by decide +kernel
theorem dX7_feed_9 : decode cX7_feed 9 = .ok (.bipush 20, 2) := by decide +kernel
theorem dX7_feed_11 : decode cX7_feed 11 = .ok (.iadd, 1) := by decide +kernel
theorem dX7_feed_12 : decode cX7_feed 12 = .ok (.sipush 300, 3) := by decide +kernel
theorem dX7_feed_15 : decode cX7_feed 15 = .ok (.if_icmp .le 5, 3) := by decide +kernel
theorem dX7_feed_18 : decode cX7_feed 18 = .ok (.iconst (-1), 1) := by decide +kernel
theorem dX7_feed_19 : decode cX7_feed 19 = .ok (.ireturn, 1) := by decide +kernel
theorem dX7_feed_20 : decode cX7_feed 20 = .ok (.aload_n 0, 1) := by decide +kernel
theorem dX7_feed_21 : decode cX7_feed 21 = .ok (.iload_n 1, 1) := by decide +kernel
theorem dX7_feed_22 : decode cX7_feed 22 = .ok (.invokevirtual 80, 3) := by decide +kernel
theorem dX7_feed_25 : decode cX7_feed 25 = .ok (.aload_n 0, 1) := by decide +kernel
theorem dX7_feed_26 : decode cX7_feed 26 = .ok (.iload_n 2, 1) := by decide +kernel
theorem dX7_feed_27 : decode cX7_feed 27 = .ok (.invokevirtual 80, 3) := by decide +kernel
theorem dX7_feed_30 : decode cX7_feed 30 = .ok (.aload_n 0, 1) := by decide +kernel
theorem dX7_feed_31 : decode cX7_feed 31 = .ok (.iload_n 3, 1) := by decide +kernel
theorem dX7_feed_32 : decode cX7_feed 32 = .ok (.invokevirtual 80, 3) := by decide +kernel
theorem dX7_feed_35 : decode cX7_feed 35 = .ok (.aload_n 0, 1) := by decide +kernel
theorem dX7_feed_36 : decode cX7_feed 36 = .ok (.iload 4, 2) := by decide +kernel
theorem dX7_feed_38 : decode cX7_feed 38 = .ok (.invokevirtual 80, 3) := by decide +kernel
theorem dX7_feed_41 : decode cX7_feed 41 = .ok (.aload_n 0, 1) := by decide +kernel
theorem dX7_feed_42 : decode cX7_feed 42 = .ok (.iload 5, 2) := by decide +kernel
theorem dX7_feed_44 : decode cX7_feed 44 = .ok (.invokevirtual 80, 3) := by decide +kernel
theorem dX7_feed_47 : decode cX7_feed 47 = .ok (.aload_n 0, 1) := by decide +kernel
theorem dX7_feed_48 : decode cX7_feed 48 = .ok (.getfield 77, 3) := by decide +kernel
theorem dX7_feed_51 : decode cX7_feed 51 = .ok (.ireturn, 1) := by decide +kernel
theorem dX7_end_0 : decode cX7_end 0 = .ok (.aload_n 0, 1) := by decide +kernel
theorem dX7_end_1 : decode cX7_end 1 = .ok (.iconst 0, 1) := by decide +kernel
theorem dX7_end_2 : decode cX7_end 2 = .ok (.putfield 43, 3) := by decide +kernel
theorem dX7_end_5 : decode cX7_end 5 = .ok (.iload_n 1, 1) := by decide +kernel
theorem dX7_end_6 : decode cX7_end 6 = .ok (.iconst 0, 1) := by decide +kernel
theorem dX7_end_7 : decode cX7_end 7 = .ok (.aload_n 0, 1) := by decide +kernel
theorem dX7_end_8 : decode cX7_end 8 = .ok (.getfield 77, 3) := by decide +kernel
theorem dX7_end_11 : decode cX7_end 11 = .ok (.invokestatic 50, 3) := by decide +kernel
theorem dX7_end_14 : decode cX7_end 14 = .ok (.ifCond .ne 5, 3) := by decide +kernel
theorem dX7_end_17 : decode cX7_end 17 = .ok (.iconst 0, 1) := by decide +kernel
theorem dX7_end_18 : decode cX7_end 18 = .ok (.ireturn, 1) := by decide +kernel
theorem dX7_end_19 : decode cX7_end 19 = .ok (.aload_n 0, 1) := by decide +kernel
theorem dX7_end_20 : decode cX7_end 20 = .ok (.iload_n 1, 1) := by decide +kernel
theorem dX7_end_21 : decode cX7_end 21 = .ok (.putfield 77, 3) := by decide +kernel
theorem dX7_end_24 : decode cX7_end 24 = .ok (.iconst 1, 1) := by decide +kernel
theorem dX7_end_25 : decode cX7_end 25 = .ok (.ireturn, 1) := by decide +kernel
theorem dX7_here_0 : decode cX7_here 0 = .ok (.aload_n 0, 1) := by decide +kernel
theorem dX7_here_1 : decode cX7_here 1 = .ok (.getfield 83, 3) := by decide +kernel
theorem dX7_here_4 : decode cX7_here 4 = .ok (.aload_n 0, 1) := by decide +kernel
theorem dX7_here_5 : decode cX7_here 5 = .ok (.getfield 86, 3) := by decide +kernel
theorem dX7_here_8 : decode cX7_here 8 = .ok (.if_icmp .ge 44, 3) := by decide +kernel
theorem dX7_here_11 : decode cX7_here 11 = .ok (.aload_n 0, 1) := by decide +kernel
theorem dX7_here_12 : decode cX7_here 12 = .ok (.getfield 16, 3) := by decide +kernel
theorem dX7_here_15 : decode cX7_here 15 = .ok (.aload_n 0, 1) := by decide +kernel
theorem dX7_here_16 : decode cX7_here 16 = .ok (.getfield 83, 3) := by decide +kernel
theorem dX7_here_19 : decode cX7_here 19 = .ok (.baload, 1) := by decide +kernel
theorem dX7_here_20 : decode cX7_here 20 = .ok (.bipush 32, 2) := by decide +kernel
theorem dX7_here_22 : decode cX7_here 22 = .ok (.if_icmp .eq 17, 3) := by decide +kernel
theorem dX7_here_25 : decode cX7_here 25 = .ok (.aload_n 0, 1) := by decide +kernel
theorem dX7_here_26 : decode cX7_here 26 = .ok (.getfield 16, 3) := by decide +kernel
theorem dX7_here_29 : decode cX7_here 29 = .ok (.aload_n 0, 1) := by decide +kernel
theorem dX7_here_30 : decode cX7_here 30 = .ok (.getfield 83, 3) := by decide +kernel
theorem dX7_here_33 : decode cX7_here 33 = .ok (.baload, 1) := by decide +kernel
theorem dX7_here_34 : decode cX7_here 34 = .ok (.bipush 10, 2) := by decide +kernel
theorem dX7_here_36 : decode cX7_here 36 = .ok (.if_icmp .ne 16, 3) := by decide +kernel
theorem dX7_here_39 : decode cX7_here 39 = .ok (.aload_n 0, 1) := by decide +kernel
theorem dX7_here_40 : decode cX7_here 40 = .ok (.dup, 1) := by decide +kernel
theorem dX7_here_41 : decode cX7_here 41 = .ok (.getfield 83, 3) := by decide +kernel
theorem dX7_here_44 : decode cX7_here 44 = .ok (.iconst 1, 1) := by decide +kernel
theorem dX7_here_45 : decode cX7_here 45 = .ok (.iadd, 1) := by decide +kernel
theorem dX7_here_46 : decode cX7_here 46 = .ok (.putfield 83, 3) := by decide +kernel
theorem dX7_here_49 : decode cX7_here 49 = .ok (.goto (-49), 3) := by decide +kernel
theorem dX7_here_52 : decode cX7_here 52 = .ok (.aload_n 0, 1) := by decide +kernel
theorem dX7_here_53 : decode cX7_here 53 = .ok (.getfield 83, 3) := by decide +kernel
theorem dX7_here_56 : decode cX7_here 56 = .ok (.aload_n 0, 1) := by decide +kernel
theorem dX7_here_57 : decode cX7_here 57 = .ok (.getfield 86, 3) := by decide +kernel
theorem dX7_here_60 : decode cX7_here 60 = .ok (.if_icmp .ge 19, 3) := by decide +kernel
theorem dX7_here_63 : decode cX7_here 63 = .ok (.aload_n 0, 1) := by decide +kernel
theorem dX7_here_64 : decode cX7_here 64 = .ok (.getfield 16, 3) := by decide +kernel
theorem dX7_here_67 : decode cX7_here 67 = .ok (.aload_n 0, 1) := by decide +kernel
theorem dX7_here_68 : decode cX7_here 68 = .ok (.getfield 83, 3) := by decide +kernel
theorem dX7_here_71 : decode cX7_here 71 = .ok (.baload, 1) := by decide +kernel
theorem dX7_here_72 : decode cX7_here 72 = .ok (.sipush 255, 3) := by decide +kernel
theorem dX7_here_75 : decode cX7_here 75 = .ok (.iand, 1) := by decide +kernel
theorem dX7_here_76 : decode cX7_here 76 = .ok (.goto 4, 3) := by decide +kernel
theorem dX7_here_79 : decode cX7_here 79 = .ok (.iconst (-1), 1) := by decide +kernel
theorem dX7_here_80 : decode cX7_here 80 = .ok (.ireturn, 1) := by decide +kernel
theorem dX7_fails_0 : decode cX7_fails 0 = .ok (.aload_n 0, 1) := by decide +kernel
theorem dX7_fails_1 : decode cX7_fails 1 = .ok (.getfield 89, 3) := by decide +kernel
theorem dX7_fails_4 : decode cX7_fails 4 = .ok (.ifCond .ne 13, 3) := by decide +kernel
theorem dX7_fails_7 : decode cX7_fails 7 = .ok (.aload_n 0, 1) := by decide +kernel
theorem dX7_fails_8 : decode cX7_fails 8 = .ok (.iload_n 1, 1) := by decide +kernel
theorem dX7_fails_9 : decode cX7_fails 9 = .ok (.bipush 8, 2) := by decide +kernel
theorem dX7_fails_11 : decode cX7_fails 11 = .ok (.iload_n 2, 1) := by decide +kernel
theorem dX7_fails_12 : decode cX7_fails 12 = .ok (.imul, 1) := by decide +kernel
theorem dX7_fails_13 : decode cX7_fails 13 = .ok (.iadd, 1) := by decide +kernel
theorem dX7_fails_14 : decode cX7_fails 14 = .ok (.putfield 89, 3) := by decide +kernel
theorem dX7_fails_17 : decode cX7_fails 17 = .ok (.return_, 1) := by decide +kernel
theorem dX7_isDigitAt_0 : decode cX7_isDigitAt 0 = .ok (.iload_n 1, 1) := by decide +kernel
theorem dX7_isDigitAt_1 : decode cX7_isDigitAt 1 = .ok (.aload_n 0, 1) := by decide +kernel
theorem dX7_isDigitAt_2 : decode cX7_isDigitAt 2 = .ok (.getfield 86, 3) := by decide +kernel
theorem dX7_isDigitAt_5 : decode cX7_isDigitAt 5 = .ok (.if_icmp .ge 23, 3) := by decide +kernel
theorem dX7_isDigitAt_8 : decode cX7_isDigitAt 8 = .ok (.aload_n 0, 1) := by decide +kernel
theorem dX7_isDigitAt_9 : decode cX7_isDigitAt 9 = .ok (.getfield 16, 3) := by decide +kernel
theorem dX7_isDigitAt_12 : decode cX7_isDigitAt 12 = .ok (.iload_n 1, 1) := by decide +kernel
theorem dX7_isDigitAt_13 : decode cX7_isDigitAt 13 = .ok (.baload, 1) := by decide +kernel
theorem dX7_isDigitAt_14 : decode cX7_isDigitAt 14 = .ok (.bipush 48, 2) := by decide +kernel
theorem dX7_isDigitAt_16 : decode cX7_isDigitAt 16 = .ok (.bipush 57, 2) := by decide +kernel
theorem dX7_isDigitAt_18 : decode cX7_isDigitAt 18 = .ok (.invokestatic 50, 3) := by decide +kernel
theorem dX7_isDigitAt_21 : decode cX7_isDigitAt 21 = .ok (.ifCond .eq 7, 3) := by decide +kernel
theorem dX7_isDigitAt_24 : decode cX7_isDigitAt 24 = .ok (.iconst 1, 1) := by decide +kernel
theorem dX7_isDigitAt_25 : decode cX7_isDigitAt 25 = .ok (.goto 4, 3) := by decide +kernel
theorem dX7_isDigitAt_28 : decode cX7_isDigitAt 28 = .ok (.iconst 0, 1) := by decide +kernel
theorem dX7_isDigitAt_29 : decode cX7_isDigitAt 29 = .ok (.ireturn, 1) := by decide +kernel
theorem dX7_isNumber_0 : decode cX7_isNumber 0 = .ok (.aload_n 0, 1) := by decide +kernel
theorem dX7_isNumber_1 : decode cX7_isNumber 1 = .ok (.invokevirtual 92, 3) := by decide +kernel
theorem dX7_isNumber_4 : decode cX7_isNumber 4 = .ok (.istore_n 1, 1) := by decide +kernel
theorem dX7_isNumber_5 : decode cX7_isNumber 5 = .ok (.aload_n 0, 1) := by decide +kernel
theorem dX7_isNumber_6 : decode cX7_isNumber 6 = .ok (.iload_n 1, 1) := by decide +kernel
theorem dX7_isNumber_7 : decode cX7_isNumber 7 = .ok (.bipush 45, 2) := by decide +kernel
theorem dX7_isNumber_9 : decode cX7_isNumber 9 = .ok (.if_icmp .ne 12, 3) := by decide +kernel
theorem dX7_isNumber_12 : decode cX7_isNumber 12 = .ok (.aload_n 0, 1) := by decide +kernel
theorem dX7_isNumber_13 : decode cX7_isNumber 13 = .ok (.getfield 83, 3) := by decide +kernel
theorem dX7_isNumber_16 : decode cX7_isNumber 16 = .ok (.iconst 1, 1) := by decide +kernel
theorem dX7_isNumber_17 : decode cX7_isNumber 17 = .ok (.iadd, 1) := by decide +kernel
theorem dX7_isNumber_18 : decode cX7_isNumber 18 = .ok (.goto 7, 3) := by decide +kernel
theorem dX7_isNumber_21 : decode cX7_isNumber 21 = .ok (.aload_n 0, 1) := by decide +kernel
theorem dX7_isNumber_22 : decode cX7_isNumber 22 = .ok (.getfield 83, 3) := by decide +kernel
theorem dX7_isNumber_25 : decode cX7_isNumber 25 = .ok (.invokevirtual 95, 3) := by decide +kernel
theorem dX7_isNumber_28 : decode cX7_isNumber 28 = .ok (.ireturn, 1) := by decide +kernel
theorem dX7_number_0 : decode cX7_number 0 = .ok (.aload_n 0, 1) := by decide +kernel
theorem dX7_number_1 : decode cX7_number 1 = .ok (.getfield 89, 3) := by decide +kernel
theorem dX7_number_4 : decode cX7_number 4 = .ok (.ifCond .eq 5, 3) := by decide +kernel
theorem dX7_number_7 : decode cX7_number 7 = .ok (.iconst 0, 1) := by decide +kernel
theorem dX7_number_8 : decode cX7_number 8 = .ok (.ireturn, 1) := by decide +kernel
theorem dX7_number_9 : decode cX7_number 9 = .ok (.aload_n 0, 1) := by decide +kernel
theorem dX7_number_10 : decode cX7_number 10 = .ok (.invokevirtual 99, 3) := by decide +kernel
theorem dX7_number_13 : decode cX7_number 13 = .ok (.istore_n 1, 1) := by decide +kernel
theorem dX7_number_14 : decode cX7_number 14 = .ok (.aload_n 0, 1) := by decide +kernel
theorem dX7_number_15 : decode cX7_number 15 = .ok (.aload_n 0, 1) := by decide +kernel
theorem dX7_number_16 : decode cX7_number 16 = .ok (.getfield 83, 3) := by decide +kernel
theorem dX7_number_19 : decode cX7_number 19 = .ok (.putfield 103, 3) := by decide +kernel
theorem dX7_number_22 : decode cX7_number 22 = .ok (.iload_n 1, 1) := by decide +kernel
theorem dX7_number_23 : decode cX7_number 23 = .ok (.ifCond .ne 14, 3) := by decide +kernel
theorem dX7_number_26 : decode cX7_number 26 = .ok (.aload_n 0, 1) := by decide +kernel
theorem dX7_number_27 : decode cX7_number 27 = .ok (.iconst 1, 1) := by decide +kernel
theorem dX7_number_28 : decode cX7_number 28 = .ok (.aload_n 0, 1) := by decide +kernel
theorem dX7_number_29 : decode cX7_number 29 = .ok (.getfield 103, 3) := by decide +kernel
theorem dX7_number_32 : decode cX7_number 32 = .ok (.invokevirtual 106, 3) := by decide +kernel
theorem dX7_number_35 : decode cX7_number 35 = .ok (.iconst 0, 1) := by decide +kernel
theorem dX7_number_36 : decode cX7_number 36 = .ok (.ireturn, 1) := by decide +kernel
theorem dX7_number_37 : decode cX7_number 37 = .ok (.aload_n 0, 1) := by decide +kernel
theorem dX7_number_38 : decode cX7_number 38 = .ok (.getfield 16, 3) := by decide +kernel
theorem dX7_number_41 : decode cX7_number 41 = .ok (.aload_n 0, 1) := by decide +kernel
theorem dX7_number_42 : decode cX7_number 42 = .ok (.getfield 83, 3) := by decide +kernel
theorem dX7_number_45 : decode cX7_number 45 = .ok (.baload, 1) := by decide +kernel
theorem dX7_number_46 : decode cX7_number 46 = .ok (.bipush 45, 2) := by decide +kernel
theorem dX7_number_48 : decode cX7_number 48 = .ok (.if_icmp .ne 7, 3) := by decide +kernel
theorem dX7_number_51 : decode cX7_number 51 = .ok (.iconst 1, 1) := by decide +kernel
theorem dX7_number_52 : decode cX7_number 52 = .ok (.goto 4, 3) := by decide +kernel
theorem dX7_number_55 : decode cX7_number 55 = .ok (.iconst 0, 1) := by decide +kernel
theorem dX7_number_56 : decode cX7_number 56 = .ok (.istore_n 2, 1) := by decide +kernel
theorem dX7_number_57 : decode cX7_number 57 = .ok (.aload_n 0, 1) := by decide +kernel
theorem dX7_number_58 : decode cX7_number 58 = .ok (.dup, 1) := by decide +kernel
theorem dX7_number_59 : decode cX7_number 59 = .ok (.getfield 83, 3) := by decide +kernel
theorem dX7_number_62 : decode cX7_number 62 = .ok (.iload_n 2, 1) := by decide +kernel
theorem dX7_number_63 : decode cX7_number 63 = .ok (.ifCond .eq 7, 3) := by decide +kernel
theorem dX7_number_66 : decode cX7_number 66 = .ok (.iconst 1, 1) := by decide +kernel
theorem dX7_number_67 : decode cX7_number 67 = .ok (.goto 4, 3) := by decide +kernel
theorem dX7_number_70 : decode cX7_number 70 = .ok (.iconst 0, 1) := by decide +kernel
theorem dX7_number_71 : decode cX7_number 71 = .ok (.iadd, 1) := by decide +kernel
theorem dX7_number_72 : decode cX7_number 72 = .ok (.putfield 83, 3) := by decide +kernel
theorem dX7_number_75 : decode cX7_number 75 = .ok (.aload_n 0, 1) := by decide +kernel
theorem dX7_number_76 : decode cX7_number 76 = .ok (.getfield 83, 3) := by decide +kernel
theorem dX7_number_79 : decode cX7_number 79 = .ok (.istore_n 3, 1) := by decide +kernel
theorem dX7_number_80 : decode cX7_number 80 = .ok (.iconst 0, 1) := by decide +kernel
theorem dX7_number_81 : decode cX7_number 81 = .ok (.istore 4, 2) := by decide +kernel
theorem dX7_number_83 : decode cX7_number 83 = .ok (.aload_n 0, 1) := by decide +kernel
theorem dX7_number_84 : decode cX7_number 84 = .ok (.aload_n 0, 1) := by decide +kernel
theorem dX7_number_85 : decode cX7_number 85 = .ok (.getfield 83, 3) := by decide +kernel
theorem dX7_number_88 : decode cX7_number 88 = .ok (.invokevirtual 95, 3) := by decide +kernel
theorem dX7_number_91 : decode cX7_number 91 = .ok (.ifCond .eq 51, 3) := by decide +kernel
theorem dX7_number_94 : decode cX7_number 94 = .ok (.aload_n 0, 1) := by decide +kernel
theorem dX7_number_95 : decode cX7_number 95 = .ok (.getfield 83, 3) := by decide +kernel
theorem dX7_number_98 : decode cX7_number 98 = .ok (.iload_n 3, 1) := by decide +kernel
theorem dX7_number_99 : decode cX7_number 99 = .ok (.isub, 1) := by decide +kernel
theorem dX7_number_100 : decode cX7_number 100 = .ok (.iconst 3, 1) := by decide +kernel
theorem dX7_number_101 : decode cX7_number 101 = .ok (.if_icmp .ge 24, 3) := by decide +kernel
theorem dX7_number_104 : decode cX7_number 104 = .ok (.bipush 10, 2) := by decide +kernel
theorem dX7_number_106 : decode cX7_number 106 = .ok (.iload 4, 2) := by decide +kernel
theorem dX7_number_108 : decode cX7_number 108 = .ok (.imul, 1) := by decide +kernel
theorem dX7_number_109 : decode cX7_number 109 = .ok (.aload_n 0, 1) := by decide +kernel
theorem dX7_number_110 : decode cX7_number 110 = .ok (.getfield 16, 3) := by decide +kernel
theorem dX7_number_113 : decode cX7_number 113 = .ok (.aload_n 0, 1) := by decide +kernel
theorem dX7_number_114 : decode cX7_number 114 = .ok (.getfield 83, 3) := by decide +kernel
theorem dX7_number_117 : decode cX7_number 117 = .ok (.baload, 1) := by decide +kernel
theorem dX7_number_118 : decode cX7_number 118 = .ok (.iadd, 1) := by decide +kernel
theorem dX7_number_119 : decode cX7_number 119 = .ok (.bipush 48, 2) := by decide +kernel
theorem dX7_number_121 : decode cX7_number 121 = .ok (.isub, 1) := by decide +kernel
theorem dX7_number_122 : decode cX7_number 122 = .ok (.goto 5, 3) := by decide +kernel
theorem dX7_number_125 : decode cX7_number 125 = .ok (.iload 4, 2) := by decide +kernel
theorem dX7_number_127 : decode cX7_number 127 = .ok (.istore 4, 2) := by decide +kernel
theorem dX7_number_129 : decode cX7_number 129 = .ok (.aload_n 0, 1) := by decide +kernel
theorem dX7_number_130 : decode cX7_number 130 = .ok (.dup, 1) := by decide +kernel
theorem dX7_number_131 : decode cX7_number 131 = .ok (.getfield 83, 3) := by decide +kernel
theorem dX7_number_134 : decode cX7_number 134 = .ok (.iconst 1, 1) := by decide +kernel
theorem dX7_number_135 : decode cX7_number 135 = .ok (.iadd, 1) := by decide +kernel
theorem dX7_number_136 : decode cX7_number 136 = .ok (.putfield 83, 3) := by decide +kernel
theorem dX7_number_139 : decode cX7_number 139 = .ok (.goto (-56), 3) := by decide +kernel
theorem dX7_number_142 : decode cX7_number 142 = .ok (.aload_n 0, 1) := by decide +kernel
theorem dX7_number_143 : decode cX7_number 143 = .ok (.getfield 83, 3) := by decide +kernel
theorem dX7_number_146 : decode cX7_number 146 = .ok (.iload_n 3, 1) := by decide +kernel
theorem dX7_number_147 : decode cX7_number 147 = .ok (.isub, 1) := by decide +kernel
theorem dX7_number_148 : decode cX7_number 148 = .ok (.iconst 3, 1) := by decide +kernel
theorem dX7_number_149 : decode cX7_number 149 = .ok (.if_icmp .le 12, 3) := by decide +kernel
theorem dX7_number_152 : decode cX7_number 152 = .ok (.aload_n 0, 1) := by decide +kernel
theorem dX7_number_153 : decode cX7_number 153 = .ok (.iconst 1, 1) := by decide +kernel
theorem dX7_number_154 : decode cX7_number 154 = .ok (.aload_n 0, 1) := by decide +kernel
theorem dX7_number_155 : decode cX7_number 155 = .ok (.getfield 103, 3) := by decide +kernel
theorem dX7_number_158 : decode cX7_number 158 = .ok (.invokevirtual 106, 3) := by decide +kernel
theorem dX7_number_161 : decode cX7_number 161 = .ok (.iload_n 2, 1) := by decide +kernel
theorem dX7_number_162 : decode cX7_number 162 = .ok (.ifCond .eq 9, 3) := by decide +kernel
theorem dX7_number_165 : decode cX7_number 165 = .ok (.iload 4, 2) := by decide +kernel
theorem dX7_number_167 : decode cX7_number 167 = .ok (.ineg, 1) := by decide +kernel
theorem dX7_number_168 : decode cX7_number 168 = .ok (.goto 5, 3) := by decide +kernel
theorem dX7_number_171 : decode cX7_number 171 = .ok (.iload 4, 2) := by decide +kernel
theorem dX7_number_173 : decode cX7_number 173 = .ok (.ireturn, 1) := by decide +kernel
theorem dX7_numberIn_0 : decode cX7_numberIn 0 = .ok (.aload_n 0, 1) := by decide +kernel
theorem dX7_numberIn_1 : decode cX7_numberIn 1 = .ok (.invokevirtual 110, 3) := by decide +kernel
theorem dX7_numberIn_4 : decode cX7_numberIn 4 = .ok (.istore_n 3, 1) := by decide +kernel
theorem dX7_numberIn_5 : decode cX7_numberIn 5 = .ok (.aload_n 0, 1) := by decide +kernel
theorem dX7_numberIn_6 : decode cX7_numberIn 6 = .ok (.getfield 89, 3) := by decide +kernel
theorem dX7_numberIn_9 : decode cX7_numberIn 9 = .ok (.ifCond .ne 21, 3) := by decide +kernel
theorem dX7_numberIn_12 : decode cX7_numberIn 12 = .ok (.iload_n 3, 1) := by decide +kernel
theorem dX7_numberIn_13 : decode cX7_numberIn 13 = .ok (.iload_n 1, 1) := by decide +kernel
theorem dX7_numberIn_14 : decode cX7_numberIn 14 = .ok (.iload_n 2, 1) := by decide +kernel
theorem dX7_numberIn_15 : decode cX7_numberIn 15 = .ok (.invokestatic 50, 3) := by decide +kernel
theorem dX7_numberIn_18 : decode cX7_numberIn 18 = .ok (.ifCond .ne 12, 3) := by decide +kernel
theorem dX7_numberIn_21 : decode cX7_numberIn 21 = .ok (.aload_n 0, 1) := by decide +kernel
theorem dX7_numberIn_22 : decode cX7_numberIn 22 = .ok (.iconst 2, 1) := by decide +kernel
theorem dX7_numberIn_23 : decode cX7_numberIn 23 = .ok (.aload_n 0, 1) := by decide +kernel
theorem dX7_numberIn_24 : decode cX7_numberIn 24 = .ok (.getfield 103, 3) := by decide +kernel
theorem dX7_numberIn_27 : decode cX7_numberIn 27 = .ok (.invokevirtual 106, 3) := by decide +kernel
theorem dX7_numberIn_30 : decode cX7_numberIn 30 = .ok (.iload_n 3, 1) := by decide +kernel
theorem dX7_numberIn_31 : decode cX7_numberIn 31 = .ok (.ireturn, 1) := by decide +kernel
theorem dX7_word_0 : decode cX7_word 0 = .ok (.aload_n 0, 1) := by decide +kernel
theorem dX7_word_1 : decode cX7_word 1 = .ok (.invokevirtual 92, 3) := by decide +kernel
theorem dX7_word_4 : decode cX7_word 4 = .ok (.pop, 1) := by decide +kernel
theorem dX7_word_5 : decode cX7_word 5 = .ok (.aload_n 0, 1) := by decide +kernel
theorem dX7_word_6 : decode cX7_word 6 = .ok (.aload_n 0, 1) := by decide +kernel
theorem dX7_word_7 : decode cX7_word 7 = .ok (.getfield 83, 3) := by decide +kernel
theorem dX7_word_10 : decode cX7_word 10 = .ok (.putfield 103, 3) := by decide +kernel
theorem dX7_word_13 : decode cX7_word 13 = .ok (.iconst 0, 1) := by decide +kernel
theorem dX7_word_14 : decode cX7_word 14 = .ok (.istore_n 1, 1) := by decide +kernel
theorem dX7_word_15 : decode cX7_word 15 = .ok (.aload_n 0, 1) := by decide +kernel
theorem dX7_word_16 : decode cX7_word 16 = .ok (.getfield 83, 3) := by decide +kernel
theorem dX7_word_19 : decode cX7_word 19 = .ok (.aload_n 0, 1) := by decide +kernel
theorem dX7_word_20 : decode cX7_word 20 = .ok (.getfield 86, 3) := by decide +kernel
theorem dX7_word_23 : decode cX7_word 23 = .ok (.if_icmp .ge 70, 3) := by decide +kernel
theorem dX7_word_26 : decode cX7_word 26 = .ok (.aload_n 0, 1) := by decide +kernel
theorem dX7_word_27 : decode cX7_word 27 = .ok (.getfield 16, 3) := by decide +kernel
theorem dX7_word_30 : decode cX7_word 30 = .ok (.aload_n 0, 1) := by decide +kernel
theorem dX7_word_31 : decode cX7_word 31 = .ok (.getfield 83, 3) := by decide +kernel
theorem dX7_word_34 : decode cX7_word 34 = .ok (.baload, 1) := by decide +kernel
theorem dX7_word_35 : decode cX7_word 35 = .ok (.bipush 97, 2) := by decide +kernel
theorem dX7_word_37 : decode cX7_word 37 = .ok (.bipush 122, 2) := by decide +kernel
theorem dX7_word_39 : decode cX7_word 39 = .ok (.invokestatic 50, 3) := by decide +kernel
theorem dX7_word_42 : decode cX7_word 42 = .ok (.ifCond .eq 51, 3) := by decide +kernel
theorem dX7_word_45 : decode cX7_word 45 = .ok (.aload_n 0, 1) := by decide +kernel
theorem dX7_word_46 : decode cX7_word 46 = .ok (.getfield 83, 3) := by decide +kernel
theorem dX7_word_49 : decode cX7_word 49 = .ok (.aload_n 0, 1) := by decide +kernel
theorem dX7_word_50 : decode cX7_word 50 = .ok (.getfield 103, 3) := by decide +kernel
theorem dX7_word_53 : decode cX7_word 53 = .ok (.isub, 1) := by decide +kernel
theorem dX7_word_54 : decode cX7_word 54 = .ok (.iconst 5, 1) := by decide +kernel
theorem dX7_word_55 : decode cX7_word 55 = .ok (.if_icmp .ge 23, 3) := by decide +kernel
theorem dX7_word_58 : decode cX7_word 58 = .ok (.bipush 32, 2) := by decide +kernel
theorem dX7_word_60 : decode cX7_word 60 = .ok (.iload_n 1, 1) := by decide +kernel
theorem dX7_word_61 : decode cX7_word 61 = .ok (.imul, 1) := by decide +kernel
theorem dX7_word_62 : decode cX7_word 62 = .ok (.aload_n 0, 1) := by decide +kernel
theorem dX7_word_63 : decode cX7_word 63 = .ok (.getfield 16, 3) := by decide +kernel
theorem dX7_word_66 : decode cX7_word 66 = .ok (.aload_n 0, 1) := by decide +kernel
theorem dX7_word_67 : decode cX7_word 67 = .ok (.getfield 83, 3) := by decide +kernel
theorem dX7_word_70 : decode cX7_word 70 = .ok (.baload, 1) := by decide +kernel
theorem dX7_word_71 : decode cX7_word 71 = .ok (.iadd, 1) := by decide +kernel
theorem dX7_word_72 : decode cX7_word 72 = .ok (.bipush 96, 2) := by decide +kernel
theorem dX7_word_74 : decode cX7_word 74 = .ok (.isub, 1) := by decide +kernel
theorem dX7_word_75 : decode cX7_word 75 = .ok (.goto 4, 3) := by decide +kernel
theorem dX7_word_78 : decode cX7_word 78 = .ok (.iconst 0, 1) := by decide +kernel
theorem dX7_word_79 : decode cX7_word 79 = .ok (.istore_n 1, 1) := by decide +kernel
theorem dX7_word_80 : decode cX7_word 80 = .ok (.aload_n 0, 1) := by decide +kernel
theorem dX7_word_81 : decode cX7_word 81 = .ok (.dup, 1) := by decide +kernel
theorem dX7_word_82 : decode cX7_word 82 = .ok (.getfield 83, 3) := by decide +kernel
theorem dX7_word_85 : decode cX7_word 85 = .ok (.iconst 1, 1) := by decide +kernel
theorem dX7_word_86 : decode cX7_word 86 = .ok (.iadd, 1) := by decide +kernel
theorem dX7_word_87 : decode cX7_word 87 = .ok (.putfield 83, 3) := by decide +kernel
theorem dX7_word_90 : decode cX7_word 90 = .ok (.goto (-75), 3) := by decide +kernel
theorem dX7_word_93 : decode cX7_word 93 = .ok (.iload_n 1, 1) := by decide +kernel
theorem dX7_word_94 : decode cX7_word 94 = .ok (.ireturn, 1) := by decide +kernel
theorem dX7_letters_0 : decode cX7_letters 0 = .ok (.iload_n 0, 1) := by decide +kernel
theorem dX7_letters_1 : decode cX7_letters 1 = .ok (.bipush 32, 2) := by decide +kernel
theorem dX7_letters_3 : decode cX7_letters 3 = .ok (.imul, 1) := by decide +kernel
theorem dX7_letters_4 : decode cX7_letters 4 = .ok (.iload_n 1, 1) := by decide +kernel
theorem dX7_letters_5 : decode cX7_letters 5 = .ok (.iadd, 1) := by decide +kernel
theorem dX7_letters_6 : decode cX7_letters 6 = .ok (.bipush 32, 2) := by decide +kernel
theorem dX7_letters_8 : decode cX7_letters 8 = .ok (.imul, 1) := by decide +kernel
theorem dX7_letters_9 : decode cX7_letters 9 = .ok (.iload_n 2, 1) := by decide +kernel
theorem dX7_letters_10 : decode cX7_letters 10 = .ok (.iadd, 1) := by decide +kernel
theorem dX7_letters_11 : decode cX7_letters 11 = .ok (.bipush 32, 2) := by decide +kernel
theorem dX7_letters_13 : decode cX7_letters 13 = .ok (.imul, 1) := by decide +kernel
theorem dX7_letters_14 : decode cX7_letters 14 = .ok (.iload_n 3, 1) := by decide +kernel
theorem dX7_letters_15 : decode cX7_letters 15 = .ok (.iadd, 1) := by decide +kernel
theorem dX7_letters_16 : decode cX7_letters 16 = .ok (.bipush 32, 2) := by decide +kernel
theorem dX7_letters_18 : decode cX7_letters 18 = .ok (.imul, 1) := by decide +kernel
theorem dX7_letters_19 : decode cX7_letters 19 = .ok (.iload 4, 2) := by decide +kernel
theorem dX7_letters_21 : decode cX7_letters 21 = .ok (.iadd, 1) := by decide +kernel
theorem dX7_letters_22 : decode cX7_letters 22 = .ok (.ireturn, 1) := by decide +kernel
theorem dX7_rower_0 : decode cX7_rower 0 = .ok (.aload_n 0, 1) := by decide +kernel
theorem dX7_rower_1 : decode cX7_rower 1 = .ok (.invokevirtual 110, 3) := by decide +kernel
theorem dX7_rower_4 : decode cX7_rower 4 = .ok (.istore 4, 2) := by decide +kernel
theorem dX7_rower_6 : decode cX7_rower 6 = .ok (.aload_n 0, 1) := by decide +kernel
theorem dX7_rower_7 : decode cX7_rower 7 = .ok (.getfield 89, 3) := by decide +kernel
theorem dX7_rower_10 : decode cX7_rower 10 = .ok (.ifCond .eq 5, 3) := by decide +kernel
theorem dX7_rower_13 : decode cX7_rower 13 = .ok (.iload_n 1, 1) := by decide +kernel
theorem dX7_rower_14 : decode cX7_rower 14 = .ok (.ireturn, 1) := by decide +kernel
theorem dX7_rower_15 : decode cX7_rower 15 = .ok (.aload_n 0, 1) := by decide +kernel
theorem dX7_rower_16 : decode cX7_rower 16 = .ok (.iload 4, 2) := by decide +kernel
theorem dX7_rower_18 : decode cX7_rower 18 = .ok (.invokevirtual 113, 3) := by decide +kernel
theorem dX7_rower_21 : decode cX7_rower 21 = .ok (.ifCond .ne 15, 3) := by decide +kernel
theorem dX7_rower_24 : decode cX7_rower 24 = .ok (.aload_n 0, 1) := by decide +kernel
theorem dX7_rower_25 : decode cX7_rower 25 = .ok (.iconst 2, 1) := by decide +kernel
theorem dX7_rower_26 : decode cX7_rower 26 = .ok (.aload_n 0, 1) := by decide +kernel
theorem dX7_rower_27 : decode cX7_rower 27 = .ok (.getfield 103, 3) := by decide +kernel
theorem dX7_rower_30 : decode cX7_rower 30 = .ok (.invokevirtual 106, 3) := by decide +kernel
theorem dX7_rower_33 : decode cX7_rower 33 = .ok (.goto 54, 3) := by decide +kernel
theorem dX7_rower_36 : decode cX7_rower 36 = .ok (.iload_n 1, 1) := by decide +kernel
theorem dX7_rower_37 : decode cX7_rower 37 = .ok (.iload_n 2, 1) := by decide +kernel
theorem dX7_rower_38 : decode cX7_rower 38 = .ok (.ior, 1) := by decide +kernel
theorem dX7_rower_39 : decode cX7_rower 39 = .ok (.iload 4, 2) := by decide +kernel
theorem dX7_rower_41 : decode cX7_rower 41 = .ok (.invokestatic 116, 3) := by decide +kernel
theorem dX7_rower_44 : decode cX7_rower 44 = .ok (.ifCond .eq 15, 3) := by decide +kernel
theorem dX7_rower_47 : decode cX7_rower 47 = .ok (.aload_n 0, 1) := by decide +kernel
theorem dX7_rower_48 : decode cX7_rower 48 = .ok (.iconst 3, 1) := by decide +kernel
theorem dX7_rower_49 : decode cX7_rower 49 = .ok (.aload_n 0, 1) := by decide +kernel
theorem dX7_rower_50 : decode cX7_rower 50 = .ok (.getfield 103, 3) := by decide +kernel
theorem dX7_rower_53 : decode cX7_rower 53 = .ok (.invokevirtual 106, 3) := by decide +kernel
theorem dX7_rower_56 : decode cX7_rower 56 = .ok (.goto 31, 3) := by decide +kernel
theorem dX7_rower_59 : decode cX7_rower 59 = .ok (.iload_n 1, 1) := by decide +kernel
theorem dX7_rower_60 : decode cX7_rower 60 = .ok (.invokestatic 54, 3) := by decide +kernel
theorem dX7_rower_63 : decode cX7_rower 63 = .ok (.iload_n 3, 1) := by decide +kernel
theorem dX7_rower_64 : decode cX7_rower 64 = .ok (.ifCond .eq 10, 3) := by decide +kernel
theorem dX7_rower_67 : decode cX7_rower 67 = .ok (.iload_n 2, 1) := by decide +kernel
theorem dX7_rower_68 : decode cX7_rower 68 = .ok (.invokestatic 54, 3) := by decide +kernel
theorem dX7_rower_71 : decode cX7_rower 71 = .ok (.goto 4, 3) := by decide +kernel
theorem dX7_rower_74 : decode cX7_rower 74 = .ok (.iconst 3, 1) := by decide +kernel
theorem dX7_rower_75 : decode cX7_rower 75 = .ok (.if_icmp .ne 12, 3) := by decide +kernel
theorem dX7_rower_78 : decode cX7_rower 78 = .ok (.aload_n 0, 1) := by decide +kernel
theorem dX7_rower_79 : decode cX7_rower 79 = .ok (.iconst 4, 1) := by decide +kernel
theorem dX7_rower_80 : decode cX7_rower 80 = .ok (.aload_n 0, 1) := by decide +kernel
theorem dX7_rower_81 : decode cX7_rower 81 = .ok (.getfield 103, 3) := by decide +kernel
theorem dX7_rower_84 : decode cX7_rower 84 = .ok (.invokevirtual 106, 3) := by decide +kernel
theorem dX7_rower_87 : decode cX7_rower 87 = .ok (.aload_n 0, 1) := by decide +kernel
theorem dX7_rower_88 : decode cX7_rower 88 = .ok (.getfield 89, 3) := by decide +kernel
theorem dX7_rower_91 : decode cX7_rower 91 = .ok (.ifCond .ne 12, 3) := by decide +kernel
theorem dX7_rower_94 : decode cX7_rower 94 = .ok (.iload_n 1, 1) := by decide +kernel
theorem dX7_rower_95 : decode cX7_rower 95 = .ok (.iconst 1, 1) := by decide +kernel
theorem dX7_rower_96 : decode cX7_rower 96 = .ok (.iload 4, 2) := by decide +kernel
theorem dX7_rower_98 : decode cX7_rower 98 = .ok (.ishl, 1) := by decide +kernel
theorem dX7_rower_99 : decode cX7_rower 99 = .ok (.ior, 1) := by decide +kernel
theorem dX7_rower_100 : decode cX7_rower 100 = .ok (.goto 4, 3) := by decide +kernel
theorem dX7_rower_103 : decode cX7_rower 103 = .ok (.iload_n 1, 1) := by decide +kernel
theorem dX7_rower_104 : decode cX7_rower 104 = .ok (.ireturn, 1) := by decide +kernel
theorem dX7_crewTold_0 : decode cX7_crewTold 0 = .ok (.aload_n 0, 1) := by decide +kernel
theorem dX7_crewTold_1 : decode cX7_crewTold 1 = .ok (.iconst 0, 1) := by decide +kernel
theorem dX7_crewTold_2 : decode cX7_crewTold 2 = .ok (.iload_n 1, 1) := by decide +kernel
theorem dX7_crewTold_3 : decode cX7_crewTold 3 = .ok (.iload_n 2, 1) := by decide +kernel
theorem dX7_crewTold_4 : decode cX7_crewTold 4 = .ok (.invokevirtual 119, 3) := by decide +kernel
theorem dX7_crewTold_7 : decode cX7_crewTold 7 = .ok (.istore_n 3, 1) := by decide +kernel
theorem dX7_crewTold_8 : decode cX7_crewTold 8 = .ok (.aload_n 0, 1) := by decide +kernel
theorem dX7_crewTold_9 : decode cX7_crewTold 9 = .ok (.getfield 89, 3) := by decide +kernel
theorem dX7_crewTold_12 : decode cX7_crewTold 12 = .ok (.ifCond .ne 21, 3) := by decide +kernel
theorem dX7_crewTold_15 : decode cX7_crewTold 15 = .ok (.aload_n 0, 1) := by decide +kernel
theorem dX7_crewTold_16 : decode cX7_crewTold 16 = .ok (.invokevirtual 99, 3) := by decide +kernel
theorem dX7_crewTold_19 : decode cX7_crewTold 19 = .ok (.ifCond .eq 14, 3) := by decide +kernel
theorem dX7_crewTold_22 : decode cX7_crewTold 22 = .ok (.aload_n 0, 1) := by decide +kernel
theorem dX7_crewTold_23 : decode cX7_crewTold 23 = .ok (.iload_n 3, 1) := by decide +kernel
theorem dX7_crewTold_24 : decode cX7_crewTold 24 = .ok (.iload_n 1, 1) := by decide +kernel
theorem dX7_crewTold_25 : decode cX7_crewTold 25 = .ok (.iload_n 2, 1) := by decide +kernel
theorem dX7_crewTold_26 : decode cX7_crewTold 26 = .ok (.invokevirtual 119, 3) := by decide +kernel
theorem dX7_crewTold_29 : decode cX7_crewTold 29 = .ok (.istore_n 3, 1) := by decide +kernel
theorem dX7_crewTold_30 : decode cX7_crewTold 30 = .ok (.goto (-22), 3) := by decide +kernel
theorem dX7_crewTold_33 : decode cX7_crewTold 33 = .ok (.iload_n 3, 1) := by decide +kernel
theorem dX7_crewTold_34 : decode cX7_crewTold 34 = .ok (.ireturn, 1) := by decide +kernel
theorem dX7_raceTold_0 : decode cX7_raceTold 0 = .ok (.aload_n 0, 1) := by decide +kernel
theorem dX7_raceTold_1 : decode cX7_raceTold 1 = .ok (.invokevirtual 58, 3) := by decide +kernel
theorem dX7_raceTold_4 : decode cX7_raceTold 4 = .ok (.bipush 12, 2) := by decide +kernel
theorem dX7_raceTold_6 : decode cX7_raceTold 6 = .ok (.if_icmp .ne 12, 3) := by decide +kernel
theorem dX7_raceTold_9 : decode cX7_raceTold 9 = .ok (.aload_n 0, 1) := by decide +kernel
theorem dX7_raceTold_10 : decode cX7_raceTold 10 = .ok (.iconst 4, 1) := by decide +kernel
theorem dX7_raceTold_11 : decode cX7_raceTold 11 = .ok (.aload_n 0, 1) := by decide +kernel
theorem dX7_raceTold_12 : decode cX7_raceTold 12 = .ok (.getfield 103, 3) := by decide +kernel
theorem dX7_raceTold_15 : decode cX7_raceTold 15 = .ok (.invokevirtual 106, 3) := by decide +kernel
theorem dX7_raceTold_18 : decode cX7_raceTold 18 = .ok (.aload_n 0, 1) := by decide +kernel
theorem dX7_raceTold_19 : decode cX7_raceTold 19 = .ok (.iconst 0, 1) := by decide +kernel
theorem dX7_raceTold_20 : decode cX7_raceTold 20 = .ok (.iconst 0, 1) := by decide +kernel
theorem dX7_raceTold_21 : decode cX7_raceTold 21 = .ok (.invokevirtual 123, 3) := by decide +kernel
theorem dX7_raceTold_24 : decode cX7_raceTold 24 = .ok (.istore_n 1, 1) := by decide +kernel
theorem dX7_raceTold_25 : decode cX7_raceTold 25 = .ok (.aload_n 0, 1) := by decide +kernel
theorem dX7_raceTold_26 : decode cX7_raceTold 26 = .ok (.getfield 89, 3) := by decide +kernel
theorem dX7_raceTold_29 : decode cX7_raceTold 29 = .ok (.ifCond .ne 21, 3) := by decide +kernel
theorem dX7_raceTold_32 : decode cX7_raceTold 32 = .ok (.aload_n 0, 1) := by decide +kernel
theorem dX7_raceTold_33 : decode cX7_raceTold 33 = .ok (.invokevirtual 92, 3) := by decide +kernel
theorem dX7_raceTold_36 : decode cX7_raceTold 36 = .ok (.bipush 58, 2) := by decide +kernel
theorem dX7_raceTold_38 : decode cX7_raceTold 38 = .ok (.if_icmp .eq 12, 3) := by decide +kernel
theorem dX7_raceTold_41 : decode cX7_raceTold 41 = .ok (.aload_n 0, 1) := by decide +kernel
theorem dX7_raceTold_42 : decode cX7_raceTold 42 = .ok (.iconst 1, 1) := by decide +kernel
theorem dX7_raceTold_43 : decode cX7_raceTold 43 = .ok (.aload_n 0, 1) := by decide +kernel
theorem dX7_raceTold_44 : decode cX7_raceTold 44 = .ok (.getfield 83, 3) := by decide +kernel
theorem dX7_raceTold_47 : decode cX7_raceTold 47 = .ok (.invokevirtual 106, 3) := by decide +kernel
theorem dX7_raceTold_50 : decode cX7_raceTold 50 = .ok (.aload_n 0, 1) := by decide +kernel
theorem dX7_raceTold_51 : decode cX7_raceTold 51 = .ok (.dup, 1) := by decide +kernel
theorem dX7_raceTold_52 : decode cX7_raceTold 52 = .ok (.getfield 83, 3) := by decide +kernel
theorem dX7_raceTold_55 : decode cX7_raceTold 55 = .ok (.iconst 1, 1) := by decide +kernel
theorem dX7_raceTold_56 : decode cX7_raceTold 56 = .ok (.iadd, 1) := by decide +kernel
theorem dX7_raceTold_57 : decode cX7_raceTold 57 = .ok (.putfield 83, 3) := by decide +kernel
theorem dX7_raceTold_60 : decode cX7_raceTold 60 = .ok (.aload_n 0, 1) := by decide +kernel
theorem dX7_raceTold_61 : decode cX7_raceTold 61 = .ok (.getfield 89, 3) := by decide +kernel
theorem dX7_raceTold_64 : decode cX7_raceTold 64 = .ok (.ifCond .ne 12, 3) := by decide +kernel
theorem dX7_raceTold_67 : decode cX7_raceTold 67 = .ok (.aload_n 0, 1) := by decide +kernel
theorem dX7_raceTold_68 : decode cX7_raceTold 68 = .ok (.iload_n 1, 1) := by decide +kernel
theorem dX7_raceTold_69 : decode cX7_raceTold 69 = .ok (.iconst 1, 1) := by decide +kernel
theorem dX7_raceTold_70 : decode cX7_raceTold 70 = .ok (.invokevirtual 123, 3) := by decide +kernel
theorem dX7_raceTold_73 : decode cX7_raceTold 73 = .ok (.goto 4, 3) := by decide +kernel
theorem dX7_raceTold_76 : decode cX7_raceTold 76 = .ok (.iconst 0, 1) := by decide +kernel
theorem dX7_raceTold_77 : decode cX7_raceTold 77 = .ok (.istore_n 2, 1) := by decide +kernel
theorem dX7_raceTold_78 : decode cX7_raceTold 78 = .ok (.aload_n 0, 1) := by decide +kernel
theorem dX7_raceTold_79 : decode cX7_raceTold 79 = .ok (.getfield 89, 3) := by decide +kernel
theorem dX7_raceTold_82 : decode cX7_raceTold 82 = .ok (.ifCond .ne 28, 3) := by decide +kernel
theorem dX7_raceTold_85 : decode cX7_raceTold 85 = .ok (.aload_n 0, 1) := by decide +kernel
theorem dX7_raceTold_86 : decode cX7_raceTold 86 = .ok (.invokevirtual 127, 3) := by decide +kernel
theorem dX7_raceTold_89 : decode cX7_raceTold 89 = .ok (.iconst 0, 1) := by decide +kernel
theorem dX7_raceTold_90 : decode cX7_raceTold 90 = .ok (.iconst 0, 1) := by decide +kernel
theorem dX7_raceTold_91 : decode cX7_raceTold 91 = .ok (.iconst 0, 1) := by decide +kernel
theorem dX7_raceTold_92 : decode cX7_raceTold 92 = .ok (.iconst 2, 1) := by decide +kernel
theorem dX7_raceTold_93 : decode cX7_raceTold 93 = .ok (.bipush 25, 2) := by decide +kernel
theorem dX7_raceTold_95 : decode cX7_raceTold 95 = .ok (.invokestatic 130, 3) := by decide +kernel
theorem dX7_raceTold_98 : decode cX7_raceTold 98 = .ok (.if_icmp .eq 12, 3) := by decide +kernel
theorem dX7_raceTold_101 : decode cX7_raceTold 101 = .ok (.aload_n 0, 1) := by decide +kernel
theorem dX7_raceTold_102 : decode cX7_raceTold 102 = .ok (.iconst 1, 1) := by decide +kernel
theorem dX7_raceTold_103 : decode cX7_raceTold 103 = .ok (.aload_n 0, 1) := by decide +kernel
theorem dX7_raceTold_104 : decode cX7_raceTold 104 = .ok (.getfield 103, 3) := by decide +kernel
theorem dX7_raceTold_107 : decode cX7_raceTold 107 = .ok (.invokevirtual 106, 3) := by decide +kernel
theorem dX7_raceTold_110 : decode cX7_raceTold 110 = .ok (.aload_n 0, 1) := by decide +kernel
theorem dX7_raceTold_111 : decode cX7_raceTold 111 = .ok (.getfield 89, 3) := by decide +kernel
theorem dX7_raceTold_114 : decode cX7_raceTold 114 = .ok (.ifCond .ne 23, 3) := by decide +kernel
theorem dX7_raceTold_117 : decode cX7_raceTold 117 = .ok (.iload_n 2, 1) := by decide +kernel
theorem dX7_raceTold_118 : decode cX7_raceTold 118 = .ok (.invokestatic 54, 3) := by decide +kernel
theorem dX7_raceTold_121 : decode cX7_raceTold 121 = .ok (.iload_n 1, 1) := by decide +kernel
theorem dX7_raceTold_122 : decode cX7_raceTold 122 = .ok (.invokestatic 54, 3) := by decide +kernel
theorem dX7_raceTold_125 : decode cX7_raceTold 125 = .ok (.if_icmp .ge 12, 3) := by decide +kernel
theorem dX7_raceTold_128 : decode cX7_raceTold 128 = .ok (.aload_n 0, 1) := by decide +kernel
theorem dX7_raceTold_129 : decode cX7_raceTold 129 = .ok (.iconst 4, 1) := by decide +kernel
theorem dX7_raceTold_130 : decode cX7_raceTold 130 = .ok (.aload_n 0, 1) := by decide +kernel
theorem dX7_raceTold_131 : decode cX7_raceTold 131 = .ok (.getfield 103, 3) := by decide +kernel
theorem dX7_raceTold_134 : decode cX7_raceTold 134 = .ok (.invokevirtual 106, 3) := by decide +kernel
theorem dX7_raceTold_137 : decode cX7_raceTold 137 = .ok (.aload_n 0, 1) := by decide +kernel
theorem dX7_raceTold_138 : decode cX7_raceTold 138 = .ok (.invokevirtual 110, 3) := by decide +kernel
theorem dX7_raceTold_141 : decode cX7_raceTold 141 = .ok (.istore_n 3, 1) := by decide +kernel
theorem dX7_raceTold_142 : decode cX7_raceTold 142 = .ok (.iconst 0, 1) := by decide +kernel
theorem dX7_raceTold_143 : decode cX7_raceTold 143 = .ok (.istore 4, 2) := by decide +kernel
theorem dX7_raceTold_145 : decode cX7_raceTold 145 = .ok (.aload_n 0, 1) := by decide +kernel
theorem dX7_raceTold_146 : decode cX7_raceTold 146 = .ok (.getfield 89, 3) := by decide +kernel
theorem dX7_raceTold_149 : decode cX7_raceTold 149 = .ok (.ifCond .ne 75, 3) := by decide +kernel
theorem dX7_raceTold_152 : decode cX7_raceTold 152 = .ok (.aload_n 0, 1) := by decide +kernel
theorem dX7_raceTold_153 : decode cX7_raceTold 153 = .ok (.invokevirtual 92, 3) := by decide +kernel
theorem dX7_raceTold_156 : decode cX7_raceTold 156 = .ok (.bipush 97, 2) := by decide +kernel
theorem dX7_raceTold_158 : decode cX7_raceTold 158 = .ok (.bipush 122, 2) := by decide +kernel
theorem dX7_raceTold_160 : decode cX7_raceTold 160 = .ok (.invokestatic 50, 3) := by decide +kernel
theorem dX7_raceTold_163 : decode cX7_raceTold 163 = .ok (.ifCond .eq 61, 3) := by decide +kernel
theorem dX7_raceTold_166 : decode cX7_raceTold 166 = .ok (.aload_n 0, 1) := by decide +kernel
theorem dX7_raceTold_167 : decode cX7_raceTold 167 = .ok (.invokevirtual 127, 3) := by decide +kernel
theorem dX7_raceTold_170 : decode cX7_raceTold 170 = .ok (.istore 5, 2) := by decide +kernel
theorem dX7_raceTold_172 : decode cX7_raceTold 172 = .ok (.iload 5, 2) := by decide +kernel
theorem dX7_raceTold_174 : decode cX7_raceTold 174 = .ok (.iconst 0, 1) := by decide +kernel
theorem dX7_raceTold_175 : decode cX7_raceTold 175 = .ok (.iconst 0, 1) := by decide +kernel
theorem dX7_raceTold_176 : decode cX7_raceTold 176 = .ok (.iconst 0, 1) := by decide +kernel
theorem dX7_raceTold_177 : decode cX7_raceTold 177 = .ok (.bipush 21, 2) := by decide +kernel
theorem dX7_raceTold_179 : decode cX7_raceTold 179 = .ok (.bipush 16, 2) := by decide +kernel
theorem dX7_raceTold_181 : decode cX7_raceTold 181 = .ok (.invokestatic 130, 3) := by decide +kernel
theorem dX7_raceTold_184 : decode cX7_raceTold 184 = .ok (.if_icmp .ne 9, 3) := by decide +kernel
theorem dX7_raceTold_187 : decode cX7_raceTold 187 = .ok (.iconst 1, 1) := by decide +kernel
theorem dX7_raceTold_188 : decode cX7_raceTold 188 = .ok (.istore 4, 2) := by decide +kernel
theorem dX7_raceTold_190 : decode cX7_raceTold 190 = .ok (.goto 34, 3) := by decide +kernel
theorem dX7_raceTold_193 : decode cX7_raceTold 193 = .ok (.iload 5, 2) := by decide +kernel
theorem dX7_raceTold_195 : decode cX7_raceTold 195 = .ok (.iconst 0, 1) := by decide +kernel
theorem dX7_raceTold_196 : decode cX7_raceTold 196 = .ok (.iconst 4, 1) := by decide +kernel
theorem dX7_raceTold_197 : decode cX7_raceTold 197 = .ok (.bipush 15, 2) := by decide +kernel
theorem dX7_raceTold_199 : decode cX7_raceTold 199 = .ok (.bipush 23, 2) := by decide +kernel
theorem dX7_raceTold_201 : decode cX7_raceTold 201 = .ok (.bipush 14, 2) := by decide +kernel
theorem dX7_raceTold_203 : decode cX7_raceTold 203 = .ok (.invokestatic 130, 3) := by decide +kernel
theorem dX7_raceTold_206 : decode cX7_raceTold 206 = .ok (.if_icmp .ne 9, 3) := by decide +kernel
theorem dX7_raceTold_209 : decode cX7_raceTold 209 = .ok (.iconst (-1), 1) := by decide +kernel
theorem dX7_raceTold_210 : decode cX7_raceTold 210 = .ok (.istore 4, 2) := by decide +kernel
theorem dX7_raceTold_212 : decode cX7_raceTold 212 = .ok (.goto 12, 3) := by decide +kernel
theorem dX7_raceTold_215 : decode cX7_raceTold 215 = .ok (.aload_n 0, 1) := by decide +kernel
theorem dX7_raceTold_216 : decode cX7_raceTold 216 = .ok (.iconst 1, 1) := by decide +kernel
theorem dX7_raceTold_217 : decode cX7_raceTold 217 = .ok (.aload_n 0, 1) := by decide +kernel
theorem dX7_raceTold_218 : decode cX7_raceTold 218 = .ok (.getfield 103, 3) := by decide +kernel
theorem dX7_raceTold_221 : decode cX7_raceTold 221 = .ok (.invokevirtual 106, 3) := by decide +kernel
theorem dX7_raceTold_224 : decode cX7_raceTold 224 = .ok (.aload_n 0, 1) := by decide +kernel
theorem dX7_raceTold_225 : decode cX7_raceTold 225 = .ok (.getfield 89, 3) := by decide +kernel
theorem dX7_raceTold_228 : decode cX7_raceTold 228 = .ok (.ifCond .ne 12, 3) := by decide +kernel
theorem dX7_raceTold_231 : decode cX7_raceTold 231 = .ok (.aload_n 0, 1) := by decide +kernel
theorem dX7_raceTold_232 : decode cX7_raceTold 232 = .ok (.iload_n 1, 1) := by decide +kernel
theorem dX7_raceTold_233 : decode cX7_raceTold 233 = .ok (.iload_n 2, 1) := by decide +kernel
theorem dX7_raceTold_234 : decode cX7_raceTold 234 = .ok (.iload_n 3, 1) := by decide +kernel
theorem dX7_raceTold_235 : decode cX7_raceTold 235 = .ok (.iload 4, 2) := by decide +kernel
theorem dX7_raceTold_237 : decode cX7_raceTold 237 = .ok (.invokevirtual 65, 3) := by decide +kernel
theorem dX7_raceTold_240 : decode cX7_raceTold 240 = .ok (.return_, 1) := by decide +kernel
theorem dX7_told_0 : decode cX7_told 0 = .ok (.aload_n 0, 1) := by decide +kernel
theorem dX7_told_1 : decode cX7_told 1 = .ok (.invokevirtual 127, 3) := by decide +kernel
theorem dX7_told_4 : decode cX7_told 4 = .ok (.istore_n 1, 1) := by decide +kernel
theorem dX7_told_5 : decode cX7_told 5 = .ok (.iload_n 1, 1) := by decide +kernel
theorem dX7_told_6 : decode cX7_told 6 = .ok (.iconst 0, 1) := by decide +kernel
theorem dX7_told_7 : decode cX7_told 7 = .ok (.iconst 3, 1) := by decide +kernel
theorem dX7_told_8 : decode cX7_told 8 = .ok (.bipush 18, 2) := by decide +kernel
theorem dX7_told_10 : decode cX7_told 10 = .ok (.iconst 5, 1) := by decide +kernel
theorem dX7_told_11 : decode cX7_told 11 = .ok (.bipush 23, 2) := by decide +kernel
theorem dX7_told_13 : decode cX7_told 13 = .ok (.invokestatic 130, 3) := by decide +kernel
theorem dX7_told_16 : decode cX7_told 16 = .ok (.if_icmp .ne 36, 3) := by decide +kernel
theorem dX7_told_19 : decode cX7_told 19 = .ok (.aload_n 0, 1) := by decide +kernel
theorem dX7_told_20 : decode cX7_told 20 = .ok (.iconst 0, 1) := by decide +kernel
theorem dX7_told_21 : decode cX7_told 21 = .ok (.bipush 6, 2) := by decide +kernel
theorem dX7_told_23 : decode cX7_told 23 = .ok (.invokevirtual 134, 3) := by decide +kernel
theorem dX7_told_26 : decode cX7_told 26 = .ok (.istore_n 2, 1) := by decide +kernel
theorem dX7_told_27 : decode cX7_told 27 = .ok (.aload_n 0, 1) := by decide +kernel
theorem dX7_told_28 : decode cX7_told 28 = .ok (.getfield 89, 3) := by decide +kernel
theorem dX7_told_31 : decode cX7_told 31 = .ok (.ifCond .eq 4, 3) := by decide +kernel
theorem dX7_told_34 : decode cX7_told 34 = .ok (.return_, 1) := by decide +kernel
theorem dX7_told_35 : decode cX7_told 35 = .ok (.aload_n 0, 1) := by decide +kernel
theorem dX7_told_36 : decode cX7_told 36 = .ok (.getfield 7, 3) := by decide +kernel
theorem dX7_told_39 : decode cX7_told 39 = .ok (.iconst 0, 1) := by decide +kernel
theorem dX7_told_40 : decode cX7_told 40 = .ok (.iload_n 2, 1) := by decide +kernel
theorem dX7_told_41 : decode cX7_told 41 = .ok (.iastore, 1) := by decide +kernel
theorem dX7_told_42 : decode cX7_told 42 = .ok (.aload_n 0, 1) := by decide +kernel
theorem dX7_told_43 : decode cX7_told 43 = .ok (.getfield 7, 3) := by decide +kernel
theorem dX7_told_46 : decode cX7_told 46 = .ok (.iconst 2, 1) := by decide +kernel
theorem dX7_told_47 : decode cX7_told 47 = .ok (.iconst 0, 1) := by decide +kernel
theorem dX7_told_48 : decode cX7_told 48 = .ok (.iastore, 1) := by decide +kernel
theorem dX7_told_49 : decode cX7_told 49 = .ok (.goto 74, 3) := by decide +kernel
theorem dX7_told_52 : decode cX7_told 52 = .ok (.iload_n 1, 1) := by decide +kernel
theorem dX7_told_53 : decode cX7_told 53 = .ok (.bipush 12, 2) := by decide +kernel
theorem dX7_told_55 : decode cX7_told 55 = .ok (.bipush 9, 2) := by decide +kernel
theorem dX7_told_57 : decode cX7_told 57 = .ok (.bipush 13, 2) := by decide +kernel
theorem dX7_told_59 : decode cX7_told 59 = .ok (.bipush 9, 2) := by decide +kernel
theorem dX7_told_61 : decode cX7_told 61 = .ok (.bipush 20, 2) := by decide +kernel
theorem dX7_told_63 : decode cX7_told 63 = .ok (.invokestatic 130, 3) := by decide +kernel
theorem dX7_told_66 : decode cX7_told 66 = .ok (.if_icmp .ne 28, 3) := by decide +kernel
theorem dX7_told_69 : decode cX7_told 69 = .ok (.aload_n 0, 1) := by decide +kernel
theorem dX7_told_70 : decode cX7_told 70 = .ok (.iconst 1, 1) := by decide +kernel
theorem dX7_told_71 : decode cX7_told 71 = .ok (.bipush 99, 2) := by decide +kernel
theorem dX7_told_73 : decode cX7_told 73 = .ok (.invokevirtual 134, 3) := by decide +kernel
theorem dX7_told_76 : decode cX7_told 76 = .ok (.istore_n 2, 1) := by decide +kernel
theorem dX7_told_77 : decode cX7_told 77 = .ok (.aload_n 0, 1) := by decide +kernel
theorem dX7_told_78 : decode cX7_told 78 = .ok (.getfield 89, 3) := by decide +kernel
theorem dX7_told_81 : decode cX7_told 81 = .ok (.ifCond .ne 10, 3) := by decide +kernel
theorem dX7_told_84 : decode cX7_told 84 = .ok (.aload_n 0, 1) := by decide +kernel
theorem dX7_told_85 : decode cX7_told 85 = .ok (.getfield 7, 3) := by decide +kernel
theorem dX7_told_88 : decode cX7_told 88 = .ok (.iconst 1, 1) := by decide +kernel
theorem dX7_told_89 : decode cX7_told 89 = .ok (.iload_n 2, 1) := by decide +kernel
theorem dX7_told_90 : decode cX7_told 90 = .ok (.iastore, 1) := by decide +kernel
theorem dX7_told_91 : decode cX7_told 91 = .ok (.goto 32, 3) := by decide +kernel
theorem dX7_told_94 : decode cX7_told 94 = .ok (.iload_n 1, 1) := by decide +kernel
theorem dX7_told_95 : decode cX7_told 95 = .ok (.iconst 0, 1) := by decide +kernel
theorem dX7_told_96 : decode cX7_told 96 = .ok (.bipush 18, 2) := by decide +kernel
theorem dX7_told_98 : decode cX7_told 98 = .ok (.iconst 1, 1) := by decide +kernel
theorem dX7_told_99 : decode cX7_told 99 = .ok (.iconst 3, 1) := by decide +kernel
theorem dX7_told_100 : decode cX7_told 100 = .ok (.iconst 5, 1) := by decide +kernel
theorem dX7_told_101 : decode cX7_told 101 = .ok (.invokestatic 130, 3) := by decide +kernel
theorem dX7_told_104 : decode cX7_told 104 = .ok (.if_icmp .ne 10, 3) := by decide +kernel
theorem dX7_told_107 : decode cX7_told 107 = .ok (.aload_n 0, 1) := by decide +kernel
theorem dX7_told_108 : decode cX7_told 108 = .ok (.invokevirtual 137, 3) := by decide +kernel
theorem dX7_told_111 : decode cX7_told 111 = .ok (.goto 12, 3) := by decide +kernel
theorem dX7_told_114 : decode cX7_told 114 = .ok (.aload_n 0, 1) := by decide +kernel
theorem dX7_told_115 : decode cX7_told 115 = .ok (.iconst 1, 1) := by decide +kernel
theorem dX7_told_116 : decode cX7_told 116 = .ok (.aload_n 0, 1) := by decide +kernel
theorem dX7_told_117 : decode cX7_told 117 = .ok (.getfield 103, 3) := by decide +kernel
theorem dX7_told_120 : decode cX7_told 120 = .ok (.invokevirtual 106, 3) := by decide +kernel
theorem dX7_told_123 : decode cX7_told 123 = .ok (.return_, 1) := by decide +kernel
theorem dX7_tell_0 : decode cX7_tell 0 = .ok (.aload_n 0, 1) := by decide +kernel
theorem dX7_tell_1 : decode cX7_tell 1 = .ok (.iconst 0, 1) := by decide +kernel
theorem dX7_tell_2 : decode cX7_tell 2 = .ok (.putfield 43, 3) := by decide +kernel
theorem dX7_tell_5 : decode cX7_tell 5 = .ok (.aload_n 0, 1) := by decide +kernel
theorem dX7_tell_6 : decode cX7_tell 6 = .ok (.aload_n 0, 1) := by decide +kernel
theorem dX7_tell_7 : decode cX7_tell 7 = .ok (.getfield 77, 3) := by decide +kernel
theorem dX7_tell_10 : decode cX7_tell 10 = .ok (.putfield 86, 3) := by decide +kernel
theorem dX7_tell_13 : decode cX7_tell 13 = .ok (.aload_n 0, 1) := by decide +kernel
theorem dX7_tell_14 : decode cX7_tell 14 = .ok (.iconst 0, 1) := by decide +kernel
theorem dX7_tell_15 : decode cX7_tell 15 = .ok (.putfield 77, 3) := by decide +kernel
theorem dX7_tell_18 : decode cX7_tell 18 = .ok (.aload_n 0, 1) := by decide +kernel
theorem dX7_tell_19 : decode cX7_tell 19 = .ok (.iconst 0, 1) := by decide +kernel
theorem dX7_tell_20 : decode cX7_tell 20 = .ok (.putfield 89, 3) := by decide +kernel
theorem dX7_tell_23 : decode cX7_tell 23 = .ok (.aload_n 0, 1) := by decide +kernel
theorem dX7_tell_24 : decode cX7_tell 24 = .ok (.iconst (-1), 1) := by decide +kernel
theorem dX7_tell_25 : decode cX7_tell 25 = .ok (.putfield 20, 3) := by decide +kernel
theorem dX7_tell_28 : decode cX7_tell 28 = .ok (.aload_n 0, 1) := by decide +kernel
theorem dX7_tell_29 : decode cX7_tell 29 = .ok (.iconst 0, 1) := by decide +kernel
theorem dX7_tell_30 : decode cX7_tell 30 = .ok (.putfield 83, 3) := by decide +kernel
theorem dX7_tell_33 : decode cX7_tell 33 = .ok (.iconst 0, 1) := by decide +kernel
theorem dX7_tell_34 : decode cX7_tell 34 = .ok (.istore_n 1, 1) := by decide +kernel
theorem dX7_tell_35 : decode cX7_tell 35 = .ok (.iload_n 1, 1) := by decide +kernel
theorem dX7_tell_36 : decode cX7_tell 36 = .ok (.bipush 60, 2) := by decide +kernel
theorem dX7_tell_38 : decode cX7_tell 38 = .ok (.if_icmp .ge 21, 3) := by decide +kernel
theorem dX7_tell_41 : decode cX7_tell 41 = .ok (.aload_n 0, 1) := by decide +kernel
theorem dX7_tell_42 : decode cX7_tell 42 = .ok (.getfield 13, 3) := by decide +kernel
theorem dX7_tell_45 : decode cX7_tell 45 = .ok (.iload_n 1, 1) := by decide +kernel
theorem dX7_tell_46 : decode cX7_tell 46 = .ok (.aload_n 0, 1) := by decide +kernel
theorem dX7_tell_47 : decode cX7_tell 47 = .ok (.getfield 7, 3) := by decide +kernel
theorem dX7_tell_50 : decode cX7_tell 50 = .ok (.iload_n 1, 1) := by decide +kernel
theorem dX7_tell_51 : decode cX7_tell 51 = .ok (.iaload, 1) := by decide +kernel
theorem dX7_tell_52 : decode cX7_tell 52 = .ok (.iastore, 1) := by decide +kernel
theorem dX7_tell_53 : decode cX7_tell 53 = .ok (.iinc 1 1, 3) := by decide +kernel
theorem dX7_tell_56 : decode cX7_tell 56 = .ok (.goto (-21), 3) := by decide +kernel
theorem dX7_tell_59 : decode cX7_tell 59 = .ok (.iconst 0, 1) := by decide +kernel
theorem dX7_tell_60 : decode cX7_tell 60 = .ok (.istore_n 1, 1) := by decide +kernel
theorem dX7_tell_61 : decode cX7_tell 61 = .ok (.aload_n 0, 1) := by decide +kernel
theorem dX7_tell_62 : decode cX7_tell 62 = .ok (.getfield 89, 3) := by decide +kernel
theorem dX7_tell_65 : decode cX7_tell 65 = .ok (.ifCond .ne 63, 3) := by decide +kernel
theorem dX7_tell_68 : decode cX7_tell 68 = .ok (.aload_n 0, 1) := by decide +kernel
theorem dX7_tell_69 : decode cX7_tell 69 = .ok (.invokevirtual 92, 3) := by decide +kernel
theorem dX7_tell_72 : decode cX7_tell 72 = .ok (.iconst (-1), 1) := by decide +kernel
theorem dX7_tell_73 : decode cX7_tell 73 = .ok (.if_icmp .eq 55, 3) := by decide +kernel
theorem dX7_tell_76 : decode cX7_tell 76 = .ok (.aload_n 0, 1) := by decide +kernel
theorem dX7_tell_77 : decode cX7_tell 77 = .ok (.invokevirtual 140, 3) := by decide +kernel
theorem dX7_tell_80 : decode cX7_tell 80 = .ok (.aload_n 0, 1) := by decide +kernel
theorem dX7_tell_81 : decode cX7_tell 81 = .ok (.getfield 89, 3) := by decide +kernel
theorem dX7_tell_84 : decode cX7_tell 84 = .ok (.ifCond .ne 21, 3) := by decide +kernel
theorem dX7_tell_87 : decode cX7_tell 87 = .ok (.aload_n 0, 1) := by decide +kernel
theorem dX7_tell_88 : decode cX7_tell 88 = .ok (.invokevirtual 92, 3) := by decide +kernel
theorem dX7_tell_91 : decode cX7_tell 91 = .ok (.bipush 59, 2) := by decide +kernel
theorem dX7_tell_93 : decode cX7_tell 93 = .ok (.if_icmp .eq 12, 3) := by decide +kernel
theorem dX7_tell_96 : decode cX7_tell 96 = .ok (.aload_n 0, 1) := by decide +kernel
theorem dX7_tell_97 : decode cX7_tell 97 = .ok (.iconst 1, 1) := by decide +kernel
theorem dX7_tell_98 : decode cX7_tell 98 = .ok (.aload_n 0, 1) := by decide +kernel
theorem dX7_tell_99 : decode cX7_tell 99 = .ok (.getfield 83, 3) := by decide +kernel
theorem dX7_tell_102 : decode cX7_tell 102 = .ok (.invokevirtual 106, 3) := by decide +kernel
theorem dX7_tell_105 : decode cX7_tell 105 = .ok (.aload_n 0, 1) := by decide +kernel
theorem dX7_tell_106 : decode cX7_tell 106 = .ok (.dup, 1) := by decide +kernel
theorem dX7_tell_107 : decode cX7_tell 107 = .ok (.getfield 83, 3) := by decide +kernel
theorem dX7_tell_110 : decode cX7_tell 110 = .ok (.iconst 1, 1) := by decide +kernel
theorem dX7_tell_111 : decode cX7_tell 111 = .ok (.iadd, 1) := by decide +kernel
theorem dX7_tell_112 : decode cX7_tell 112 = .ok (.putfield 83, 3) := by decide +kernel
theorem dX7_tell_115 : decode cX7_tell 115 = .ok (.aload_n 0, 1) := by decide +kernel
theorem dX7_tell_116 : decode cX7_tell 116 = .ok (.getfield 89, 3) := by decide +kernel
theorem dX7_tell_119 : decode cX7_tell 119 = .ok (.ifCond .ne (-58), 3) := by decide +kernel
theorem dX7_tell_122 : decode cX7_tell 122 = .ok (.iinc 1 1, 3) := by decide +kernel
theorem dX7_tell_125 : decode cX7_tell 125 = .ok (.goto (-64), 3) := by decide +kernel
theorem dX7_tell_128 : decode cX7_tell 128 = .ok (.aload_n 0, 1) := by decide +kernel
theorem dX7_tell_129 : decode cX7_tell 129 = .ok (.getfield 89, 3) := by decide +kernel
theorem dX7_tell_132 : decode cX7_tell 132 = .ok (.ifCond .ne 5, 3) := by decide +kernel
theorem dX7_tell_135 : decode cX7_tell 135 = .ok (.iload_n 1, 1) := by decide +kernel
theorem dX7_tell_136 : decode cX7_tell 136 = .ok (.ireturn, 1) := by decide +kernel
theorem dX7_tell_137 : decode cX7_tell 137 = .ok (.aload_n 0, 1) := by decide +kernel
theorem dX7_tell_138 : decode cX7_tell 138 = .ok (.iload_n 1, 1) := by decide +kernel
theorem dX7_tell_139 : decode cX7_tell 139 = .ok (.putfield 20, 3) := by decide +kernel
theorem dX7_tell_142 : decode cX7_tell 142 = .ok (.iconst 0, 1) := by decide +kernel
theorem dX7_tell_143 : decode cX7_tell 143 = .ok (.istore_n 2, 1) := by decide +kernel
theorem dX7_tell_144 : decode cX7_tell 144 = .ok (.iload_n 2, 1) := by decide +kernel
theorem dX7_tell_145 : decode cX7_tell 145 = .ok (.bipush 60, 2) := by decide +kernel
theorem dX7_tell_147 : decode cX7_tell 147 = .ok (.if_icmp .ge 21, 3) := by decide +kernel
theorem dX7_tell_150 : decode cX7_tell 150 = .ok (.aload_n 0, 1) := by decide +kernel
theorem dX7_tell_151 : decode cX7_tell 151 = .ok (.getfield 7, 3) := by decide +kernel
theorem dX7_tell_154 : decode cX7_tell 154 = .ok (.iload_n 2, 1) := by decide +kernel
theorem dX7_tell_155 : decode cX7_tell 155 = .ok (.aload_n 0, 1) := by decide +kernel
theorem dX7_tell_156 : decode cX7_tell 156 = .ok (.getfield 13, 3) := by decide +kernel
theorem dX7_tell_159 : decode cX7_tell 159 = .ok (.iload_n 2, 1) := by decide +kernel
theorem dX7_tell_160 : decode cX7_tell 160 = .ok (.iaload, 1) := by decide +kernel
theorem dX7_tell_161 : decode cX7_tell 161 = .ok (.iastore, 1) := by decide +kernel
theorem dX7_tell_162 : decode cX7_tell 162 = .ok (.iinc 2 1, 3) := by decide +kernel
theorem dX7_tell_165 : decode cX7_tell 165 = .ok (.goto (-21), 3) := by decide +kernel
theorem dX7_tell_168 : decode cX7_tell 168 = .ok (.iconst (-1), 1) := by decide +kernel
theorem dX7_tell_169 : decode cX7_tell 169 = .ok (.ireturn, 1) := by decide +kernel
theorem dX7_fault_0 : decode cX7_fault 0 = .ok (.aload_n 0, 1) := by decide +kernel
theorem dX7_fault_1 : decode cX7_fault 1 = .ok (.iconst 0, 1) := by decide +kernel
theorem dX7_fault_2 : decode cX7_fault 2 = .ok (.putfield 43, 3) := by decide +kernel
theorem dX7_fault_5 : decode cX7_fault 5 = .ok (.iload_n 1, 1) := by decide +kernel
theorem dX7_fault_6 : decode cX7_fault 6 = .ok (.ifCond .ne 10, 3) := by decide +kernel
theorem dX7_fault_9 : decode cX7_fault 9 = .ok (.aload_n 0, 1) := by decide +kernel
theorem dX7_fault_10 : decode cX7_fault 10 = .ok (.getfield 89, 3) := by decide +kernel
theorem dX7_fault_13 : decode cX7_fault 13 = .ok (.goto 16, 3) := by decide +kernel
theorem dX7_fault_16 : decode cX7_fault 16 = .ok (.iload_n 1, 1) := by decide +kernel
theorem dX7_fault_17 : decode cX7_fault 17 = .ok (.iconst 1, 1) := by decide +kernel
theorem dX7_fault_18 : decode cX7_fault 18 = .ok (.if_icmp .ne 10, 3) := by decide +kernel
theorem dX7_fault_21 : decode cX7_fault 21 = .ok (.aload_n 0, 1) := by decide +kernel
theorem dX7_fault_22 : decode cX7_fault 22 = .ok (.getfield 20, 3) := by decide +kernel
theorem dX7_fault_25 : decode cX7_fault 25 = .ok (.goto 4, 3) := by decide +kernel
theorem dX7_fault_28 : decode cX7_fault 28 = .ok (.iconst (-1), 1) := by decide +kernel
theorem dX7_fault_29 : decode cX7_fault 29 = .ok (.ireturn, 1) := by decide +kernel
theorem dX7_clearsForm_0 : decode cX7_clearsForm 0 = .ok (.iconst 0, 1) := by decide +kernel
theorem dX7_clearsForm_1 : decode cX7_clearsForm 1 = .ok (.istore_n 1, 1) := by decide +kernel
theorem dX7_clearsForm_2 : decode cX7_clearsForm 2 = .ok (.iload_n 1, 1) := by decide +kernel
theorem dX7_clearsForm_3 : decode cX7_clearsForm 3 = .ok (.bipush 7, 2) := by decide +kernel
theorem dX7_clearsForm_5 : decode cX7_clearsForm 5 = .ok (.if_icmp .ge 16, 3) := by decide +kernel
theorem dX7_clearsForm_8 : decode cX7_clearsForm 8 = .ok (.aload_n 0, 1) := by decide +kernel
theorem dX7_clearsForm_9 : decode cX7_clearsForm 9 = .ok (.getfield 24, 3) := by decide +kernel
theorem dX7_clearsForm_12 : decode cX7_clearsForm 12 = .ok (.iload_n 1, 1) := by decide +kernel
theorem dX7_clearsForm_13 : decode cX7_clearsForm 13 = .ok (.iconst 0, 1) := by decide +kernel
theorem dX7_clearsForm_14 : decode cX7_clearsForm 14 = .ok (.iastore, 1) := by decide +kernel
theorem dX7_clearsForm_15 : decode cX7_clearsForm 15 = .ok (.iinc 1 1, 3) := by decide +kernel
theorem dX7_clearsForm_18 : decode cX7_clearsForm 18 = .ok (.goto (-16), 3) := by decide +kernel
theorem dX7_clearsForm_21 : decode cX7_clearsForm 21 = .ok (.return_, 1) := by decide +kernel
theorem dX7_formOf_0 : decode cX7_formOf 0 = .ok (.aload_n 0, 1) := by decide +kernel
theorem dX7_formOf_1 : decode cX7_formOf 1 = .ok (.invokevirtual 143, 3) := by decide +kernel
theorem dX7_formOf_4 : decode cX7_formOf 4 = .ok (.iconst 0, 1) := by decide +kernel
theorem dX7_formOf_5 : decode cX7_formOf 5 = .ok (.istore 4, 2) := by decide +kernel
theorem dX7_formOf_7 : decode cX7_formOf 7 = .ok (.iload 4, 2) := by decide +kernel
theorem dX7_formOf_9 : decode cX7_formOf 9 = .ok (.aload_n 0, 1) := by decide +kernel
theorem dX7_formOf_10 : decode cX7_formOf 10 = .ok (.invokevirtual 46, 3) := by decide +kernel
theorem dX7_formOf_13 : decode cX7_formOf 13 = .ok (.if_icmp .ge 43, 3) := by decide +kernel
theorem dX7_formOf_16 : decode cX7_formOf 16 = .ok (.aload_n 0, 1) := by decide +kernel
theorem dX7_formOf_17 : decode cX7_formOf 17 = .ok (.getfield 24, 3) := by decide +kernel
theorem dX7_formOf_20 : decode cX7_formOf 20 = .ok (.iload 4, 2) := by decide +kernel
theorem dX7_formOf_22 : decode cX7_formOf 22 = .ok (.iload_n 1, 1) := by decide +kernel
theorem dX7_formOf_23 : decode cX7_formOf 23 = .ok (.iload 4, 2) := by decide +kernel
theorem dX7_formOf_25 : decode cX7_formOf 25 = .ok (.invokestatic 116, 3) := by decide +kernel
theorem dX7_formOf_28 : decode cX7_formOf 28 = .ok (.ifCond .eq 7, 3) := by decide +kernel
theorem dX7_formOf_31 : decode cX7_formOf 31 = .ok (.iconst 1, 1) := by decide +kernel
theorem dX7_formOf_32 : decode cX7_formOf 32 = .ok (.goto 17, 3) := by decide +kernel
theorem dX7_formOf_35 : decode cX7_formOf 35 = .ok (.iload_n 2, 1) := by decide +kernel
theorem dX7_formOf_36 : decode cX7_formOf 36 = .ok (.iload 4, 2) := by decide +kernel
theorem dX7_formOf_38 : decode cX7_formOf 38 = .ok (.invokestatic 116, 3) := by decide +kernel
theorem dX7_formOf_41 : decode cX7_formOf 41 = .ok (.ifCond .eq 7, 3) := by decide +kernel
theorem dX7_formOf_44 : decode cX7_formOf 44 = .ok (.iconst (-1), 1) := by decide +kernel
theorem dX7_formOf_45 : decode cX7_formOf 45 = .ok (.goto 4, 3) := by decide +kernel
theorem dX7_formOf_48 : decode cX7_formOf 48 = .ok (.iconst 0, 1) := by decide +kernel
theorem dX7_formOf_49 : decode cX7_formOf 49 = .ok (.iastore, 1) := by decide +kernel
theorem dX7_formOf_50 : decode cX7_formOf 50 = .ok (.iinc 4 1, 3) := by decide +kernel
theorem dX7_formOf_53 : decode cX7_formOf 53 = .ok (.goto (-46), 3) := by decide +kernel
theorem dX7_formOf_56 : decode cX7_formOf 56 = .ok (.aload_n 0, 1) := by decide +kernel
theorem dX7_formOf_57 : decode cX7_formOf 57 = .ok (.getfield 24, 3) := by decide +kernel
theorem dX7_formOf_60 : decode cX7_formOf 60 = .ok (.aload_n 0, 1) := by decide +kernel
theorem dX7_formOf_61 : decode cX7_formOf 61 = .ok (.invokevirtual 46, 3) := by decide +kernel
theorem dX7_formOf_64 : decode cX7_formOf 64 = .ok (.iload_n 3, 1) := by decide +kernel
theorem dX7_formOf_65 : decode cX7_formOf 65 = .ok (.iastore, 1) := by decide +kernel
theorem dX7_formOf_66 : decode cX7_formOf 66 = .ok (.return_, 1) := by decide +kernel
theorem dX7_difference_0 : decode cX7_difference 0 = .ok (.aload_n 0, 1) := by decide +kernel
theorem dX7_difference_1 : decode cX7_difference 1 = .ok (.invokevirtual 143, 3) := by decide +kernel
theorem dX7_difference_4 : decode cX7_difference 4 = .ok (.iload_n 1, 1) := by decide +kernel
theorem dX7_difference_5 : decode cX7_difference 5 = .ok (.iload_n 2, 1) := by decide +kernel
theorem dX7_difference_6 : decode cX7_difference 6 = .ok (.if_icmp .ne 4, 3) := by decide +kernel
theorem dX7_difference_9 : decode cX7_difference 9 = .ok (.return_, 1) := by decide +kernel
theorem dX7_difference_10 : decode cX7_difference 10 = .ok (.aload_n 0, 1) := by decide +kernel
theorem dX7_difference_11 : decode cX7_difference 11 = .ok (.getfield 24, 3) := by decide +kernel
theorem dX7_difference_14 : decode cX7_difference 14 = .ok (.iload_n 1, 1) := by decide +kernel
theorem dX7_difference_15 : decode cX7_difference 15 = .ok (.iconst 1, 1) := by decide +kernel
theorem dX7_difference_16 : decode cX7_difference 16 = .ok (.iastore, 1) := by decide +kernel
theorem dX7_difference_17 : decode cX7_difference 17 = .ok (.aload_n 0, 1) := by decide +kernel
theorem dX7_difference_18 : decode cX7_difference 18 = .ok (.getfield 24, 3) := by decide +kernel
theorem dX7_difference_21 : decode cX7_difference 21 = .ok (.iload_n 2, 1) := by decide +kernel
theorem dX7_difference_22 : decode cX7_difference 22 = .ok (.iconst (-1), 1) := by decide +kernel
theorem dX7_difference_23 : decode cX7_difference 23 = .ok (.iastore, 1) := by decide +kernel
theorem dX7_difference_24 : decode cX7_difference 24 = .ok (.return_, 1) := by decide +kernel
theorem dX7_comes_0 : decode cX7_comes 0 = .ok (.iconst 0, 1) := by decide +kernel
theorem dX7_comes_1 : decode cX7_comes 1 = .ok (.istore_n 2, 1) := by decide +kernel
theorem dX7_comes_2 : decode cX7_comes 2 = .ok (.iload_n 2, 1) := by decide +kernel
theorem dX7_comes_3 : decode cX7_comes 3 = .ok (.aload_n 0, 1) := by decide +kernel
theorem dX7_comes_4 : decode cX7_comes 4 = .ok (.getfield 146, 3) := by decide +kernel
theorem dX7_comes_7 : decode cX7_comes 7 = .ok (.if_icmp .ge 72, 3) := by decide +kernel
theorem dX7_comes_10 : decode cX7_comes 10 = .ok (.iconst 0, 1) := by decide +kernel
theorem dX7_comes_11 : decode cX7_comes 11 = .ok (.istore_n 3, 1) := by decide +kernel
theorem dX7_comes_12 : decode cX7_comes 12 = .ok (.iload_n 3, 1) := by decide +kernel
theorem dX7_comes_13 : decode cX7_comes 13 = .ok (.aload_n 0, 1) := by decide +kernel
theorem dX7_comes_14 : decode cX7_comes 14 = .ok (.getfield 146, 3) := by decide +kernel
theorem dX7_comes_17 : decode cX7_comes 17 = .ok (.if_icmp .ge 37, 3) := by decide +kernel
theorem dX7_comes_20 : decode cX7_comes 20 = .ok (.aload_n 0, 1) := by decide +kernel
theorem dX7_comes_21 : decode cX7_comes 21 = .ok (.getfield 27, 3) := by decide +kernel
theorem dX7_comes_24 : decode cX7_comes 24 = .ok (.bipush 7, 2) := by decide +kernel
theorem dX7_comes_26 : decode cX7_comes 26 = .ok (.iload_n 2, 1) := by decide +kernel
theorem dX7_comes_27 : decode cX7_comes 27 = .ok (.imul, 1) := by decide +kernel
theorem dX7_comes_28 : decode cX7_comes 28 = .ok (.iload_n 3, 1) := by decide +kernel
theorem dX7_comes_29 : decode cX7_comes 29 = .ok (.iadd, 1) := by decide +kernel
theorem dX7_comes_30 : decode cX7_comes 30 = .ok (.dup2, 1) := by decide +kernel
theorem dX7_comes_31 : decode cX7_comes 31 = .ok (.laload, 1) := by decide +kernel
theorem dX7_comes_32 : decode cX7_comes 32 = .ok (.aload_n 0, 1) := by decide +kernel
theorem dX7_comes_33 : decode cX7_comes 33 = .ok (.getfield 24, 3) := by decide +kernel
theorem dX7_comes_36 : decode cX7_comes 36 = .ok (.iload_n 2, 1) := by decide +kernel
theorem dX7_comes_37 : decode cX7_comes 37 = .ok (.iaload, 1) := by decide +kernel
theorem dX7_comes_38 : decode cX7_comes 38 = .ok (.aload_n 0, 1) := by decide +kernel
theorem dX7_comes_39 : decode cX7_comes 39 = .ok (.getfield 24, 3) := by decide +kernel
theorem dX7_comes_42 : decode cX7_comes 42 = .ok (.iload_n 3, 1) := by decide +kernel
theorem dX7_comes_43 : decode cX7_comes 43 = .ok (.iaload, 1) := by decide +kernel
theorem dX7_comes_44 : decode cX7_comes 44 = .ok (.imul, 1) := by decide +kernel
theorem dX7_comes_45 : decode cX7_comes 45 = .ok (.i2l, 1) := by decide +kernel
theorem dX7_comes_46 : decode cX7_comes 46 = .ok (.ladd, 1) := by decide +kernel
theorem dX7_comes_47 : decode cX7_comes 47 = .ok (.lastore, 1) := by decide +kernel
theorem dX7_comes_48 : decode cX7_comes 48 = .ok (.iinc 3 1, 3) := by decide +kernel
theorem dX7_comes_51 : decode cX7_comes 51 = .ok (.goto (-39), 3) := by decide +kernel
theorem dX7_comes_54 : decode cX7_comes 54 = .ok (.aload_n 0, 1) := by decide +kernel
theorem dX7_comes_55 : decode cX7_comes 55 = .ok (.getfield 31, 3) := by decide +kernel
theorem dX7_comes_58 : decode cX7_comes 58 = .ok (.iload_n 2, 1) := by decide +kernel
theorem dX7_comes_59 : decode cX7_comes 59 = .ok (.dup2, 1) := by decide +kernel
theorem dX7_comes_60 : decode cX7_comes 60 = .ok (.laload, 1) := by decide +kernel
theorem dX7_comes_61 : decode cX7_comes 61 = .ok (.aload_n 0, 1) := by decide +kernel
theorem dX7_comes_62 : decode cX7_comes 62 = .ok (.getfield 24, 3) := by decide +kernel
theorem dX7_comes_65 : decode cX7_comes 65 = .ok (.iload_n 2, 1) := by decide +kernel
theorem dX7_comes_66 : decode cX7_comes 66 = .ok (.iaload, 1) := by decide +kernel
theorem dX7_comes_67 : decode cX7_comes 67 = .ok (.i2l, 1) := by decide +kernel
theorem dX7_comes_68 : decode cX7_comes 68 = .ok (.iload_n 1, 1) := by decide +kernel
theorem dX7_comes_69 : decode cX7_comes 69 = .ok (.i2l, 1) := by decide +kernel
theorem dX7_comes_70 : decode cX7_comes 70 = .ok (.lmul, 1) := by decide +kernel
theorem dX7_comes_71 : decode cX7_comes 71 = .ok (.ladd, 1) := by decide +kernel
theorem dX7_comes_72 : decode cX7_comes 72 = .ok (.lastore, 1) := by decide +kernel
theorem dX7_comes_73 : decode cX7_comes 73 = .ok (.iinc 2 1, 3) := by decide +kernel
theorem dX7_comes_76 : decode cX7_comes 76 = .ok (.goto (-74), 3) := by decide +kernel
theorem dX7_comes_79 : decode cX7_comes 79 = .ok (.return_, 1) := by decide +kernel
theorem dX7_lays_0 : decode cX7_lays 0 = .ok (.aload_n 0, 1) := by decide +kernel
theorem dX7_lays_1 : decode cX7_lays 1 = .ok (.aload_n 0, 1) := by decide +kernel
theorem dX7_lays_2 : decode cX7_lays 2 = .ok (.invokevirtual 46, 3) := by decide +kernel
theorem dX7_lays_5 : decode cX7_lays 5 = .ok (.iconst 1, 1) := by decide +kernel
theorem dX7_lays_6 : decode cX7_lays 6 = .ok (.iadd, 1) := by decide +kernel
theorem dX7_lays_7 : decode cX7_lays 7 = .ok (.putfield 146, 3) := by decide +kernel
theorem dX7_lays_10 : decode cX7_lays 10 = .ok (.iconst 0, 1) := by decide +kernel
theorem dX7_lays_11 : decode cX7_lays 11 = .ok (.istore_n 1, 1) := by decide +kernel
theorem dX7_lays_12 : decode cX7_lays 12 = .ok (.iload_n 1, 1) := by decide +kernel
theorem dX7_lays_13 : decode cX7_lays 13 = .ok (.bipush 49, 2) := by decide +kernel
theorem dX7_lays_15 : decode cX7_lays 15 = .ok (.if_icmp .ge 16, 3) := by decide +kernel
theorem dX7_lays_18 : decode cX7_lays 18 = .ok (.aload_n 0, 1) := by decide +kernel
theorem dX7_lays_19 : decode cX7_lays 19 = .ok (.getfield 27, 3) := by decide +kernel
theorem dX7_lays_22 : decode cX7_lays 22 = .ok (.iload_n 1, 1) := by decide +kernel
theorem dX7_lays_23 : decode cX7_lays 23 = .ok (.lconst 0, 1) := by decide +kernel
theorem dX7_lays_24 : decode cX7_lays 24 = .ok (.lastore, 1) := by decide +kernel
theorem dX7_lays_25 : decode cX7_lays 25 = .ok (.iinc 1 1, 3) := by decide +kernel
theorem dX7_lays_28 : decode cX7_lays 28 = .ok (.goto (-16), 3) := by decide +kernel
theorem dX7_lays_31 : decode cX7_lays 31 = .ok (.iconst 0, 1) := by decide +kernel
theorem dX7_lays_32 : decode cX7_lays 32 = .ok (.istore_n 1, 1) := by decide +kernel
theorem dX7_lays_33 : decode cX7_lays 33 = .ok (.iload_n 1, 1) := by decide +kernel
theorem dX7_lays_34 : decode cX7_lays 34 = .ok (.bipush 7, 2) := by decide +kernel
theorem dX7_lays_36 : decode cX7_lays 36 = .ok (.if_icmp .ge 16, 3) := by decide +kernel
theorem dX7_lays_39 : decode cX7_lays 39 = .ok (.aload_n 0, 1) := by decide +kernel
theorem dX7_lays_40 : decode cX7_lays 40 = .ok (.getfield 31, 3) := by decide +kernel
theorem dX7_lays_43 : decode cX7_lays 43 = .ok (.iload_n 1, 1) := by decide +kernel
theorem dX7_lays_44 : decode cX7_lays 44 = .ok (.lconst 0, 1) := by decide +kernel
theorem dX7_lays_45 : decode cX7_lays 45 = .ok (.lastore, 1) := by decide +kernel
theorem dX7_lays_46 : decode cX7_lays 46 = .ok (.iinc 1 1, 3) := by decide +kernel
theorem dX7_lays_49 : decode cX7_lays 49 = .ok (.goto (-16), 3) := by decide +kernel
theorem dX7_lays_52 : decode cX7_lays 52 = .ok (.iconst 0, 1) := by decide +kernel
theorem dX7_lays_53 : decode cX7_lays 53 = .ok (.istore_n 1, 1) := by decide +kernel
theorem dX7_lays_54 : decode cX7_lays 54 = .ok (.iload_n 1, 1) := by decide +kernel
theorem dX7_lays_55 : decode cX7_lays 55 = .ok (.aload_n 0, 1) := by decide +kernel
theorem dX7_lays_56 : decode cX7_lays 56 = .ok (.invokevirtual 58, 3) := by decide +kernel
theorem dX7_lays_59 : decode cX7_lays 59 = .ok (.if_icmp .ge 41, 3) := by decide +kernel
theorem dX7_lays_62 : decode cX7_lays 62 = .ok (.aload_n 0, 1) := by decide +kernel
theorem dX7_lays_63 : decode cX7_lays 63 = .ok (.aload_n 0, 1) := by decide +kernel
theorem dX7_lays_64 : decode cX7_lays 64 = .ok (.iload_n 1, 1) := by decide +kernel
theorem dX7_lays_65 : decode cX7_lays 65 = .ok (.iconst 0, 1) := by decide +kernel
theorem dX7_lays_66 : decode cX7_lays 66 = .ok (.invokevirtual 73, 3) := by decide +kernel
theorem dX7_lays_69 : decode cX7_lays 69 = .ok (.aload_n 0, 1) := by decide +kernel
theorem dX7_lays_70 : decode cX7_lays 70 = .ok (.iload_n 1, 1) := by decide +kernel
theorem dX7_lays_71 : decode cX7_lays 71 = .ok (.iconst 1, 1) := by decide +kernel
theorem dX7_lays_72 : decode cX7_lays 72 = .ok (.invokevirtual 73, 3) := by decide +kernel
theorem dX7_lays_75 : decode cX7_lays 75 = .ok (.aload_n 0, 1) := by decide +kernel
theorem dX7_lays_76 : decode cX7_lays 76 = .ok (.iload_n 1, 1) := by decide +kernel
theorem dX7_lays_77 : decode cX7_lays 77 = .ok (.iconst 3, 1) := by decide +kernel
theorem dX7_lays_78 : decode cX7_lays 78 = .ok (.invokevirtual 73, 3) := by decide +kernel
theorem dX7_lays_81 : decode cX7_lays 81 = .ok (.invokevirtual 149, 3) := by decide +kernel
theorem dX7_lays_84 : decode cX7_lays 84 = .ok (.aload_n 0, 1) := by decide +kernel
theorem dX7_lays_85 : decode cX7_lays 85 = .ok (.aload_n 0, 1) := by decide +kernel
theorem dX7_lays_86 : decode cX7_lays 86 = .ok (.iload_n 1, 1) := by decide +kernel
theorem dX7_lays_87 : decode cX7_lays 87 = .ok (.iconst 2, 1) := by decide +kernel
theorem dX7_lays_88 : decode cX7_lays 88 = .ok (.invokevirtual 73, 3) := by decide +kernel
theorem dX7_lays_91 : decode cX7_lays 91 = .ok (.invokevirtual 153, 3) := by decide +kernel
theorem dX7_lays_94 : decode cX7_lays 94 = .ok (.iinc 1 1, 3) := by decide +kernel
theorem dX7_lays_97 : decode cX7_lays 97 = .ok (.goto (-43), 3) := by decide +kernel
theorem dX7_lays_100 : decode cX7_lays 100 = .ok (.return_, 1) := by decide +kernel
theorem dX7_rowAt_0 : decode cX7_rowAt 0 = .ok (.aload_n 0, 1) := by decide +kernel
theorem dX7_rowAt_1 : decode cX7_rowAt 1 = .ok (.getfield 34, 3) := by decide +kernel
theorem dX7_rowAt_4 : decode cX7_rowAt 4 = .ok (.bipush 8, 2) := by decide +kernel
theorem dX7_rowAt_6 : decode cX7_rowAt 6 = .ok (.iload_n 1, 1) := by decide +kernel
theorem dX7_rowAt_7 : decode cX7_rowAt 7 = .ok (.imul, 1) := by decide +kernel
theorem dX7_rowAt_8 : decode cX7_rowAt 8 = .ok (.iload_n 2, 1) := by decide +kernel
theorem dX7_rowAt_9 : decode cX7_rowAt 9 = .ok (.iadd, 1) := by decide +kernel
theorem dX7_rowAt_10 : decode cX7_rowAt 10 = .ok (.laload, 1) := by decide +kernel
theorem dX7_rowAt_11 : decode cX7_rowAt 11 = .ok (.lreturn, 1) := by decide +kernel
theorem dX7_swaps_0 : decode cX7_swaps 0 = .ok (.iconst 0, 1) := by decide +kernel
theorem dX7_swaps_1 : decode cX7_swaps 1 = .ok (.istore_n 3, 1) := by decide +kernel
theorem dX7_swaps_2 : decode cX7_swaps 2 = .ok (.iload_n 3, 1) := by decide +kernel
theorem dX7_swaps_3 : decode cX7_swaps 3 = .ok (.aload_n 0, 1) := by decide +kernel
theorem dX7_swaps_4 : decode cX7_swaps 4 = .ok (.getfield 146, 3) := by decide +kernel
theorem dX7_swaps_7 : decode cX7_swaps 7 = .ok (.if_icmp .gt 57, 3) := by decide +kernel
theorem dX7_swaps_10 : decode cX7_swaps 10 = .ok (.aload_n 0, 1) := by decide +kernel
theorem dX7_swaps_11 : decode cX7_swaps 11 = .ok (.getfield 34, 3) := by decide +kernel
theorem dX7_swaps_14 : decode cX7_swaps 14 = .ok (.bipush 8, 2) := by decide +kernel
theorem dX7_swaps_16 : decode cX7_swaps 16 = .ok (.iload_n 1, 1) := by decide +kernel
theorem dX7_swaps_17 : decode cX7_swaps 17 = .ok (.imul, 1) := by decide +kernel
theorem dX7_swaps_18 : decode cX7_swaps 18 = .ok (.iload_n 3, 1) := by decide +kernel
theorem dX7_swaps_19 : decode cX7_swaps 19 = .ok (.iadd, 1) := by decide +kernel
theorem dX7_swaps_20 : decode cX7_swaps 20 = .ok (.laload, 1) := by decide +kernel
theorem dX7_swaps_21 : decode cX7_swaps 21 = .ok (.lstore 4, 2) := by decide +kernel
theorem dX7_swaps_23 : decode cX7_swaps 23 = .ok (.aload_n 0, 1) := by decide +kernel
theorem dX7_swaps_24 : decode cX7_swaps 24 = .ok (.getfield 34, 3) := by decide +kernel
theorem dX7_swaps_27 : decode cX7_swaps 27 = .ok (.bipush 8, 2) := by decide +kernel
theorem dX7_swaps_29 : decode cX7_swaps 29 = .ok (.iload_n 1, 1) := by decide +kernel
theorem dX7_swaps_30 : decode cX7_swaps 30 = .ok (.imul, 1) := by decide +kernel
theorem dX7_swaps_31 : decode cX7_swaps 31 = .ok (.iload_n 3, 1) := by decide +kernel
theorem dX7_swaps_32 : decode cX7_swaps 32 = .ok (.iadd, 1) := by decide +kernel
theorem dX7_swaps_33 : decode cX7_swaps 33 = .ok (.aload_n 0, 1) := by decide +kernel
theorem dX7_swaps_34 : decode cX7_swaps 34 = .ok (.getfield 34, 3) := by decide +kernel
theorem dX7_swaps_37 : decode cX7_swaps 37 = .ok (.bipush 8, 2) := by decide +kernel
theorem dX7_swaps_39 : decode cX7_swaps 39 = .ok (.iload_n 2, 1) := by decide +kernel
theorem dX7_swaps_40 : decode cX7_swaps 40 = .ok (.imul, 1) := by decide +kernel
theorem dX7_swaps_41 : decode cX7_swaps 41 = .ok (.iload_n 3, 1) := by decide +kernel
theorem dX7_swaps_42 : decode cX7_swaps 42 = .ok (.iadd, 1) := by decide +kernel
theorem dX7_swaps_43 : decode cX7_swaps 43 = .ok (.laload, 1) := by decide +kernel
theorem dX7_swaps_44 : decode cX7_swaps 44 = .ok (.lastore, 1) := by decide +kernel
theorem dX7_swaps_45 : decode cX7_swaps 45 = .ok (.aload_n 0, 1) := by decide +kernel
theorem dX7_swaps_46 : decode cX7_swaps 46 = .ok (.getfield 34, 3) := by decide +kernel
theorem dX7_swaps_49 : decode cX7_swaps 49 = .ok (.bipush 8, 2) := by decide +kernel
theorem dX7_swaps_51 : decode cX7_swaps 51 = .ok (.iload_n 2, 1) := by decide +kernel
theorem dX7_swaps_52 : decode cX7_swaps 52 = .ok (.imul, 1) := by decide +kernel
theorem dX7_swaps_53 : decode cX7_swaps 53 = .ok (.iload_n 3, 1) := by decide +kernel
theorem dX7_swaps_54 : decode cX7_swaps 54 = .ok (.iadd, 1) := by decide +kernel
theorem dX7_swaps_55 : decode cX7_swaps 55 = .ok (.lload 4, 2) := by decide +kernel
theorem dX7_swaps_57 : decode cX7_swaps 57 = .ok (.lastore, 1) := by decide +kernel
theorem dX7_swaps_58 : decode cX7_swaps 58 = .ok (.iinc 3 1, 3) := by decide +kernel
theorem dX7_swaps_61 : decode cX7_swaps 61 = .ok (.goto (-59), 3) := by decide +kernel
theorem dX7_swaps_64 : decode cX7_swaps 64 = .ok (.return_, 1) := by decide +kernel
theorem dX7_solves_0 : decode cX7_solves 0 = .ok (.aload_n 0, 1) := by decide +kernel
theorem dX7_solves_1 : decode cX7_solves 1 = .ok (.iconst 0, 1) := by decide +kernel
theorem dX7_solves_2 : decode cX7_solves 2 = .ok (.putfield 156, 3) := by decide +kernel
theorem dX7_solves_5 : decode cX7_solves 5 = .ok (.aload_n 0, 1) := by decide +kernel
theorem dX7_solves_6 : decode cX7_solves 6 = .ok (.lconst 1, 1) := by decide +kernel
theorem dX7_solves_7 : decode cX7_solves 7 = .ok (.putfield 159, 3) := by decide +kernel
theorem dX7_solves_10 : decode cX7_solves 10 = .ok (.iconst 0, 1) := by decide +kernel
theorem dX7_solves_11 : decode cX7_solves 11 = .ok (.istore_n 1, 1) := by decide +kernel
theorem dX7_solves_12 : decode cX7_solves 12 = .ok (.iload_n 1, 1) := by decide +kernel
theorem dX7_solves_13 : decode cX7_solves 13 = .ok (.aload_n 0, 1) := by decide +kernel
theorem dX7_solves_14 : decode cX7_solves 14 = .ok (.getfield 146, 3) := by decide +kernel
theorem dX7_solves_17 : decode cX7_solves 17 = .ok (.if_icmp .ge 190, 3) := by decide +kernel
theorem dX7_solves_20 : decode cX7_solves 20 = .ok (.aload_n 0, 1) := by decide +kernel
theorem dX7_solves_21 : decode cX7_solves 21 = .ok (.getfield 156, 3) := by decide +kernel
theorem dX7_solves_24 : decode cX7_solves 24 = .ok (.istore_n 2, 1) := by decide +kernel
theorem dX7_solves_25 : decode cX7_solves 25 = .ok (.iload_n 2, 1) := by decide +kernel
theorem dX7_solves_26 : decode cX7_solves 26 = .ok (.aload_n 0, 1) := by decide +kernel
theorem dX7_solves_27 : decode cX7_solves 27 = .ok (.getfield 146, 3) := by decide +kernel
theorem dX7_solves_30 : decode cX7_solves 30 = .ok (.if_icmp .ge 20, 3) := by decide +kernel
theorem dX7_solves_33 : decode cX7_solves 33 = .ok (.aload_n 0, 1) := by decide +kernel
theorem dX7_solves_34 : decode cX7_solves 34 = .ok (.iload_n 2, 1) := by decide +kernel
theorem dX7_solves_35 : decode cX7_solves 35 = .ok (.iload_n 1, 1) := by decide +kernel
theorem dX7_solves_36 : decode cX7_solves 36 = .ok (.invokevirtual 163, 3) := by decide +kernel
theorem dX7_solves_39 : decode cX7_solves 39 = .ok (.lconst 0, 1) := by decide +kernel
theorem dX7_solves_40 : decode cX7_solves 40 = .ok (.lcmp, 1) := by decide +kernel
theorem dX7_solves_41 : decode cX7_solves 41 = .ok (.ifCond .ne 9, 3) := by decide +kernel
theorem dX7_solves_44 : decode cX7_solves 44 = .ok (.iinc 2 1, 3) := by decide +kernel
theorem dX7_solves_47 : decode cX7_solves 47 = .ok (.goto (-22), 3) := by decide +kernel
theorem dX7_solves_50 : decode cX7_solves 50 = .ok (.iload_n 2, 1) := by decide +kernel
theorem dX7_solves_51 : decode cX7_solves 51 = .ok (.aload_n 0, 1) := by decide +kernel
theorem dX7_solves_52 : decode cX7_solves 52 = .ok (.getfield 146, 3) := by decide +kernel
theorem dX7_solves_55 : decode cX7_solves 55 = .ok (.if_icmp .ne 6, 3) := by decide +kernel
theorem dX7_solves_58 : decode cX7_solves 58 = .ok (.goto 143, 3) := by decide +kernel
theorem dX7_solves_61 : decode cX7_solves 61 = .ok (.aload_n 0, 1) := by decide +kernel
theorem dX7_solves_62 : decode cX7_solves 62 = .ok (.aload_n 0, 1) := by decide +kernel
theorem dX7_solves_63 : decode cX7_solves 63 = .ok (.getfield 156, 3) := by decide +kernel
theorem dX7_solves_66 : decode cX7_solves 66 = .ok (.iload_n 2, 1) := by decide +kernel
theorem dX7_solves_67 : decode cX7_solves 67 = .ok (.invokevirtual 167, 3) := by decide +kernel
theorem dX7_solves_70 : decode cX7_solves 70 = .ok (.aload_n 0, 1) := by decide +kernel
theorem dX7_solves_71 : decode cX7_solves 71 = .ok (.aload_n 0, 1) := by decide +kernel
theorem dX7_solves_72 : decode cX7_solves 72 = .ok (.getfield 156, 3) := by decide +kernel
theorem dX7_solves_75 : decode cX7_solves 75 = .ok (.iload_n 1, 1) := by decide +kernel
theorem dX7_solves_76 : decode cX7_solves 76 = .ok (.invokevirtual 163, 3) := by decide +kernel
theorem dX7_solves_79 : decode cX7_solves 79 = .ok (.lstore_n 3, 1) := by decide +kernel
theorem dX7_solves_80 : decode cX7_solves 80 = .ok (.iconst 0, 1) := by decide +kernel
theorem dX7_solves_81 : decode cX7_solves 81 = .ok (.istore 5, 2) := by decide +kernel
theorem dX7_solves_83 : decode cX7_solves 83 = .ok (.iload 5, 2) := by decide +kernel
theorem dX7_solves_85 : decode cX7_solves 85 = .ok (.aload_n 0, 1) := by decide +kernel
theorem dX7_solves_86 : decode cX7_solves 86 = .ok (.getfield 146, 3) := by decide +kernel
theorem dX7_solves_89 : decode cX7_solves 89 = .ok (.if_icmp .ge 87, 3) := by decide +kernel
theorem dX7_solves_92 : decode cX7_solves 92 = .ok (.aload_n 0, 1) := by decide +kernel
theorem dX7_solves_93 : decode cX7_solves 93 = .ok (.iload 5, 2) := by decide +kernel
theorem dX7_solves_95 : decode cX7_solves 95 = .ok (.iload_n 1, 1) := by decide +kernel
theorem dX7_solves_96 : decode cX7_solves 96 = .ok (.invokevirtual 163, 3) := by decide +kernel
theorem dX7_solves_99 : decode cX7_solves 99 = .ok (.lstore 6, 2) := by decide +kernel
theorem dX7_solves_101 : decode cX7_solves 101 = .ok (.iconst 0, 1) := by decide +kernel
theorem dX7_solves_102 : decode cX7_solves 102 = .ok (.istore 8, 2) := by decide +kernel
theorem dX7_solves_104 : decode cX7_solves 104 = .ok (.iload 8, 2) := by decide +kernel
theorem dX7_solves_106 : decode cX7_solves 106 = .ok (.aload_n 0, 1) := by decide +kernel
theorem dX7_solves_107 : decode cX7_solves 107 = .ok (.getfield 146, 3) := by decide +kernel
theorem dX7_solves_110 : decode cX7_solves 110 = .ok (.if_icmp .gt 60, 3) := by decide +kernel
theorem dX7_solves_113 : decode cX7_solves 113 = .ok (.iload 5, 2) := by decide +kernel
theorem dX7_solves_115 : decode cX7_solves 115 = .ok (.aload_n 0, 1) := by decide +kernel
theorem dX7_solves_116 : decode cX7_solves 116 = .ok (.getfield 156, 3) := by decide +kernel
theorem dX7_solves_119 : decode cX7_solves 119 = .ok (.if_icmp .eq 51, 3) := by decide +kernel
theorem dX7_solves_122 : decode cX7_solves 122 = .ok (.aload_n 0, 1) := by decide +kernel
theorem dX7_solves_123 : decode cX7_solves 123 = .ok (.getfield 34, 3) := by decide +kernel
theorem dX7_solves_126 : decode cX7_solves 126 = .ok (.bipush 8, 2) := by decide +kernel
theorem dX7_solves_128 : decode cX7_solves 128 = .ok (.iload 5, 2) := by decide +kernel
theorem dX7_solves_130 : decode cX7_solves 130 = .ok (.imul, 1) := by decide +kernel
theorem dX7_solves_131 : decode cX7_solves 131 = .ok (.iload 8, 2) := by decide +kernel
theorem dX7_solves_133 : decode cX7_solves 133 = .ok (.iadd, 1) := by decide +kernel
theorem dX7_solves_134 : decode cX7_solves 134 = .ok (.lload_n 3, 1) := by decide +kernel
theorem dX7_solves_135 : decode cX7_solves 135 = .ok (.aload_n 0, 1) := by decide +kernel
theorem dX7_solves_136 : decode cX7_solves 136 = .ok (.iload 5, 2) := by decide +kernel
theorem dX7_solves_138 : decode cX7_solves 138 = .ok (.iload 8, 2) := by decide +kernel
theorem dX7_solves_140 : decode cX7_solves 140 = .ok (.invokevirtual 163, 3) := by decide +kernel
theorem dX7_solves_143 : decode cX7_solves 143 = .ok (.lmul, 1) := by decide +kernel
theorem dX7_solves_144 : decode cX7_solves 144 = .ok (.lload 6, 2) := by decide +kernel
theorem dX7_solves_146 : decode cX7_solves 146 = .ok (.aload_n 0, 1) := by decide +kernel
theorem dX7_solves_147 : decode cX7_solves 147 = .ok (.aload_n 0, 1) := by decide +kernel
theorem dX7_solves_148 : decode cX7_solves 148 = .ok (.getfield 156, 3) := by decide +kernel
theorem dX7_solves_151 : decode cX7_solves 151 = .ok (.iload 8, 2) := by decide +kernel
theorem dX7_solves_153 : decode cX7_solves 153 = .ok (.invokevirtual 163, 3) := by decide +kernel
theorem dX7_solves_156 : decode cX7_solves 156 = .ok (.lmul, 1) := by decide +kernel
theorem dX7_solves_157 : decode cX7_solves 157 = .ok (.lsub, 1) := by decide +kernel
theorem dX7_solves_158 : decode cX7_solves 158 = .ok (.aload_n 0, 1) := by decide +kernel
theorem dX7_solves_159 : decode cX7_solves 159 = .ok (.getfield 159, 3) := by decide +kernel
theorem dX7_solves_162 : decode cX7_solves 162 = .ok (.ldiv, 1) := by decide +kernel
theorem dX7_solves_163 : decode cX7_solves 163 = .ok (.lastore, 1) := by decide +kernel
theorem dX7_solves_164 : decode cX7_solves 164 = .ok (.iinc 8 1, 3) := by decide +kernel
theorem dX7_solves_167 : decode cX7_solves 167 = .ok (.goto (-63), 3) := by decide +kernel
theorem dX7_solves_170 : decode cX7_solves 170 = .ok (.iinc 5 1, 3) := by decide +kernel
theorem dX7_solves_173 : decode cX7_solves 173 = .ok (.goto (-90), 3) := by decide +kernel
theorem dX7_solves_176 : decode cX7_solves 176 = .ok (.aload_n 0, 1) := by decide +kernel
theorem dX7_solves_177 : decode cX7_solves 177 = .ok (.lload_n 3, 1) := by decide +kernel
theorem dX7_solves_178 : decode cX7_solves 178 = .ok (.putfield 159, 3) := by decide +kernel
theorem dX7_solves_181 : decode cX7_solves 181 = .ok (.aload_n 0, 1) := by decide +kernel
theorem dX7_solves_182 : decode cX7_solves 182 = .ok (.getfield 40, 3) := by decide +kernel
theorem dX7_solves_185 : decode cX7_solves 185 = .ok (.aload_n 0, 1) := by decide +kernel
theorem dX7_solves_186 : decode cX7_solves 186 = .ok (.getfield 156, 3) := by decide +kernel
theorem dX7_solves_189 : decode cX7_solves 189 = .ok (.iload_n 1, 1) := by decide +kernel
theorem dX7_solves_190 : decode cX7_solves 190 = .ok (.iastore, 1) := by decide +kernel
theorem dX7_solves_191 : decode cX7_solves 191 = .ok (.aload_n 0, 1) := by decide +kernel
theorem dX7_solves_192 : decode cX7_solves 192 = .ok (.dup, 1) := by decide +kernel
theorem dX7_solves_193 : decode cX7_solves 193 = .ok (.getfield 156, 3) := by decide +kernel
theorem dX7_solves_196 : decode cX7_solves 196 = .ok (.iconst 1, 1) := by decide +kernel
theorem dX7_solves_197 : decode cX7_solves 197 = .ok (.iadd, 1) := by decide +kernel
theorem dX7_solves_198 : decode cX7_solves 198 = .ok (.putfield 156, 3) := by decide +kernel
theorem dX7_solves_201 : decode cX7_solves 201 = .ok (.iinc 1 1, 3) := by decide +kernel
theorem dX7_solves_204 : decode cX7_solves 204 = .ok (.goto (-192), 3) := by decide +kernel
theorem dX7_solves_207 : decode cX7_solves 207 = .ok (.iconst 0, 1) := by decide +kernel
theorem dX7_solves_208 : decode cX7_solves 208 = .ok (.istore_n 1, 1) := by decide +kernel
theorem dX7_solves_209 : decode cX7_solves 209 = .ok (.iload_n 1, 1) := by decide +kernel
theorem dX7_solves_210 : decode cX7_solves 210 = .ok (.bipush 7, 2) := by decide +kernel
theorem dX7_solves_212 : decode cX7_solves 212 = .ok (.if_icmp .ge 16, 3) := by decide +kernel
theorem dX7_solves_215 : decode cX7_solves 215 = .ok (.aload_n 0, 1) := by decide +kernel
theorem dX7_solves_216 : decode cX7_solves 216 = .ok (.getfield 37, 3) := by decide +kernel
theorem dX7_solves_219 : decode cX7_solves 219 = .ok (.iload_n 1, 1) := by decide +kernel
theorem dX7_solves_220 : decode cX7_solves 220 = .ok (.lconst 0, 1) := by decide +kernel
theorem dX7_solves_221 : decode cX7_solves 221 = .ok (.lastore, 1) := by decide +kernel
theorem dX7_solves_222 : decode cX7_solves 222 = .ok (.iinc 1 1, 3) := by decide +kernel
theorem dX7_solves_225 : decode cX7_solves 225 = .ok (.goto (-16), 3) := by decide +kernel
theorem dX7_solves_228 : decode cX7_solves 228 = .ok (.iconst 0, 1) := by decide +kernel
theorem dX7_solves_229 : decode cX7_solves 229 = .ok (.istore_n 1, 1) := by decide +kernel
theorem dX7_solves_230 : decode cX7_solves 230 = .ok (.iload_n 1, 1) := by decide +kernel
theorem dX7_solves_231 : decode cX7_solves 231 = .ok (.aload_n 0, 1) := by decide +kernel
theorem dX7_solves_232 : decode cX7_solves 232 = .ok (.getfield 156, 3) := by decide +kernel
theorem dX7_solves_235 : decode cX7_solves 235 = .ok (.if_icmp .ge 29, 3) := by decide +kernel
theorem dX7_solves_238 : decode cX7_solves 238 = .ok (.aload_n 0, 1) := by decide +kernel
theorem dX7_solves_239 : decode cX7_solves 239 = .ok (.getfield 37, 3) := by decide +kernel
theorem dX7_solves_242 : decode cX7_solves 242 = .ok (.aload_n 0, 1) := by decide +kernel
theorem dX7_solves_243 : decode cX7_solves 243 = .ok (.getfield 40, 3) := by decide +kernel
theorem dX7_solves_246 : decode cX7_solves 246 = .ok (.iload_n 1, 1) := by decide +kernel
theorem dX7_solves_247 : decode cX7_solves 247 = .ok (.iaload, 1) := by decide +kernel
theorem dX7_solves_248 : decode cX7_solves 248 = .ok (.aload_n 0, 1) := by decide +kernel
theorem dX7_solves_249 : decode cX7_solves 249 = .ok (.iload_n 1, 1) := by decide +kernel
theorem dX7_solves_250 : decode cX7_solves 250 = .ok (.aload_n 0, 1) := by decide +kernel
theorem dX7_solves_251 : decode cX7_solves 251 = .ok (.getfield 146, 3) := by decide +kernel
theorem dX7_solves_254 : decode cX7_solves 254 = .ok (.invokevirtual 163, 3) := by decide +kernel
theorem dX7_solves_257 : decode cX7_solves 257 = .ok (.lastore, 1) := by decide +kernel
theorem dX7_solves_258 : decode cX7_solves 258 = .ok (.iinc 1 1, 3) := by decide +kernel
theorem dX7_solves_261 : decode cX7_solves 261 = .ok (.goto (-31), 3) := by decide +kernel
theorem dX7_solves_264 : decode cX7_solves 264 = .ok (.aload_n 0, 1) := by decide +kernel
theorem dX7_solves_265 : decode cX7_solves 265 = .ok (.getfield 159, 3) := by decide +kernel
theorem dX7_solves_268 : decode cX7_solves 268 = .ok (.lconst 0, 1) := by decide +kernel
theorem dX7_solves_269 : decode cX7_solves 269 = .ok (.lcmp, 1) := by decide +kernel
theorem dX7_solves_270 : decode cX7_solves 270 = .ok (.ifCond .ge 39, 3) := by decide +kernel
theorem dX7_solves_273 : decode cX7_solves 273 = .ok (.aload_n 0, 1) := by decide +kernel
theorem dX7_solves_274 : decode cX7_solves 274 = .ok (.aload_n 0, 1) := by decide +kernel
theorem dX7_solves_275 : decode cX7_solves 275 = .ok (.getfield 159, 3) := by decide +kernel
theorem dX7_solves_278 : decode cX7_solves 278 = .ok (.lneg, 1) := by decide +kernel
theorem dX7_solves_279 : decode cX7_solves 279 = .ok (.putfield 159, 3) := by decide +kernel
theorem dX7_solves_282 : decode cX7_solves 282 = .ok (.iconst 0, 1) := by decide +kernel
theorem dX7_solves_283 : decode cX7_solves 283 = .ok (.istore_n 1, 1) := by decide +kernel
theorem dX7_solves_284 : decode cX7_solves 284 = .ok (.iload_n 1, 1) := by decide +kernel
theorem dX7_solves_285 : decode cX7_solves 285 = .ok (.bipush 7, 2) := by decide +kernel
theorem dX7_solves_287 : decode cX7_solves 287 = .ok (.if_icmp .ge 22, 3) := by decide +kernel
theorem dX7_solves_290 : decode cX7_solves 290 = .ok (.aload_n 0, 1) := by decide +kernel
theorem dX7_solves_291 : decode cX7_solves 291 = .ok (.getfield 37, 3) := by decide +kernel
theorem dX7_solves_294 : decode cX7_solves 294 = .ok (.iload_n 1, 1) := by decide +kernel
theorem dX7_solves_295 : decode cX7_solves 295 = .ok (.aload_n 0, 1) := by decide +kernel
theorem dX7_solves_296 : decode cX7_solves 296 = .ok (.getfield 37, 3) := by decide +kernel
theorem dX7_solves_299 : decode cX7_solves 299 = .ok (.iload_n 1, 1) := by decide +kernel
theorem dX7_solves_300 : decode cX7_solves 300 = .ok (.laload, 1) := by decide +kernel
theorem dX7_solves_301 : decode cX7_solves 301 = .ok (.lneg, 1) := by decide +kernel
theorem dX7_solves_302 : decode cX7_solves 302 = .ok (.lastore, 1) := by decide +kernel
theorem dX7_solves_303 : decode cX7_solves 303 = .ok (.iinc 1 1, 3) := by decide +kernel
theorem dX7_solves_306 : decode cX7_solves 306 = .ok (.goto (-22), 3) := by decide +kernel
theorem dX7_solves_309 : decode cX7_solves 309 = .ok (.aload_n 0, 1) := by decide +kernel
theorem dX7_solves_310 : decode cX7_solves 310 = .ok (.getfield 156, 3) := by decide +kernel
theorem dX7_solves_313 : decode cX7_solves 313 = .ok (.istore_n 1, 1) := by decide +kernel
theorem dX7_solves_314 : decode cX7_solves 314 = .ok (.iload_n 1, 1) := by decide +kernel
theorem dX7_solves_315 : decode cX7_solves 315 = .ok (.aload_n 0, 1) := by decide +kernel
theorem dX7_solves_316 : decode cX7_solves 316 = .ok (.getfield 146, 3) := by decide +kernel
theorem dX7_solves_319 : decode cX7_solves 319 = .ok (.if_icmp .ge 25, 3) := by decide +kernel
theorem dX7_solves_322 : decode cX7_solves 322 = .ok (.aload_n 0, 1) := by decide +kernel
theorem dX7_solves_323 : decode cX7_solves 323 = .ok (.iload_n 1, 1) := by decide +kernel
theorem dX7_solves_324 : decode cX7_solves 324 = .ok (.aload_n 0, 1) := by decide +kernel
theorem dX7_solves_325 : decode cX7_solves 325 = .ok (.getfield 146, 3) := by decide +kernel
theorem dX7_solves_328 : decode cX7_solves 328 = .ok (.invokevirtual 163, 3) := by decide +kernel
theorem dX7_solves_331 : decode cX7_solves 331 = .ok (.lconst 0, 1) := by decide +kernel
theorem dX7_solves_332 : decode cX7_solves 332 = .ok (.lcmp, 1) := by decide +kernel
theorem dX7_solves_333 : decode cX7_solves 333 = .ok (.ifCond .eq 5, 3) := by decide +kernel
theorem dX7_solves_336 : decode cX7_solves 336 = .ok (.iconst 0, 1) := by decide +kernel
theorem dX7_solves_337 : decode cX7_solves 337 = .ok (.ireturn, 1) := by decide +kernel
theorem dX7_solves_338 : decode cX7_solves 338 = .ok (.iinc 1 1, 3) := by decide +kernel
theorem dX7_solves_341 : decode cX7_solves 341 = .ok (.goto (-27), 3) := by decide +kernel
theorem dX7_solves_344 : decode cX7_solves 344 = .ok (.iconst 1, 1) := by decide +kernel
theorem dX7_solves_345 : decode cX7_solves 345 = .ok (.ireturn, 1) := by decide +kernel
theorem dX7_isKnown_0 : decode cX7_isKnown 0 = .ok (.iconst 0, 1) := by decide +kernel
theorem dX7_isKnown_1 : decode cX7_isKnown 1 = .ok (.istore_n 1, 1) := by decide +kernel
theorem dX7_isKnown_2 : decode cX7_isKnown 2 = .ok (.iload_n 1, 1) := by decide +kernel
theorem dX7_isKnown_3 : decode cX7_isKnown 3 = .ok (.aload_n 0, 1) := by decide +kernel
theorem dX7_isKnown_4 : decode cX7_isKnown 4 = .ok (.getfield 146, 3) := by decide +kernel
theorem dX7_isKnown_7 : decode cX7_isKnown 7 = .ok (.if_icmp .ge 68, 3) := by decide +kernel
theorem dX7_isKnown_10 : decode cX7_isKnown 10 = .ok (.iconst 0, 1) := by decide +kernel
theorem dX7_isKnown_11 : decode cX7_isKnown 11 = .ok (.istore_n 2, 1) := by decide +kernel
theorem dX7_isKnown_12 : decode cX7_isKnown 12 = .ok (.iload_n 2, 1) := by decide +kernel
theorem dX7_isKnown_13 : decode cX7_isKnown 13 = .ok (.aload_n 0, 1) := by decide +kernel
theorem dX7_isKnown_14 : decode cX7_isKnown 14 = .ok (.getfield 146, 3) := by decide +kernel
theorem dX7_isKnown_17 : decode cX7_isKnown 17 = .ok (.if_icmp .ge 31, 3) := by decide +kernel
theorem dX7_isKnown_20 : decode cX7_isKnown 20 = .ok (.aload_n 0, 1) := by decide +kernel
theorem dX7_isKnown_21 : decode cX7_isKnown 21 = .ok (.getfield 34, 3) := by decide +kernel
theorem dX7_isKnown_24 : decode cX7_isKnown 24 = .ok (.bipush 8, 2) := by decide +kernel
theorem dX7_isKnown_26 : decode cX7_isKnown 26 = .ok (.iload_n 1, 1) := by decide +kernel
theorem dX7_isKnown_27 : decode cX7_isKnown 27 = .ok (.imul, 1) := by decide +kernel
theorem dX7_isKnown_28 : decode cX7_isKnown 28 = .ok (.iload_n 2, 1) := by decide +kernel
theorem dX7_isKnown_29 : decode cX7_isKnown 29 = .ok (.iadd, 1) := by decide +kernel
theorem dX7_isKnown_30 : decode cX7_isKnown 30 = .ok (.aload_n 0, 1) := by decide +kernel
theorem dX7_isKnown_31 : decode cX7_isKnown 31 = .ok (.getfield 27, 3) := by decide +kernel
theorem dX7_isKnown_34 : decode cX7_isKnown 34 = .ok (.bipush 7, 2) := by decide +kernel
theorem dX7_isKnown_36 : decode cX7_isKnown 36 = .ok (.iload_n 1, 1) := by decide +kernel
theorem dX7_isKnown_37 : decode cX7_isKnown 37 = .ok (.imul, 1) := by decide +kernel
theorem dX7_isKnown_38 : decode cX7_isKnown 38 = .ok (.iload_n 2, 1) := by decide +kernel
theorem dX7_isKnown_39 : decode cX7_isKnown 39 = .ok (.iadd, 1) := by decide +kernel
theorem dX7_isKnown_40 : decode cX7_isKnown 40 = .ok (.laload, 1) := by decide +kernel
theorem dX7_isKnown_41 : decode cX7_isKnown 41 = .ok (.lastore, 1) := by decide +kernel
theorem dX7_isKnown_42 : decode cX7_isKnown 42 = .ok (.iinc 2 1, 3) := by decide +kernel
theorem dX7_isKnown_45 : decode cX7_isKnown 45 = .ok (.goto (-33), 3) := by decide +kernel
theorem dX7_isKnown_48 : decode cX7_isKnown 48 = .ok (.aload_n 0, 1) := by decide +kernel
theorem dX7_isKnown_49 : decode cX7_isKnown 49 = .ok (.getfield 34, 3) := by decide +kernel
theorem dX7_isKnown_52 : decode cX7_isKnown 52 = .ok (.bipush 8, 2) := by decide +kernel
theorem dX7_isKnown_54 : decode cX7_isKnown 54 = .ok (.iload_n 1, 1) := by decide +kernel
theorem dX7_isKnown_55 : decode cX7_isKnown 55 = .ok (.imul, 1) := by decide +kernel
theorem dX7_isKnown_56 : decode cX7_isKnown 56 = .ok (.aload_n 0, 1) := by decide +kernel
theorem dX7_isKnown_57 : decode cX7_isKnown 57 = .ok (.getfield 146, 3) := by decide +kernel
theorem dX7_isKnown_60 : decode cX7_isKnown 60 = .ok (.iadd, 1) := by decide +kernel
theorem dX7_isKnown_61 : decode cX7_isKnown 61 = .ok (.aload_n 0, 1) := by decide +kernel
theorem dX7_isKnown_62 : decode cX7_isKnown 62 = .ok (.getfield 24, 3) := by decide +kernel
theorem dX7_isKnown_65 : decode cX7_isKnown 65 = .ok (.iload_n 1, 1) := by decide +kernel
theorem dX7_isKnown_66 : decode cX7_isKnown 66 = .ok (.iaload, 1) := by decide +kernel
theorem dX7_isKnown_67 : decode cX7_isKnown 67 = .ok (.i2l, 1) := by decide +kernel
theorem dX7_isKnown_68 : decode cX7_isKnown 68 = .ok (.lastore, 1) := by decide +kernel
theorem dX7_isKnown_69 : decode cX7_isKnown 69 = .ok (.iinc 1 1, 3) := by decide +kernel
theorem dX7_isKnown_72 : decode cX7_isKnown 72 = .ok (.goto (-70), 3) := by decide +kernel
theorem dX7_isKnown_75 : decode cX7_isKnown 75 = .ok (.aload_n 0, 1) := by decide +kernel
theorem dX7_isKnown_76 : decode cX7_isKnown 76 = .ok (.invokevirtual 170, 3) := by decide +kernel
theorem dX7_isKnown_79 : decode cX7_isKnown 79 = .ok (.ireturn, 1) := by decide +kernel
theorem dX7_value_0 : decode cX7_value 0 = .ok (.lconst 0, 1) := by decide +kernel
theorem dX7_value_1 : decode cX7_value 1 = .ok (.lstore_n 1, 1) := by decide +kernel
theorem dX7_value_2 : decode cX7_value 2 = .ok (.iconst 0, 1) := by decide +kernel
theorem dX7_value_3 : decode cX7_value 3 = .ok (.istore_n 3, 1) := by decide +kernel
theorem dX7_value_4 : decode cX7_value 4 = .ok (.iload_n 3, 1) := by decide +kernel
theorem dX7_value_5 : decode cX7_value 5 = .ok (.aload_n 0, 1) := by decide +kernel
theorem dX7_value_6 : decode cX7_value 6 = .ok (.getfield 146, 3) := by decide +kernel
theorem dX7_value_9 : decode cX7_value 9 = .ok (.if_icmp .ge 25, 3) := by decide +kernel
theorem dX7_value_12 : decode cX7_value 12 = .ok (.lload_n 1, 1) := by decide +kernel
theorem dX7_value_13 : decode cX7_value 13 = .ok (.aload_n 0, 1) := by decide +kernel
theorem dX7_value_14 : decode cX7_value 14 = .ok (.getfield 37, 3) := by decide +kernel
theorem dX7_value_17 : decode cX7_value 17 = .ok (.iload_n 3, 1) := by decide +kernel
theorem dX7_value_18 : decode cX7_value 18 = .ok (.laload, 1) := by decide +kernel
theorem dX7_value_19 : decode cX7_value 19 = .ok (.aload_n 0, 1) := by decide +kernel
theorem dX7_value_20 : decode cX7_value 20 = .ok (.getfield 31, 3) := by decide +kernel
theorem dX7_value_23 : decode cX7_value 23 = .ok (.iload_n 3, 1) := by decide +kernel
theorem dX7_value_24 : decode cX7_value 24 = .ok (.laload, 1) := by decide +kernel
theorem dX7_value_25 : decode cX7_value 25 = .ok (.lmul, 1) := by decide +kernel
theorem dX7_value_26 : decode cX7_value 26 = .ok (.ladd, 1) := by decide +kernel
theorem dX7_value_27 : decode cX7_value 27 = .ok (.lstore_n 1, 1) := by decide +kernel
theorem dX7_value_28 : decode cX7_value 28 = .ok (.iinc 3 1, 3) := by decide +kernel
theorem dX7_value_31 : decode cX7_value 31 = .ok (.goto (-27), 3) := by decide +kernel
theorem dX7_value_34 : decode cX7_value 34 = .ok (.lload_n 1, 1) := by decide +kernel
theorem dX7_value_35 : decode cX7_value 35 = .ok (.lreturn, 1) := by decide +kernel
theorem dX7_doubt_0 : decode cX7_doubt 0 = .ok (.lconst 0, 1) := by decide +kernel
theorem dX7_doubt_1 : decode cX7_doubt 1 = .ok (.lstore_n 1, 1) := by decide +kernel
theorem dX7_doubt_2 : decode cX7_doubt 2 = .ok (.iconst 0, 1) := by decide +kernel
theorem dX7_doubt_3 : decode cX7_doubt 3 = .ok (.istore_n 3, 1) := by decide +kernel
theorem dX7_doubt_4 : decode cX7_doubt 4 = .ok (.iload_n 3, 1) := by decide +kernel
theorem dX7_doubt_5 : decode cX7_doubt 5 = .ok (.aload_n 0, 1) := by decide +kernel
theorem dX7_doubt_6 : decode cX7_doubt 6 = .ok (.getfield 146, 3) := by decide +kernel
theorem dX7_doubt_9 : decode cX7_doubt 9 = .ok (.if_icmp .ge 26, 3) := by decide +kernel
theorem dX7_doubt_12 : decode cX7_doubt 12 = .ok (.lload_n 1, 1) := by decide +kernel
theorem dX7_doubt_13 : decode cX7_doubt 13 = .ok (.aload_n 0, 1) := by decide +kernel
theorem dX7_doubt_14 : decode cX7_doubt 14 = .ok (.getfield 37, 3) := by decide +kernel
theorem dX7_doubt_17 : decode cX7_doubt 17 = .ok (.iload_n 3, 1) := by decide +kernel
theorem dX7_doubt_18 : decode cX7_doubt 18 = .ok (.laload, 1) := by decide +kernel
theorem dX7_doubt_19 : decode cX7_doubt 19 = .ok (.aload_n 0, 1) := by decide +kernel
theorem dX7_doubt_20 : decode cX7_doubt 20 = .ok (.getfield 24, 3) := by decide +kernel
theorem dX7_doubt_23 : decode cX7_doubt 23 = .ok (.iload_n 3, 1) := by decide +kernel
theorem dX7_doubt_24 : decode cX7_doubt 24 = .ok (.iaload, 1) := by decide +kernel
theorem dX7_doubt_25 : decode cX7_doubt 25 = .ok (.i2l, 1) := by decide +kernel
theorem dX7_doubt_26 : decode cX7_doubt 26 = .ok (.lmul, 1) := by decide +kernel
theorem dX7_doubt_27 : decode cX7_doubt 27 = .ok (.ladd, 1) := by decide +kernel
theorem dX7_doubt_28 : decode cX7_doubt 28 = .ok (.lstore_n 1, 1) := by decide +kernel
theorem dX7_doubt_29 : decode cX7_doubt 29 = .ok (.iinc 3 1, 3) := by decide +kernel
theorem dX7_doubt_32 : decode cX7_doubt 32 = .ok (.goto (-28), 3) := by decide +kernel
theorem dX7_doubt_35 : decode cX7_doubt 35 = .ok (.lload_n 1, 1) := by decide +kernel
theorem dX7_doubt_36 : decode cX7_doubt 36 = .ok (.lreturn, 1) := by decide +kernel
theorem dX7_common_0 : decode cX7_common 0 = .ok (.lload_n 0, 1) := by decide +kernel
theorem dX7_common_1 : decode cX7_common 1 = .ok (.invokestatic 173, 3) := by decide +kernel
theorem dX7_common_4 : decode cX7_common 4 = .ok (.lstore 4, 2) := by decide +kernel
theorem dX7_common_6 : decode cX7_common 6 = .ok (.lload_n 2, 1) := by decide +kernel
theorem dX7_common_7 : decode cX7_common 7 = .ok (.invokestatic 173, 3) := by decide +kernel
theorem dX7_common_10 : decode cX7_common 10 = .ok (.lstore 6, 2) := by decide +kernel
theorem dX7_common_12 : decode cX7_common 12 = .ok (.lload 6, 2) := by decide +kernel
theorem dX7_common_14 : decode cX7_common 14 = .ok (.lconst 0, 1) := by decide +kernel
theorem dX7_common_15 : decode cX7_common 15 = .ok (.lcmp, 1) := by decide +kernel
theorem dX7_common_16 : decode cX7_common 16 = .ok (.ifCond .eq 21, 3) := by decide +kernel
theorem dX7_common_19 : decode cX7_common 19 = .ok (.lload 4, 2) := by decide +kernel
theorem dX7_common_21 : decode cX7_common 21 = .ok (.lload 6, 2) := by decide +kernel
theorem dX7_common_23 : decode cX7_common 23 = .ok (.lrem, 1) := by decide +kernel
theorem dX7_common_24 : decode cX7_common 24 = .ok (.lstore 8, 2) := by decide +kernel
theorem dX7_common_26 : decode cX7_common 26 = .ok (.lload 6, 2) := by decide +kernel
theorem dX7_common_28 : decode cX7_common 28 = .ok (.lstore 4, 2) := by decide +kernel
theorem dX7_common_30 : decode cX7_common 30 = .ok (.lload 8, 2) := by decide +kernel
theorem dX7_common_32 : decode cX7_common 32 = .ok (.lstore 6, 2) := by decide +kernel
theorem dX7_common_34 : decode cX7_common 34 = .ok (.goto (-22), 3) := by decide +kernel
theorem dX7_common_37 : decode cX7_common 37 = .ok (.lload 4, 2) := by decide +kernel
theorem dX7_common_39 : decode cX7_common 39 = .ok (.lreturn, 1) := by decide +kernel
theorem dX7_told__0 : decode cX7_told_ 0 = .ok (.iload 4, 2) := by decide +kernel
theorem dX7_told__2 : decode cX7_told_ 2 = .ok (.ifCond .eq 7, 3) := by decide +kernel
theorem dX7_told__5 : decode cX7_told_ 5 = .ok (.lload_n 2, 1) := by decide +kernel
theorem dX7_told__6 : decode cX7_told_ 6 = .ok (.goto 4, 3) := by decide +kernel
theorem dX7_told__9 : decode cX7_told_ 9 = .ok (.lload_n 0, 1) := by decide +kernel
theorem dX7_told__10 : decode cX7_told_ 10 = .ok (.lload_n 0, 1) := by decide +kernel
theorem dX7_told__11 : decode cX7_told_ 11 = .ok (.lload_n 2, 1) := by decide +kernel
theorem dX7_told__12 : decode cX7_told_ 12 = .ok (.invokestatic 177, 3) := by decide +kernel
theorem dX7_told__15 : decode cX7_told_ 15 = .ok (.ldiv, 1) := by decide +kernel
theorem dX7_told__16 : decode cX7_told_ 16 = .ok (.lreturn, 1) := by decide +kernel
theorem dX7_compared_0 : decode cX7_compared 0 = .ok (.lload_n 0, 1) := by decide +kernel
theorem dX7_compared_1 : decode cX7_compared 1 = .ok (.lstore 8, 2) := by decide +kernel
theorem dX7_compared_3 : decode cX7_compared 3 = .ok (.lload_n 2, 1) := by decide +kernel
theorem dX7_compared_4 : decode cX7_compared 4 = .ok (.lstore 10, 2) := by decide +kernel
theorem dX7_compared_6 : decode cX7_compared 6 = .ok (.lload 4, 2) := by decide +kernel
theorem dX7_compared_8 : decode cX7_compared 8 = .ok (.lstore 12, 2) := by decide +kernel
theorem dX7_compared_10 : decode cX7_compared 10 = .ok (.lload 6, 2) := by decide +kernel
theorem dX7_compared_12 : decode cX7_compared 12 = .ok (.lstore 14, 2) := by decide +kernel
theorem dX7_compared_14 : decode cX7_compared 14 = .ok (.iconst 1, 1) := by decide +kernel
theorem dX7_compared_15 : decode cX7_compared 15 = .ok (.istore 16, 2) := by decide +kernel
theorem dX7_compared_17 : decode cX7_compared 17 = .ok (.lload 8, 2) := by decide +kernel
theorem dX7_compared_19 : decode cX7_compared 19 = .ok (.lload 10, 2) := by decide +kernel
theorem dX7_compared_21 : decode cX7_compared 21 = .ok (.ldiv, 1) := by decide +kernel
theorem dX7_compared_22 : decode cX7_compared 22 = .ok (.lload 12, 2) := by decide +kernel
theorem dX7_compared_24 : decode cX7_compared 24 = .ok (.lload 14, 2) := by decide +kernel
theorem dX7_compared_26 : decode cX7_compared 26 = .ok (.ldiv, 1) := by decide +kernel
theorem dX7_compared_27 : decode cX7_compared 27 = .ok (.lcmp, 1) := by decide +kernel
theorem dX7_compared_28 : decode cX7_compared 28 = .ok (.ifCond .eq 26, 3) := by decide +kernel
theorem dX7_compared_31 : decode cX7_compared 31 = .ok (.lload 8, 2) := by decide +kernel
theorem dX7_compared_33 : decode cX7_compared 33 = .ok (.lload 10, 2) := by decide +kernel
theorem dX7_compared_35 : decode cX7_compared 35 = .ok (.ldiv, 1) := by decide +kernel
theorem dX7_compared_36 : decode cX7_compared 36 = .ok (.lload 12, 2) := by decide +kernel
theorem dX7_compared_38 : decode cX7_compared 38 = .ok (.lload 14, 2) := by decide +kernel
theorem dX7_compared_40 : decode cX7_compared 40 = .ok (.ldiv, 1) := by decide +kernel
theorem dX7_compared_41 : decode cX7_compared 41 = .ok (.lcmp, 1) := by decide +kernel
theorem dX7_compared_42 : decode cX7_compared 42 = .ok (.ifCond .ge 9, 3) := by decide +kernel
theorem dX7_compared_45 : decode cX7_compared 45 = .ok (.iload 16, 2) := by decide +kernel
theorem dX7_compared_47 : decode cX7_compared 47 = .ok (.ineg, 1) := by decide +kernel
theorem dX7_compared_48 : decode cX7_compared 48 = .ok (.goto 5, 3) := by decide +kernel
theorem dX7_compared_51 : decode cX7_compared 51 = .ok (.iload 16, 2) := by decide +kernel
theorem dX7_compared_53 : decode cX7_compared 53 = .ok (.ireturn, 1) := by decide +kernel
theorem dX7_compared_54 : decode cX7_compared 54 = .ok (.lload 8, 2) := by decide +kernel
theorem dX7_compared_56 : decode cX7_compared 56 = .ok (.lload 10, 2) := by decide +kernel
theorem dX7_compared_58 : decode cX7_compared 58 = .ok (.lrem, 1) := by decide +kernel
theorem dX7_compared_59 : decode cX7_compared 59 = .ok (.lstore 17, 2) := by decide +kernel
theorem dX7_compared_61 : decode cX7_compared 61 = .ok (.lload 12, 2) := by decide +kernel
theorem dX7_compared_63 : decode cX7_compared 63 = .ok (.lload 14, 2) := by decide +kernel
theorem dX7_compared_65 : decode cX7_compared 65 = .ok (.lrem, 1) := by decide +kernel
theorem dX7_compared_66 : decode cX7_compared 66 = .ok (.lstore 19, 2) := by decide +kernel
theorem dX7_compared_68 : decode cX7_compared 68 = .ok (.lload 17, 2) := by decide +kernel
theorem dX7_compared_70 : decode cX7_compared 70 = .ok (.lconst 0, 1) := by decide +kernel
theorem dX7_compared_71 : decode cX7_compared 71 = .ok (.lcmp, 1) := by decide +kernel
theorem dX7_compared_72 : decode cX7_compared 72 = .ok (.ifCond .eq 10, 3) := by decide +kernel
theorem dX7_compared_75 : decode cX7_compared 75 = .ok (.lload 19, 2) := by decide +kernel
theorem dX7_compared_77 : decode cX7_compared 77 = .ok (.lconst 0, 1) := by decide +kernel
theorem dX7_compared_78 : decode cX7_compared 78 = .ok (.lcmp, 1) := by decide +kernel
theorem dX7_compared_79 : decode cX7_compared 79 = .ok (.ifCond .ne 31, 3) := by decide +kernel
theorem dX7_compared_82 : decode cX7_compared 82 = .ok (.lload 17, 2) := by decide +kernel
theorem dX7_compared_84 : decode cX7_compared 84 = .ok (.lload 19, 2) := by decide +kernel
theorem dX7_compared_86 : decode cX7_compared 86 = .ok (.lcmp, 1) := by decide +kernel
theorem dX7_compared_87 : decode cX7_compared 87 = .ok (.ifCond .ne 7, 3) := by decide +kernel
theorem dX7_compared_90 : decode cX7_compared 90 = .ok (.iconst 0, 1) := by decide +kernel
theorem dX7_compared_91 : decode cX7_compared 91 = .ok (.goto 18, 3) := by decide +kernel
theorem dX7_compared_94 : decode cX7_compared 94 = .ok (.lload 17, 2) := by decide +kernel
theorem dX7_compared_96 : decode cX7_compared 96 = .ok (.lconst 0, 1) := by decide +kernel
theorem dX7_compared_97 : decode cX7_compared 97 = .ok (.lcmp, 1) := by decide +kernel
theorem dX7_compared_98 : decode cX7_compared 98 = .ok (.ifCond .ne 9, 3) := by decide +kernel
theorem dX7_compared_101 : decode cX7_compared 101 = .ok (.iload 16, 2) := by decide +kernel
theorem dX7_compared_103 : decode cX7_compared 103 = .ok (.ineg, 1) := by decide +kernel
theorem dX7_compared_104 : decode cX7_compared 104 = .ok (.goto 5, 3) := by decide +kernel
theorem dX7_compared_107 : decode cX7_compared 107 = .ok (.iload 16, 2) := by decide +kernel
theorem dX7_compared_109 : decode cX7_compared 109 = .ok (.ireturn, 1) := by decide +kernel
theorem dX7_compared_110 : decode cX7_compared 110 = .ok (.lload 10, 2) := by decide +kernel
theorem dX7_compared_112 : decode cX7_compared 112 = .ok (.lstore 8, 2) := by decide +kernel
theorem dX7_compared_114 : decode cX7_compared 114 = .ok (.lload 17, 2) := by decide +kernel
theorem dX7_compared_116 : decode cX7_compared 116 = .ok (.lstore 10, 2) := by decide +kernel
theorem dX7_compared_118 : decode cX7_compared 118 = .ok (.lload 14, 2) := by decide +kernel
theorem dX7_compared_120 : decode cX7_compared 120 = .ok (.lstore 12, 2) := by decide +kernel
theorem dX7_compared_122 : decode cX7_compared 122 = .ok (.lload 19, 2) := by decide +kernel
theorem dX7_compared_124 : decode cX7_compared 124 = .ok (.lstore 14, 2) := by decide +kernel
theorem dX7_compared_126 : decode cX7_compared 126 = .ok (.iload 16, 2) := by decide +kernel
theorem dX7_compared_128 : decode cX7_compared 128 = .ok (.ineg, 1) := by decide +kernel
theorem dX7_compared_129 : decode cX7_compared 129 = .ok (.istore 16, 2) := by decide +kernel
theorem dX7_compared_131 : decode cX7_compared 131 = .ok (.goto (-114), 3) := by decide +kernel
theorem dX7_difference__0 : decode cX7_difference_ 0 = .ok (.aload_n 0, 1) := by decide +kernel
theorem dX7_difference__1 : decode cX7_difference_ 1 = .ok (.iconst 0, 1) := by decide +kernel
theorem dX7_difference__2 : decode cX7_difference_ 2 = .ok (.putfield 43, 3) := by decide +kernel
theorem dX7_difference__5 : decode cX7_difference_ 5 = .ok (.aload_n 0, 1) := by decide +kernel
theorem dX7_difference__6 : decode cX7_difference_ 6 = .ok (.iload_n 1, 1) := by decide +kernel
theorem dX7_difference__7 : decode cX7_difference_ 7 = .ok (.invokevirtual 113, 3) := by decide +kernel
theorem dX7_difference__10 : decode cX7_difference_ 10 = .ok (.ifCond .eq 11, 3) := by decide +kernel
theorem dX7_difference__13 : decode cX7_difference_ 13 = .ok (.aload_n 0, 1) := by decide +kernel
theorem dX7_difference__14 : decode cX7_difference_ 14 = .ok (.iload_n 2, 1) := by decide +kernel
theorem dX7_difference__15 : decode cX7_difference_ 15 = .ok (.invokevirtual 113, 3) := by decide +kernel
theorem dX7_difference__18 : decode cX7_difference_ 18 = .ok (.ifCond .ne 7, 3) := by decide +kernel
theorem dX7_difference__21 : decode cX7_difference_ 21 = .ok (.ldc2_w 181, 3) := by decide +kernel
theorem dX7_difference__24 : decode cX7_difference_ 24 = .ok (.lreturn, 1) := by decide +kernel
theorem dX7_difference__25 : decode cX7_difference_ 25 = .ok (.aload_n 0, 1) := by decide +kernel
theorem dX7_difference__26 : decode cX7_difference_ 26 = .ok (.invokevirtual 183, 3) := by decide +kernel
theorem dX7_difference__29 : decode cX7_difference_ 29 = .ok (.aload_n 0, 1) := by decide +kernel
theorem dX7_difference__30 : decode cX7_difference_ 30 = .ok (.iload_n 1, 1) := by decide +kernel
theorem dX7_difference__31 : decode cX7_difference_ 31 = .ok (.iload_n 2, 1) := by decide +kernel
theorem dX7_difference__32 : decode cX7_difference_ 32 = .ok (.invokevirtual 186, 3) := by decide +kernel
theorem dX7_difference__35 : decode cX7_difference_ 35 = .ok (.aload_n 0, 1) := by decide +kernel
theorem dX7_difference__36 : decode cX7_difference_ 36 = .ok (.invokevirtual 189, 3) := by decide +kernel
theorem dX7_difference__39 : decode cX7_difference_ 39 = .ok (.ifCond .eq 18, 3) := by decide +kernel
theorem dX7_difference__42 : decode cX7_difference_ 42 = .ok (.aload_n 0, 1) := by decide +kernel
theorem dX7_difference__43 : decode cX7_difference_ 43 = .ok (.invokevirtual 192, 3) := by decide +kernel
theorem dX7_difference__46 : decode cX7_difference_ 46 = .ok (.aload_n 0, 1) := by decide +kernel
theorem dX7_difference__47 : decode cX7_difference_ 47 = .ok (.getfield 159, 3) := by decide +kernel
theorem dX7_difference__50 : decode cX7_difference_ 50 = .ok (.iload_n 3, 1) := by decide +kernel
theorem dX7_difference__51 : decode cX7_difference_ 51 = .ok (.invokestatic 196, 3) := by decide +kernel
theorem dX7_difference__54 : decode cX7_difference_ 54 = .ok (.goto 6, 3) := by decide +kernel
theorem dX7_difference__57 : decode cX7_difference_ 57 = .ok (.ldc2_w 181, 3) := by decide +kernel
theorem dX7_difference__60 : decode cX7_difference_ 60 = .ok (.lreturn, 1) := by decide +kernel
theorem dX7_doubt__0 : decode cX7_doubt_ 0 = .ok (.aload_n 0, 1) := by decide +kernel
theorem dX7_doubt__1 : decode cX7_doubt_ 1 = .ok (.iconst 0, 1) := by decide +kernel
theorem dX7_doubt__2 : decode cX7_doubt_ 2 = .ok (.putfield 43, 3) := by decide +kernel
theorem dX7_doubt__5 : decode cX7_doubt_ 5 = .ok (.aload_n 0, 1) := by decide +kernel
theorem dX7_doubt__6 : decode cX7_doubt_ 6 = .ok (.iload_n 1, 1) := by decide +kernel
theorem dX7_doubt__7 : decode cX7_doubt_ 7 = .ok (.invokevirtual 113, 3) := by decide +kernel
theorem dX7_doubt__10 : decode cX7_doubt_ 10 = .ok (.ifCond .eq 11, 3) := by decide +kernel
theorem dX7_doubt__13 : decode cX7_doubt_ 13 = .ok (.aload_n 0, 1) := by decide +kernel
theorem dX7_doubt__14 : decode cX7_doubt_ 14 = .ok (.iload_n 2, 1) := by decide +kernel
theorem dX7_doubt__15 : decode cX7_doubt_ 15 = .ok (.invokevirtual 113, 3) := by decide +kernel
theorem dX7_doubt__18 : decode cX7_doubt_ 18 = .ok (.ifCond .ne 7, 3) := by decide +kernel
theorem dX7_doubt__21 : decode cX7_doubt_ 21 = .ok (.ldc2_w 181, 3) := by decide +kernel
theorem dX7_doubt__24 : decode cX7_doubt_ 24 = .ok (.lreturn, 1) := by decide +kernel
theorem dX7_doubt__25 : decode cX7_doubt_ 25 = .ok (.aload_n 0, 1) := by decide +kernel
theorem dX7_doubt__26 : decode cX7_doubt_ 26 = .ok (.invokevirtual 183, 3) := by decide +kernel
theorem dX7_doubt__29 : decode cX7_doubt_ 29 = .ok (.aload_n 0, 1) := by decide +kernel
theorem dX7_doubt__30 : decode cX7_doubt_ 30 = .ok (.iload_n 1, 1) := by decide +kernel
theorem dX7_doubt__31 : decode cX7_doubt_ 31 = .ok (.iload_n 2, 1) := by decide +kernel
theorem dX7_doubt__32 : decode cX7_doubt_ 32 = .ok (.invokevirtual 186, 3) := by decide +kernel
theorem dX7_doubt__35 : decode cX7_doubt_ 35 = .ok (.aload_n 0, 1) := by decide +kernel
theorem dX7_doubt__36 : decode cX7_doubt_ 36 = .ok (.invokevirtual 189, 3) := by decide +kernel
theorem dX7_doubt__39 : decode cX7_doubt_ 39 = .ok (.ifCond .eq 18, 3) := by decide +kernel
theorem dX7_doubt__42 : decode cX7_doubt_ 42 = .ok (.aload_n 0, 1) := by decide +kernel
theorem dX7_doubt__43 : decode cX7_doubt_ 43 = .ok (.invokevirtual 199, 3) := by decide +kernel
theorem dX7_doubt__46 : decode cX7_doubt_ 46 = .ok (.aload_n 0, 1) := by decide +kernel
theorem dX7_doubt__47 : decode cX7_doubt_ 47 = .ok (.getfield 159, 3) := by decide +kernel
theorem dX7_doubt__50 : decode cX7_doubt_ 50 = .ok (.iload_n 3, 1) := by decide +kernel
theorem dX7_doubt__51 : decode cX7_doubt_ 51 = .ok (.invokestatic 196, 3) := by decide +kernel
theorem dX7_doubt__54 : decode cX7_doubt_ 54 = .ok (.goto 6, 3) := by decide +kernel
theorem dX7_doubt__57 : decode cX7_doubt_ 57 = .ok (.ldc2_w 181, 3) := by decide +kernel
theorem dX7_doubt__60 : decode cX7_doubt_ 60 = .ok (.lreturn, 1) := by decide +kernel
theorem dX7_drift_0 : decode cX7_drift 0 = .ok (.aload_n 0, 1) := by decide +kernel
theorem dX7_drift_1 : decode cX7_drift 1 = .ok (.iconst 0, 1) := by decide +kernel
theorem dX7_drift_2 : decode cX7_drift 2 = .ok (.putfield 43, 3) := by decide +kernel
theorem dX7_drift_5 : decode cX7_drift 5 = .ok (.aload_n 0, 1) := by decide +kernel
theorem dX7_drift_6 : decode cX7_drift 6 = .ok (.invokevirtual 183, 3) := by decide +kernel
theorem dX7_drift_9 : decode cX7_drift 9 = .ok (.aload_n 0, 1) := by decide +kernel
theorem dX7_drift_10 : decode cX7_drift 10 = .ok (.invokevirtual 143, 3) := by decide +kernel
theorem dX7_drift_13 : decode cX7_drift 13 = .ok (.aload_n 0, 1) := by decide +kernel
theorem dX7_drift_14 : decode cX7_drift 14 = .ok (.getfield 24, 3) := by decide +kernel
theorem dX7_drift_17 : decode cX7_drift 17 = .ok (.aload_n 0, 1) := by decide +kernel
theorem dX7_drift_18 : decode cX7_drift 18 = .ok (.invokevirtual 46, 3) := by decide +kernel
theorem dX7_drift_21 : decode cX7_drift 21 = .ok (.iconst 1, 1) := by decide +kernel
theorem dX7_drift_22 : decode cX7_drift 22 = .ok (.iastore, 1) := by decide +kernel
theorem dX7_drift_23 : decode cX7_drift 23 = .ok (.aload_n 0, 1) := by decide +kernel
theorem dX7_drift_24 : decode cX7_drift 24 = .ok (.invokevirtual 189, 3) := by decide +kernel
theorem dX7_drift_27 : decode cX7_drift 27 = .ok (.ifCond .eq 18, 3) := by decide +kernel
theorem dX7_drift_30 : decode cX7_drift 30 = .ok (.aload_n 0, 1) := by decide +kernel
theorem dX7_drift_31 : decode cX7_drift 31 = .ok (.invokevirtual 192, 3) := by decide +kernel
theorem dX7_drift_34 : decode cX7_drift 34 = .ok (.aload_n 0, 1) := by decide +kernel
theorem dX7_drift_35 : decode cX7_drift 35 = .ok (.getfield 159, 3) := by decide +kernel
theorem dX7_drift_38 : decode cX7_drift 38 = .ok (.iload_n 1, 1) := by decide +kernel
theorem dX7_drift_39 : decode cX7_drift 39 = .ok (.invokestatic 196, 3) := by decide +kernel
theorem dX7_drift_42 : decode cX7_drift 42 = .ok (.goto 6, 3) := by decide +kernel
theorem dX7_drift_45 : decode cX7_drift 45 = .ok (.ldc2_w 181, 3) := by decide +kernel
theorem dX7_drift_48 : decode cX7_drift 48 = .ok (.lreturn, 1) := by decide +kernel
theorem dX7_restOf_0 : decode cX7_restOf 0 = .ok (.aload_n 0, 1) := by decide +kernel
theorem dX7_restOf_1 : decode cX7_restOf 1 = .ok (.aload_n 0, 1) := by decide +kernel
theorem dX7_restOf_2 : decode cX7_restOf 2 = .ok (.iload_n 1, 1) := by decide +kernel
theorem dX7_restOf_3 : decode cX7_restOf 3 = .ok (.iconst 0, 1) := by decide +kernel
theorem dX7_restOf_4 : decode cX7_restOf 4 = .ok (.invokevirtual 73, 3) := by decide +kernel
theorem dX7_restOf_7 : decode cX7_restOf 7 = .ok (.aload_n 0, 1) := by decide +kernel
theorem dX7_restOf_8 : decode cX7_restOf 8 = .ok (.iload_n 1, 1) := by decide +kernel
theorem dX7_restOf_9 : decode cX7_restOf 9 = .ok (.iconst 1, 1) := by decide +kernel
theorem dX7_restOf_10 : decode cX7_restOf 10 = .ok (.invokevirtual 73, 3) := by decide +kernel
theorem dX7_restOf_13 : decode cX7_restOf 13 = .ok (.aload_n 0, 1) := by decide +kernel
theorem dX7_restOf_14 : decode cX7_restOf 14 = .ok (.iload_n 1, 1) := by decide +kernel
theorem dX7_restOf_15 : decode cX7_restOf 15 = .ok (.iconst 3, 1) := by decide +kernel
theorem dX7_restOf_16 : decode cX7_restOf 16 = .ok (.invokevirtual 73, 3) := by decide +kernel
theorem dX7_restOf_19 : decode cX7_restOf 19 = .ok (.invokevirtual 149, 3) := by decide +kernel
theorem dX7_restOf_22 : decode cX7_restOf 22 = .ok (.aload_n 0, 1) := by decide +kernel
theorem dX7_restOf_23 : decode cX7_restOf 23 = .ok (.invokevirtual 189, 3) := by decide +kernel
theorem dX7_restOf_26 : decode cX7_restOf 26 = .ok (.istore_n 2, 1) := by decide +kernel
theorem dX7_restOf_27 : decode cX7_restOf 27 = .ok (.iload_n 2, 1) := by decide +kernel
theorem dX7_restOf_28 : decode cX7_restOf 28 = .ok (.ifCond .eq 23, 3) := by decide +kernel
theorem dX7_restOf_31 : decode cX7_restOf 31 = .ok (.aload_n 0, 1) := by decide +kernel
theorem dX7_restOf_32 : decode cX7_restOf 32 = .ok (.iload_n 1, 1) := by decide +kernel
theorem dX7_restOf_33 : decode cX7_restOf 33 = .ok (.iconst 2, 1) := by decide +kernel
theorem dX7_restOf_34 : decode cX7_restOf 34 = .ok (.invokevirtual 73, 3) := by decide +kernel
theorem dX7_restOf_37 : decode cX7_restOf 37 = .ok (.i2l, 1) := by decide +kernel
theorem dX7_restOf_38 : decode cX7_restOf 38 = .ok (.aload_n 0, 1) := by decide +kernel
theorem dX7_restOf_39 : decode cX7_restOf 39 = .ok (.getfield 159, 3) := by decide +kernel
theorem dX7_restOf_42 : decode cX7_restOf 42 = .ok (.lmul, 1) := by decide +kernel
theorem dX7_restOf_43 : decode cX7_restOf 43 = .ok (.aload_n 0, 1) := by decide +kernel
theorem dX7_restOf_44 : decode cX7_restOf 44 = .ok (.invokevirtual 192, 3) := by decide +kernel
theorem dX7_restOf_47 : decode cX7_restOf 47 = .ok (.lsub, 1) := by decide +kernel
theorem dX7_restOf_48 : decode cX7_restOf 48 = .ok (.goto 4, 3) := by decide +kernel
theorem dX7_restOf_51 : decode cX7_restOf 51 = .ok (.lconst 0, 1) := by decide +kernel
theorem dX7_restOf_52 : decode cX7_restOf 52 = .ok (.lreturn, 1) := by decide +kernel
theorem dX7_rest_0 : decode cX7_rest 0 = .ok (.aload_n 0, 1) := by decide +kernel
theorem dX7_rest_1 : decode cX7_rest 1 = .ok (.iconst 0, 1) := by decide +kernel
theorem dX7_rest_2 : decode cX7_rest 2 = .ok (.putfield 43, 3) := by decide +kernel
theorem dX7_rest_5 : decode cX7_rest 5 = .ok (.iload_n 1, 1) := by decide +kernel
theorem dX7_rest_6 : decode cX7_rest 6 = .ok (.iconst 0, 1) := by decide +kernel
theorem dX7_rest_7 : decode cX7_rest 7 = .ok (.aload_n 0, 1) := by decide +kernel
theorem dX7_rest_8 : decode cX7_rest 8 = .ok (.invokevirtual 58, 3) := by decide +kernel
theorem dX7_rest_11 : decode cX7_rest 11 = .ok (.iconst 1, 1) := by decide +kernel
theorem dX7_rest_12 : decode cX7_rest 12 = .ok (.isub, 1) := by decide +kernel
theorem dX7_rest_13 : decode cX7_rest 13 = .ok (.invokestatic 50, 3) := by decide +kernel
theorem dX7_rest_16 : decode cX7_rest 16 = .ok (.ifCond .ne 7, 3) := by decide +kernel
theorem dX7_rest_19 : decode cX7_rest 19 = .ok (.ldc2_w 181, 3) := by decide +kernel
theorem dX7_rest_22 : decode cX7_rest 22 = .ok (.lreturn, 1) := by decide +kernel
theorem dX7_rest_23 : decode cX7_rest 23 = .ok (.aload_n 0, 1) := by decide +kernel
theorem dX7_rest_24 : decode cX7_rest 24 = .ok (.invokevirtual 183, 3) := by decide +kernel
theorem dX7_rest_27 : decode cX7_rest 27 = .ok (.aload_n 0, 1) := by decide +kernel
theorem dX7_rest_28 : decode cX7_rest 28 = .ok (.iload_n 1, 1) := by decide +kernel
theorem dX7_rest_29 : decode cX7_rest 29 = .ok (.invokevirtual 202, 3) := by decide +kernel
theorem dX7_rest_32 : decode cX7_rest 32 = .ok (.lstore_n 3, 1) := by decide +kernel
theorem dX7_rest_33 : decode cX7_rest 33 = .ok (.lload_n 3, 1) := by decide +kernel
theorem dX7_rest_34 : decode cX7_rest 34 = .ok (.aload_n 0, 1) := by decide +kernel
theorem dX7_rest_35 : decode cX7_rest 35 = .ok (.getfield 159, 3) := by decide +kernel
theorem dX7_rest_38 : decode cX7_rest 38 = .ok (.iload_n 2, 1) := by decide +kernel
theorem dX7_rest_39 : decode cX7_rest 39 = .ok (.invokestatic 196, 3) := by decide +kernel
theorem dX7_rest_42 : decode cX7_rest 42 = .ok (.lreturn, 1) := by decide +kernel
theorem dX7_sumsUp_0 : decode cX7_sumsUp 0 = .ok (.aload_n 0, 1) := by decide +kernel
theorem dX7_sumsUp_1 : decode cX7_sumsUp 1 = .ok (.invokevirtual 183, 3) := by decide +kernel
theorem dX7_sumsUp_4 : decode cX7_sumsUp 4 = .ok (.iconst 0, 1) := by decide +kernel
theorem dX7_sumsUp_5 : decode cX7_sumsUp 5 = .ok (.istore_n 1, 1) := by decide +kernel
theorem dX7_sumsUp_6 : decode cX7_sumsUp 6 = .ok (.iload_n 1, 1) := by decide +kernel
theorem dX7_sumsUp_7 : decode cX7_sumsUp 7 = .ok (.aload_n 0, 1) := by decide +kernel
theorem dX7_sumsUp_8 : decode cX7_sumsUp 8 = .ok (.getfield 146, 3) := by decide +kernel
theorem dX7_sumsUp_11 : decode cX7_sumsUp 11 = .ok (.if_icmp .ge 67, 3) := by decide +kernel
theorem dX7_sumsUp_14 : decode cX7_sumsUp 14 = .ok (.iconst 0, 1) := by decide +kernel
theorem dX7_sumsUp_15 : decode cX7_sumsUp 15 = .ok (.istore_n 2, 1) := by decide +kernel
theorem dX7_sumsUp_16 : decode cX7_sumsUp 16 = .ok (.iload_n 2, 1) := by decide +kernel
theorem dX7_sumsUp_17 : decode cX7_sumsUp 17 = .ok (.aload_n 0, 1) := by decide +kernel
theorem dX7_sumsUp_18 : decode cX7_sumsUp 18 = .ok (.getfield 146, 3) := by decide +kernel
theorem dX7_sumsUp_21 : decode cX7_sumsUp 21 = .ok (.if_icmp .ge 31, 3) := by decide +kernel
theorem dX7_sumsUp_24 : decode cX7_sumsUp 24 = .ok (.aload_n 0, 1) := by decide +kernel
theorem dX7_sumsUp_25 : decode cX7_sumsUp 25 = .ok (.getfield 34, 3) := by decide +kernel
theorem dX7_sumsUp_28 : decode cX7_sumsUp 28 = .ok (.bipush 8, 2) := by decide +kernel
theorem dX7_sumsUp_30 : decode cX7_sumsUp 30 = .ok (.iload_n 1, 1) := by decide +kernel
theorem dX7_sumsUp_31 : decode cX7_sumsUp 31 = .ok (.imul, 1) := by decide +kernel
theorem dX7_sumsUp_32 : decode cX7_sumsUp 32 = .ok (.iload_n 2, 1) := by decide +kernel
theorem dX7_sumsUp_33 : decode cX7_sumsUp 33 = .ok (.iadd, 1) := by decide +kernel
theorem dX7_sumsUp_34 : decode cX7_sumsUp 34 = .ok (.aload_n 0, 1) := by decide +kernel
theorem dX7_sumsUp_35 : decode cX7_sumsUp 35 = .ok (.getfield 27, 3) := by decide +kernel
theorem dX7_sumsUp_38 : decode cX7_sumsUp 38 = .ok (.bipush 7, 2) := by decide +kernel
theorem dX7_sumsUp_40 : decode cX7_sumsUp 40 = .ok (.iload_n 1, 1) := by decide +kernel
theorem dX7_sumsUp_41 : decode cX7_sumsUp 41 = .ok (.imul, 1) := by decide +kernel
theorem dX7_sumsUp_42 : decode cX7_sumsUp 42 = .ok (.iload_n 2, 1) := by decide +kernel
theorem dX7_sumsUp_43 : decode cX7_sumsUp 43 = .ok (.iadd, 1) := by decide +kernel
theorem dX7_sumsUp_44 : decode cX7_sumsUp 44 = .ok (.laload, 1) := by decide +kernel
theorem dX7_sumsUp_45 : decode cX7_sumsUp 45 = .ok (.lastore, 1) := by decide +kernel
theorem dX7_sumsUp_46 : decode cX7_sumsUp 46 = .ok (.iinc 2 1, 3) := by decide +kernel
theorem dX7_sumsUp_49 : decode cX7_sumsUp 49 = .ok (.goto (-33), 3) := by decide +kernel
theorem dX7_sumsUp_52 : decode cX7_sumsUp 52 = .ok (.aload_n 0, 1) := by decide +kernel
theorem dX7_sumsUp_53 : decode cX7_sumsUp 53 = .ok (.getfield 34, 3) := by decide +kernel
theorem dX7_sumsUp_56 : decode cX7_sumsUp 56 = .ok (.bipush 8, 2) := by decide +kernel
theorem dX7_sumsUp_58 : decode cX7_sumsUp 58 = .ok (.iload_n 1, 1) := by decide +kernel
theorem dX7_sumsUp_59 : decode cX7_sumsUp 59 = .ok (.imul, 1) := by decide +kernel
theorem dX7_sumsUp_60 : decode cX7_sumsUp 60 = .ok (.aload_n 0, 1) := by decide +kernel
theorem dX7_sumsUp_61 : decode cX7_sumsUp 61 = .ok (.getfield 146, 3) := by decide +kernel
theorem dX7_sumsUp_64 : decode cX7_sumsUp 64 = .ok (.iadd, 1) := by decide +kernel
theorem dX7_sumsUp_65 : decode cX7_sumsUp 65 = .ok (.aload_n 0, 1) := by decide +kernel
theorem dX7_sumsUp_66 : decode cX7_sumsUp 66 = .ok (.getfield 31, 3) := by decide +kernel
theorem dX7_sumsUp_69 : decode cX7_sumsUp 69 = .ok (.iload_n 1, 1) := by decide +kernel
theorem dX7_sumsUp_70 : decode cX7_sumsUp 70 = .ok (.laload, 1) := by decide +kernel
theorem dX7_sumsUp_71 : decode cX7_sumsUp 71 = .ok (.lastore, 1) := by decide +kernel
theorem dX7_sumsUp_72 : decode cX7_sumsUp 72 = .ok (.iinc 1 1, 3) := by decide +kernel
theorem dX7_sumsUp_75 : decode cX7_sumsUp 75 = .ok (.goto (-69), 3) := by decide +kernel
theorem dX7_sumsUp_78 : decode cX7_sumsUp 78 = .ok (.aload_n 0, 1) := by decide +kernel
theorem dX7_sumsUp_79 : decode cX7_sumsUp 79 = .ok (.invokevirtual 170, 3) := by decide +kernel
theorem dX7_sumsUp_82 : decode cX7_sumsUp 82 = .ok (.istore_n 1, 1) := by decide +kernel
theorem dX7_sumsUp_83 : decode cX7_sumsUp 83 = .ok (.lconst 0, 1) := by decide +kernel
theorem dX7_sumsUp_84 : decode cX7_sumsUp 84 = .ok (.lstore_n 2, 1) := by decide +kernel
theorem dX7_sumsUp_85 : decode cX7_sumsUp 85 = .ok (.iconst 0, 1) := by decide +kernel
theorem dX7_sumsUp_86 : decode cX7_sumsUp 86 = .ok (.istore 4, 2) := by decide +kernel
theorem dX7_sumsUp_88 : decode cX7_sumsUp 88 = .ok (.iload 4, 2) := by decide +kernel
theorem dX7_sumsUp_90 : decode cX7_sumsUp 90 = .ok (.aload_n 0, 1) := by decide +kernel
theorem dX7_sumsUp_91 : decode cX7_sumsUp 91 = .ok (.invokevirtual 58, 3) := by decide +kernel
theorem dX7_sumsUp_94 : decode cX7_sumsUp 94 = .ok (.if_icmp .ge 33, 3) := by decide +kernel
theorem dX7_sumsUp_97 : decode cX7_sumsUp 97 = .ok (.iload_n 1, 1) := by decide +kernel
theorem dX7_sumsUp_98 : decode cX7_sumsUp 98 = .ok (.ifCond .eq 29, 3) := by decide +kernel
theorem dX7_sumsUp_101 : decode cX7_sumsUp 101 = .ok (.lload_n 2, 1) := by decide +kernel
theorem dX7_sumsUp_102 : decode cX7_sumsUp 102 = .ok (.aload_n 0, 1) := by decide +kernel
theorem dX7_sumsUp_103 : decode cX7_sumsUp 103 = .ok (.iload 4, 2) := by decide +kernel
theorem dX7_sumsUp_105 : decode cX7_sumsUp 105 = .ok (.iconst 2, 1) := by decide +kernel
theorem dX7_sumsUp_106 : decode cX7_sumsUp 106 = .ok (.invokevirtual 73, 3) := by decide +kernel
theorem dX7_sumsUp_109 : decode cX7_sumsUp 109 = .ok (.i2l, 1) := by decide +kernel
theorem dX7_sumsUp_110 : decode cX7_sumsUp 110 = .ok (.aload_n 0, 1) := by decide +kernel
theorem dX7_sumsUp_111 : decode cX7_sumsUp 111 = .ok (.iload 4, 2) := by decide +kernel
theorem dX7_sumsUp_113 : decode cX7_sumsUp 113 = .ok (.iconst 2, 1) := by decide +kernel
theorem dX7_sumsUp_114 : decode cX7_sumsUp 114 = .ok (.invokevirtual 73, 3) := by decide +kernel
theorem dX7_sumsUp_117 : decode cX7_sumsUp 117 = .ok (.i2l, 1) := by decide +kernel
theorem dX7_sumsUp_118 : decode cX7_sumsUp 118 = .ok (.lmul, 1) := by decide +kernel
theorem dX7_sumsUp_119 : decode cX7_sumsUp 119 = .ok (.ladd, 1) := by decide +kernel
theorem dX7_sumsUp_120 : decode cX7_sumsUp 120 = .ok (.lstore_n 2, 1) := by decide +kernel
theorem dX7_sumsUp_121 : decode cX7_sumsUp 121 = .ok (.iinc 4 1, 3) := by decide +kernel
theorem dX7_sumsUp_124 : decode cX7_sumsUp 124 = .ok (.goto (-36), 3) := by decide +kernel
theorem dX7_sumsUp_127 : decode cX7_sumsUp 127 = .ok (.aload_n 0, 1) := by decide +kernel
theorem dX7_sumsUp_128 : decode cX7_sumsUp 128 = .ok (.lload_n 2, 1) := by decide +kernel
theorem dX7_sumsUp_129 : decode cX7_sumsUp 129 = .ok (.aload_n 0, 1) := by decide +kernel
theorem dX7_sumsUp_130 : decode cX7_sumsUp 130 = .ok (.getfield 159, 3) := by decide +kernel
theorem dX7_sumsUp_133 : decode cX7_sumsUp 133 = .ok (.lmul, 1) := by decide +kernel
theorem dX7_sumsUp_134 : decode cX7_sumsUp 134 = .ok (.aload_n 0, 1) := by decide +kernel
theorem dX7_sumsUp_135 : decode cX7_sumsUp 135 = .ok (.invokevirtual 192, 3) := by decide +kernel
theorem dX7_sumsUp_138 : decode cX7_sumsUp 138 = .ok (.lsub, 1) := by decide +kernel
theorem dX7_sumsUp_139 : decode cX7_sumsUp 139 = .ok (.putfield 206, 3) := by decide +kernel
theorem dX7_sumsUp_142 : decode cX7_sumsUp 142 = .ok (.return_, 1) := by decide +kernel
theorem dX7_sum_0 : decode cX7_sum 0 = .ok (.aload_n 0, 1) := by decide +kernel
theorem dX7_sum_1 : decode cX7_sum 1 = .ok (.iconst 0, 1) := by decide +kernel
theorem dX7_sum_2 : decode cX7_sum 2 = .ok (.putfield 43, 3) := by decide +kernel
theorem dX7_sum_5 : decode cX7_sum 5 = .ok (.aload_n 0, 1) := by decide +kernel
theorem dX7_sum_6 : decode cX7_sum 6 = .ok (.invokevirtual 209, 3) := by decide +kernel
theorem dX7_sum_9 : decode cX7_sum 9 = .ok (.aload_n 0, 1) := by decide +kernel
theorem dX7_sum_10 : decode cX7_sum 10 = .ok (.getfield 206, 3) := by decide +kernel
theorem dX7_sum_13 : decode cX7_sum 13 = .ok (.aload_n 0, 1) := by decide +kernel
theorem dX7_sum_14 : decode cX7_sum 14 = .ok (.getfield 159, 3) := by decide +kernel
theorem dX7_sum_17 : decode cX7_sum 17 = .ok (.iload_n 1, 1) := by decide +kernel
theorem dX7_sum_18 : decode cX7_sum 18 = .ok (.invokestatic 196, 3) := by decide +kernel
theorem dX7_sum_21 : decode cX7_sum 21 = .ok (.lreturn, 1) := by decide +kernel
theorem dX7_guess_0 : decode cX7_guess 0 = .ok (.aload_n 0, 1) := by decide +kernel
theorem dX7_guess_1 : decode cX7_guess 1 = .ok (.iconst 0, 1) := by decide +kernel
theorem dX7_guess_2 : decode cX7_guess 2 = .ok (.putfield 43, 3) := by decide +kernel
theorem dX7_guess_5 : decode cX7_guess 5 = .ok (.aload_n 0, 1) := by decide +kernel
theorem dX7_guess_6 : decode cX7_guess 6 = .ok (.iload_n 1, 1) := by decide +kernel
theorem dX7_guess_7 : decode cX7_guess 7 = .ok (.iload_n 2, 1) := by decide +kernel
theorem dX7_guess_8 : decode cX7_guess 8 = .ok (.invokevirtual 61, 3) := by decide +kernel
theorem dX7_guess_11 : decode cX7_guess 11 = .ok (.ifCond .eq 12, 3) := by decide +kernel
theorem dX7_guess_14 : decode cX7_guess 14 = .ok (.iload_n 3, 1) := by decide +kernel
theorem dX7_guess_15 : decode cX7_guess 15 = .ok (.iconst (-1), 1) := by decide +kernel
theorem dX7_guess_16 : decode cX7_guess 16 = .ok (.iconst 1, 1) := by decide +kernel
theorem dX7_guess_17 : decode cX7_guess 17 = .ok (.invokestatic 50, 3) := by decide +kernel
theorem dX7_guess_20 : decode cX7_guess 20 = .ok (.ifCond .ne 7, 3) := by decide +kernel
theorem dX7_guess_23 : decode cX7_guess 23 = .ok (.ldc2_w 181, 3) := by decide +kernel
theorem dX7_guess_26 : decode cX7_guess 26 = .ok (.lreturn, 1) := by decide +kernel
theorem dX7_guess_27 : decode cX7_guess 27 = .ok (.aload_n 0, 1) := by decide +kernel
theorem dX7_guess_28 : decode cX7_guess 28 = .ok (.invokevirtual 183, 3) := by decide +kernel
theorem dX7_guess_31 : decode cX7_guess 31 = .ok (.aload_n 0, 1) := by decide +kernel
theorem dX7_guess_32 : decode cX7_guess 32 = .ok (.iload_n 1, 1) := by decide +kernel
theorem dX7_guess_33 : decode cX7_guess 33 = .ok (.iload_n 2, 1) := by decide +kernel
theorem dX7_guess_34 : decode cX7_guess 34 = .ok (.iload_n 3, 1) := by decide +kernel
theorem dX7_guess_35 : decode cX7_guess 35 = .ok (.invokevirtual 149, 3) := by decide +kernel
theorem dX7_guess_38 : decode cX7_guess 38 = .ok (.aload_n 0, 1) := by decide +kernel
theorem dX7_guess_39 : decode cX7_guess 39 = .ok (.invokevirtual 189, 3) := by decide +kernel
theorem dX7_guess_42 : decode cX7_guess 42 = .ok (.ifCond .eq 31, 3) := by decide +kernel
theorem dX7_guess_45 : decode cX7_guess 45 = .ok (.iload 4, 2) := by decide +kernel
theorem dX7_guess_47 : decode cX7_guess 47 = .ok (.ifCond .eq 10, 3) := by decide +kernel
theorem dX7_guess_50 : decode cX7_guess 50 = .ok (.aload_n 0, 1) := by decide +kernel
theorem dX7_guess_51 : decode cX7_guess 51 = .ok (.invokevirtual 199, 3) := by decide +kernel
theorem dX7_guess_54 : decode cX7_guess 54 = .ok (.goto 7, 3) := by decide +kernel
theorem dX7_guess_57 : decode cX7_guess 57 = .ok (.aload_n 0, 1) := by decide +kernel
theorem dX7_guess_58 : decode cX7_guess 58 = .ok (.invokevirtual 192, 3) := by decide +kernel
theorem dX7_guess_61 : decode cX7_guess 61 = .ok (.aload_n 0, 1) := by decide +kernel
theorem dX7_guess_62 : decode cX7_guess 62 = .ok (.getfield 159, 3) := by decide +kernel
theorem dX7_guess_65 : decode cX7_guess 65 = .ok (.iload 5, 2) := by decide +kernel
theorem dX7_guess_67 : decode cX7_guess 67 = .ok (.invokestatic 196, 3) := by decide +kernel
theorem dX7_guess_70 : decode cX7_guess 70 = .ok (.goto 6, 3) := by decide +kernel
theorem dX7_guess_73 : decode cX7_guess 73 = .ok (.ldc2_w 181, 3) := by decide +kernel
theorem dX7_guess_76 : decode cX7_guess 76 = .ok (.lreturn, 1) := by decide +kernel
theorem dX7_isAhead_0 : decode cX7_isAhead 0 = .ok (.aload_n 0, 1) := by decide +kernel
theorem dX7_isAhead_1 : decode cX7_isAhead 1 = .ok (.iload_n 1, 1) := by decide +kernel
theorem dX7_isAhead_2 : decode cX7_isAhead 2 = .ok (.iload_n 2, 1) := by decide +kernel
theorem dX7_isAhead_3 : decode cX7_isAhead 3 = .ok (.invokevirtual 186, 3) := by decide +kernel
theorem dX7_isAhead_6 : decode cX7_isAhead 6 = .ok (.aload_n 0, 1) := by decide +kernel
theorem dX7_isAhead_7 : decode cX7_isAhead 7 = .ok (.invokevirtual 189, 3) := by decide +kernel
theorem dX7_isAhead_10 : decode cX7_isAhead 10 = .ok (.ifCond .eq 12, 3) := by decide +kernel
theorem dX7_isAhead_13 : decode cX7_isAhead 13 = .ok (.aload_n 0, 1) := by decide +kernel
theorem dX7_isAhead_14 : decode cX7_isAhead 14 = .ok (.invokevirtual 192, 3) := by decide +kernel
theorem dX7_isAhead_17 : decode cX7_isAhead 17 = .ok (.lconst 0, 1) := by decide +kernel
theorem dX7_isAhead_18 : decode cX7_isAhead 18 = .ok (.lcmp, 1) := by decide +kernel
theorem dX7_isAhead_19 : decode cX7_isAhead 19 = .ok (.ifCond .gt 5, 3) := by decide +kernel
theorem dX7_isAhead_22 : decode cX7_isAhead 22 = .ok (.iconst 0, 1) := by decide +kernel
theorem dX7_isAhead_23 : decode cX7_isAhead 23 = .ok (.ireturn, 1) := by decide +kernel
theorem dX7_isAhead_24 : decode cX7_isAhead 24 = .ok (.aload_n 0, 1) := by decide +kernel
theorem dX7_isAhead_25 : decode cX7_isAhead 25 = .ok (.invokevirtual 192, 3) := by decide +kernel
theorem dX7_isAhead_28 : decode cX7_isAhead 28 = .ok (.aload_n 0, 1) := by decide +kernel
theorem dX7_isAhead_29 : decode cX7_isAhead 29 = .ok (.getfield 7, 3) := by decide +kernel
theorem dX7_isAhead_32 : decode cX7_isAhead 32 = .ok (.iconst 1, 1) := by decide +kernel
theorem dX7_isAhead_33 : decode cX7_isAhead 33 = .ok (.iaload, 1) := by decide +kernel
theorem dX7_isAhead_34 : decode cX7_isAhead 34 = .ok (.i2l, 1) := by decide +kernel
theorem dX7_isAhead_35 : decode cX7_isAhead 35 = .ok (.aload_n 0, 1) := by decide +kernel
theorem dX7_isAhead_36 : decode cX7_isAhead 36 = .ok (.invokevirtual 199, 3) := by decide +kernel
theorem dX7_isAhead_39 : decode cX7_isAhead 39 = .ok (.lmul, 1) := by decide +kernel
theorem dX7_isAhead_40 : decode cX7_isAhead 40 = .ok (.lcmp, 1) := by decide +kernel
theorem dX7_isAhead_41 : decode cX7_isAhead 41 = .ok (.ifCond .le 7, 3) := by decide +kernel
theorem dX7_isAhead_44 : decode cX7_isAhead 44 = .ok (.iconst 2, 1) := by decide +kernel
theorem dX7_isAhead_45 : decode cX7_isAhead 45 = .ok (.goto 4, 3) := by decide +kernel
theorem dX7_isAhead_48 : decode cX7_isAhead 48 = .ok (.iconst 1, 1) := by decide +kernel
theorem dX7_isAhead_49 : decode cX7_isAhead 49 = .ok (.ireturn, 1) := by decide +kernel
theorem dX7_groupOf_0 : decode cX7_groupOf 0 = .ok (.iconst 0, 1) := by decide +kernel
theorem dX7_groupOf_1 : decode cX7_groupOf 1 = .ok (.istore_n 2, 1) := by decide +kernel
theorem dX7_groupOf_2 : decode cX7_groupOf 2 = .ok (.iconst 0, 1) := by decide +kernel
theorem dX7_groupOf_3 : decode cX7_groupOf 3 = .ok (.istore_n 3, 1) := by decide +kernel
theorem dX7_groupOf_4 : decode cX7_groupOf 4 = .ok (.iload_n 3, 1) := by decide +kernel
theorem dX7_groupOf_5 : decode cX7_groupOf 5 = .ok (.aload_n 0, 1) := by decide +kernel
theorem dX7_groupOf_6 : decode cX7_groupOf 6 = .ok (.invokevirtual 46, 3) := by decide +kernel
theorem dX7_groupOf_9 : decode cX7_groupOf 9 = .ok (.if_icmp .ge 32, 3) := by decide +kernel
theorem dX7_groupOf_12 : decode cX7_groupOf 12 = .ok (.aload_n 0, 1) := by decide +kernel
theorem dX7_groupOf_13 : decode cX7_groupOf 13 = .ok (.iload_n 1, 1) := by decide +kernel
theorem dX7_groupOf_14 : decode cX7_groupOf 14 = .ok (.iload_n 3, 1) := by decide +kernel
theorem dX7_groupOf_15 : decode cX7_groupOf 15 = .ok (.invokevirtual 186, 3) := by decide +kernel
theorem dX7_groupOf_18 : decode cX7_groupOf 18 = .ok (.iload_n 2, 1) := by decide +kernel
theorem dX7_groupOf_19 : decode cX7_groupOf 19 = .ok (.aload_n 0, 1) := by decide +kernel
theorem dX7_groupOf_20 : decode cX7_groupOf 20 = .ok (.invokevirtual 189, 3) := by decide +kernel
theorem dX7_groupOf_23 : decode cX7_groupOf 23 = .ok (.ifCond .eq 9, 3) := by decide +kernel
theorem dX7_groupOf_26 : decode cX7_groupOf 26 = .ok (.iconst 1, 1) := by decide +kernel
theorem dX7_groupOf_27 : decode cX7_groupOf 27 = .ok (.iload_n 3, 1) := by decide +kernel
theorem dX7_groupOf_28 : decode cX7_groupOf 28 = .ok (.ishl, 1) := by decide +kernel
theorem dX7_groupOf_29 : decode cX7_groupOf 29 = .ok (.goto 4, 3) := by decide +kernel
theorem dX7_groupOf_32 : decode cX7_groupOf 32 = .ok (.iconst 0, 1) := by decide +kernel
theorem dX7_groupOf_33 : decode cX7_groupOf 33 = .ok (.ior, 1) := by decide +kernel
theorem dX7_groupOf_34 : decode cX7_groupOf 34 = .ok (.istore_n 2, 1) := by decide +kernel
theorem dX7_groupOf_35 : decode cX7_groupOf 35 = .ok (.iinc 3 1, 3) := by decide +kernel
theorem dX7_groupOf_38 : decode cX7_groupOf 38 = .ok (.goto (-34), 3) := by decide +kernel
theorem dX7_groupOf_41 : decode cX7_groupOf 41 = .ok (.iload_n 2, 1) := by decide +kernel
theorem dX7_groupOf_42 : decode cX7_groupOf 42 = .ok (.ireturn, 1) := by decide +kernel
theorem dX7_rank_0 : decode cX7_rank 0 = .ok (.aload_n 0, 1) := by decide +kernel
theorem dX7_rank_1 : decode cX7_rank 1 = .ok (.iconst 0, 1) := by decide +kernel
theorem dX7_rank_2 : decode cX7_rank 2 = .ok (.putfield 43, 3) := by decide +kernel
theorem dX7_rank_5 : decode cX7_rank 5 = .ok (.aload_n 0, 1) := by decide +kernel
theorem dX7_rank_6 : decode cX7_rank 6 = .ok (.iload_n 1, 1) := by decide +kernel
theorem dX7_rank_7 : decode cX7_rank 7 = .ok (.invokevirtual 113, 3) := by decide +kernel
theorem dX7_rank_10 : decode cX7_rank 10 = .ok (.ifCond .eq 12, 3) := by decide +kernel
theorem dX7_rank_13 : decode cX7_rank 13 = .ok (.iload_n 2, 1) := by decide +kernel
theorem dX7_rank_14 : decode cX7_rank 14 = .ok (.iconst 0, 1) := by decide +kernel
theorem dX7_rank_15 : decode cX7_rank 15 = .ok (.iconst 3, 1) := by decide +kernel
theorem dX7_rank_16 : decode cX7_rank 16 = .ok (.invokestatic 50, 3) := by decide +kernel
theorem dX7_rank_19 : decode cX7_rank 19 = .ok (.ifCond .ne 5, 3) := by decide +kernel
theorem dX7_rank_22 : decode cX7_rank 22 = .ok (.iconst (-1), 1) := by decide +kernel
theorem dX7_rank_23 : decode cX7_rank 23 = .ok (.ireturn, 1) := by decide +kernel
theorem dX7_rank_24 : decode cX7_rank 24 = .ok (.aload_n 0, 1) := by decide +kernel
theorem dX7_rank_25 : decode cX7_rank 25 = .ok (.invokevirtual 183, 3) := by decide +kernel
theorem dX7_rank_28 : decode cX7_rank 28 = .ok (.iload_n 2, 1) := by decide +kernel
theorem dX7_rank_29 : decode cX7_rank 29 = .ok (.iconst 3, 1) := by decide +kernel
theorem dX7_rank_30 : decode cX7_rank 30 = .ok (.if_icmp .ne 9, 3) := by decide +kernel
theorem dX7_rank_33 : decode cX7_rank 33 = .ok (.aload_n 0, 1) := by decide +kernel
theorem dX7_rank_34 : decode cX7_rank 34 = .ok (.iload_n 1, 1) := by decide +kernel
theorem dX7_rank_35 : decode cX7_rank 35 = .ok (.invokevirtual 212, 3) := by decide +kernel
theorem dX7_rank_38 : decode cX7_rank 38 = .ok (.ireturn, 1) := by decide +kernel
theorem dX7_rank_39 : decode cX7_rank 39 = .ok (.iconst 0, 1) := by decide +kernel
theorem dX7_rank_40 : decode cX7_rank 40 = .ok (.istore_n 3, 1) := by decide +kernel
theorem dX7_rank_41 : decode cX7_rank 41 = .ok (.iconst 0, 1) := by decide +kernel
theorem dX7_rank_42 : decode cX7_rank 42 = .ok (.istore 4, 2) := by decide +kernel
theorem dX7_rank_44 : decode cX7_rank 44 = .ok (.iload 4, 2) := by decide +kernel
theorem dX7_rank_46 : decode cX7_rank 46 = .ok (.aload_n 0, 1) := by decide +kernel
theorem dX7_rank_47 : decode cX7_rank 47 = .ok (.invokevirtual 46, 3) := by decide +kernel
theorem dX7_rank_50 : decode cX7_rank 50 = .ok (.if_icmp .ge 65, 3) := by decide +kernel
theorem dX7_rank_53 : decode cX7_rank 53 = .ok (.iload 4, 2) := by decide +kernel
theorem dX7_rank_55 : decode cX7_rank 55 = .ok (.iload_n 1, 1) := by decide +kernel
theorem dX7_rank_56 : decode cX7_rank 56 = .ok (.if_icmp .ne 7, 3) := by decide +kernel
theorem dX7_rank_59 : decode cX7_rank 59 = .ok (.iconst 0, 1) := by decide +kernel
theorem dX7_rank_60 : decode cX7_rank 60 = .ok (.goto 25, 3) := by decide +kernel
theorem dX7_rank_63 : decode cX7_rank 63 = .ok (.iload_n 2, 1) := by decide +kernel
theorem dX7_rank_64 : decode cX7_rank 64 = .ok (.iconst 2, 1) := by decide +kernel
theorem dX7_rank_65 : decode cX7_rank 65 = .ok (.if_icmp .ne 13, 3) := by decide +kernel
theorem dX7_rank_68 : decode cX7_rank 68 = .ok (.aload_n 0, 1) := by decide +kernel
theorem dX7_rank_69 : decode cX7_rank 69 = .ok (.iload_n 1, 1) := by decide +kernel
theorem dX7_rank_70 : decode cX7_rank 70 = .ok (.iload 4, 2) := by decide +kernel
theorem dX7_rank_72 : decode cX7_rank 72 = .ok (.invokevirtual 215, 3) := by decide +kernel
theorem dX7_rank_75 : decode cX7_rank 75 = .ok (.goto 10, 3) := by decide +kernel
theorem dX7_rank_78 : decode cX7_rank 78 = .ok (.aload_n 0, 1) := by decide +kernel
theorem dX7_rank_79 : decode cX7_rank 79 = .ok (.iload 4, 2) := by decide +kernel
theorem dX7_rank_81 : decode cX7_rank 81 = .ok (.iload_n 1, 1) := by decide +kernel
theorem dX7_rank_82 : decode cX7_rank 82 = .ok (.invokevirtual 215, 3) := by decide +kernel
theorem dX7_rank_85 : decode cX7_rank 85 = .ok (.istore 5, 2) := by decide +kernel
theorem dX7_rank_87 : decode cX7_rank 87 = .ok (.iload_n 3, 1) := by decide +kernel
theorem dX7_rank_88 : decode cX7_rank 88 = .ok (.iload 5, 2) := by decide +kernel
theorem dX7_rank_90 : decode cX7_rank 90 = .ok (.iload_n 2, 1) := by decide +kernel
theorem dX7_rank_91 : decode cX7_rank 91 = .ok (.ifCond .ne 7, 3) := by decide +kernel
theorem dX7_rank_94 : decode cX7_rank 94 = .ok (.iconst 0, 1) := by decide +kernel
theorem dX7_rank_95 : decode cX7_rank 95 = .ok (.goto 4, 3) := by decide +kernel
theorem dX7_rank_98 : decode cX7_rank 98 = .ok (.iconst 1, 1) := by decide +kernel
theorem dX7_rank_99 : decode cX7_rank 99 = .ok (.if_icmp .le 7, 3) := by decide +kernel
theorem dX7_rank_102 : decode cX7_rank 102 = .ok (.iconst 1, 1) := by decide +kernel
theorem dX7_rank_103 : decode cX7_rank 103 = .ok (.goto 4, 3) := by decide +kernel
theorem dX7_rank_106 : decode cX7_rank 106 = .ok (.iconst 0, 1) := by decide +kernel
theorem dX7_rank_107 : decode cX7_rank 107 = .ok (.iadd, 1) := by decide +kernel
theorem dX7_rank_108 : decode cX7_rank 108 = .ok (.istore_n 3, 1) := by decide +kernel
theorem dX7_rank_109 : decode cX7_rank 109 = .ok (.iinc 4 1, 3) := by decide +kernel
theorem dX7_rank_112 : decode cX7_rank 112 = .ok (.goto (-68), 3) := by decide +kernel
theorem dX7_rank_115 : decode cX7_rank 115 = .ok (.iload_n 3, 1) := by decide +kernel
theorem dX7_rank_116 : decode cX7_rank 116 = .ok (.ireturn, 1) := by decide +kernel
theorem dX7_couples_0 : decode cX7_couples 0 = .ok (.iconst 0, 1) := by decide +kernel
theorem dX7_couples_1 : decode cX7_couples 1 = .ok (.istore_n 1, 1) := by decide +kernel
theorem dX7_couples_2 : decode cX7_couples 2 = .ok (.aload_n 0, 1) := by decide +kernel
theorem dX7_couples_3 : decode cX7_couples 3 = .ok (.lconst 0, 1) := by decide +kernel
theorem dX7_couples_4 : decode cX7_couples 4 = .ok (.putfield 218, 3) := by decide +kernel
theorem dX7_couples_7 : decode cX7_couples 7 = .ok (.aload_n 0, 1) := by decide +kernel
theorem dX7_couples_8 : decode cX7_couples 8 = .ok (.invokevirtual 143, 3) := by decide +kernel
theorem dX7_couples_11 : decode cX7_couples 11 = .ok (.aload_n 0, 1) := by decide +kernel
theorem dX7_couples_12 : decode cX7_couples 12 = .ok (.invokevirtual 189, 3) := by decide +kernel
theorem dX7_couples_15 : decode cX7_couples 15 = .ok (.istore_n 2, 1) := by decide +kernel
theorem dX7_couples_16 : decode cX7_couples 16 = .ok (.iconst 0, 1) := by decide +kernel
theorem dX7_couples_17 : decode cX7_couples 17 = .ok (.istore_n 3, 1) := by decide +kernel
theorem dX7_couples_18 : decode cX7_couples 18 = .ok (.iload_n 3, 1) := by decide +kernel
theorem dX7_couples_19 : decode cX7_couples 19 = .ok (.aload_n 0, 1) := by decide +kernel
theorem dX7_couples_20 : decode cX7_couples 20 = .ok (.invokevirtual 46, 3) := by decide +kernel
theorem dX7_couples_23 : decode cX7_couples 23 = .ok (.if_icmp .ge 66, 3) := by decide +kernel
theorem dX7_couples_26 : decode cX7_couples 26 = .ok (.iload_n 2, 1) := by decide +kernel
theorem dX7_couples_27 : decode cX7_couples 27 = .ok (.ifCond .eq 62, 3) := by decide +kernel
theorem dX7_couples_30 : decode cX7_couples 30 = .ok (.iload_n 3, 1) := by decide +kernel
theorem dX7_couples_31 : decode cX7_couples 31 = .ok (.iconst 1, 1) := by decide +kernel
theorem dX7_couples_32 : decode cX7_couples 32 = .ok (.iadd, 1) := by decide +kernel
theorem dX7_couples_33 : decode cX7_couples 33 = .ok (.istore 4, 2) := by decide +kernel
theorem dX7_couples_35 : decode cX7_couples 35 = .ok (.iload 4, 2) := by decide +kernel
theorem dX7_couples_37 : decode cX7_couples 37 = .ok (.aload_n 0, 1) := by decide +kernel
theorem dX7_couples_38 : decode cX7_couples 38 = .ok (.invokevirtual 46, 3) := by decide +kernel
theorem dX7_couples_41 : decode cX7_couples 41 = .ok (.if_icmp .ge 42, 3) := by decide +kernel
theorem dX7_couples_44 : decode cX7_couples 44 = .ok (.aload_n 0, 1) := by decide +kernel
theorem dX7_couples_45 : decode cX7_couples 45 = .ok (.iload_n 3, 1) := by decide +kernel
theorem dX7_couples_46 : decode cX7_couples 46 = .ok (.iload 4, 2) := by decide +kernel
theorem dX7_couples_48 : decode cX7_couples 48 = .ok (.invokevirtual 186, 3) := by decide +kernel
theorem dX7_couples_51 : decode cX7_couples 51 = .ok (.aload_n 0, 1) := by decide +kernel
theorem dX7_couples_52 : decode cX7_couples 52 = .ok (.invokevirtual 189, 3) := by decide +kernel
theorem dX7_couples_55 : decode cX7_couples 55 = .ok (.ifCond .ne 6, 3) := by decide +kernel
theorem dX7_couples_58 : decode cX7_couples 58 = .ok (.goto 19, 3) := by decide +kernel
theorem dX7_couples_61 : decode cX7_couples 61 = .ok (.iinc 1 1, 3) := by decide +kernel
theorem dX7_couples_64 : decode cX7_couples 64 = .ok (.aload_n 0, 1) := by decide +kernel
theorem dX7_couples_65 : decode cX7_couples 65 = .ok (.dup, 1) := by decide +kernel
theorem dX7_couples_66 : decode cX7_couples 66 = .ok (.getfield 218, 3) := by decide +kernel
theorem dX7_couples_69 : decode cX7_couples 69 = .ok (.aload_n 0, 1) := by decide +kernel
theorem dX7_couples_70 : decode cX7_couples 70 = .ok (.invokevirtual 199, 3) := by decide +kernel
theorem dX7_couples_73 : decode cX7_couples 73 = .ok (.ladd, 1) := by decide +kernel
theorem dX7_couples_74 : decode cX7_couples 74 = .ok (.putfield 218, 3) := by decide +kernel
theorem dX7_couples_77 : decode cX7_couples 77 = .ok (.iinc 4 1, 3) := by decide +kernel
theorem dX7_couples_80 : decode cX7_couples 80 = .ok (.goto (-45), 3) := by decide +kernel
theorem dX7_couples_83 : decode cX7_couples 83 = .ok (.iinc 3 1, 3) := by decide +kernel
theorem dX7_couples_86 : decode cX7_couples 86 = .ok (.goto (-68), 3) := by decide +kernel
theorem dX7_couples_89 : decode cX7_couples 89 = .ok (.iload_n 1, 1) := by decide +kernel
theorem dX7_couples_90 : decode cX7_couples 90 = .ok (.ireturn, 1) := by decide +kernel
theorem dX7_rankNow_0 : decode cX7_rankNow 0 = .ok (.aload_n 0, 1) := by decide +kernel
theorem dX7_rankNow_1 : decode cX7_rankNow 1 = .ok (.invokevirtual 143, 3) := by decide +kernel
theorem dX7_rankNow_4 : decode cX7_rankNow 4 = .ok (.aload_n 0, 1) := by decide +kernel
theorem dX7_rankNow_5 : decode cX7_rankNow 5 = .ok (.invokevirtual 189, 3) := by decide +kernel
theorem dX7_rankNow_8 : decode cX7_rankNow 8 = .ok (.istore_n 1, 1) := by decide +kernel
theorem dX7_rankNow_9 : decode cX7_rankNow 9 = .ok (.iload_n 1, 1) := by decide +kernel
theorem dX7_rankNow_10 : decode cX7_rankNow 10 = .ok (.ifCond .eq 10, 3) := by decide +kernel
theorem dX7_rankNow_13 : decode cX7_rankNow 13 = .ok (.aload_n 0, 1) := by decide +kernel
theorem dX7_rankNow_14 : decode cX7_rankNow 14 = .ok (.getfield 156, 3) := by decide +kernel
theorem dX7_rankNow_17 : decode cX7_rankNow 17 = .ok (.goto 4, 3) := by decide +kernel
theorem dX7_rankNow_20 : decode cX7_rankNow 20 = .ok (.iconst 0, 1) := by decide +kernel
theorem dX7_rankNow_21 : decode cX7_rankNow 21 = .ok (.ireturn, 1) := by decide +kernel
theorem dX7_groups_0 : decode cX7_groups 0 = .ok (.iconst 0, 1) := by decide +kernel
theorem dX7_groups_1 : decode cX7_groups 1 = .ok (.istore_n 1, 1) := by decide +kernel
theorem dX7_groups_2 : decode cX7_groups 2 = .ok (.iconst 0, 1) := by decide +kernel
theorem dX7_groups_3 : decode cX7_groups 3 = .ok (.istore_n 2, 1) := by decide +kernel
theorem dX7_groups_4 : decode cX7_groups 4 = .ok (.iload_n 2, 1) := by decide +kernel
theorem dX7_groups_5 : decode cX7_groups 5 = .ok (.aload_n 0, 1) := by decide +kernel
theorem dX7_groups_6 : decode cX7_groups 6 = .ok (.invokevirtual 46, 3) := by decide +kernel
theorem dX7_groups_9 : decode cX7_groups 9 = .ok (.if_icmp .ge 29, 3) := by decide +kernel
theorem dX7_groups_12 : decode cX7_groups 12 = .ok (.iload_n 1, 1) := by decide +kernel
theorem dX7_groups_13 : decode cX7_groups 13 = .ok (.aload_n 0, 1) := by decide +kernel
theorem dX7_groups_14 : decode cX7_groups 14 = .ok (.iload_n 2, 1) := by decide +kernel
theorem dX7_groups_15 : decode cX7_groups 15 = .ok (.invokevirtual 212, 3) := by decide +kernel
theorem dX7_groups_18 : decode cX7_groups 18 = .ok (.iconst 1, 1) := by decide +kernel
theorem dX7_groups_19 : decode cX7_groups 19 = .ok (.iload_n 2, 1) := by decide +kernel
theorem dX7_groups_20 : decode cX7_groups 20 = .ok (.ishl, 1) := by decide +kernel
theorem dX7_groups_21 : decode cX7_groups 21 = .ok (.irem, 1) := by decide +kernel
theorem dX7_groups_22 : decode cX7_groups 22 = .ok (.ifCond .ne 7, 3) := by decide +kernel
theorem dX7_groups_25 : decode cX7_groups 25 = .ok (.iconst 1, 1) := by decide +kernel
theorem dX7_groups_26 : decode cX7_groups 26 = .ok (.goto 4, 3) := by decide +kernel
theorem dX7_groups_29 : decode cX7_groups 29 = .ok (.iconst 0, 1) := by decide +kernel
theorem dX7_groups_30 : decode cX7_groups 30 = .ok (.iadd, 1) := by decide +kernel
theorem dX7_groups_31 : decode cX7_groups 31 = .ok (.istore_n 1, 1) := by decide +kernel
theorem dX7_groups_32 : decode cX7_groups 32 = .ok (.iinc 2 1, 3) := by decide +kernel
theorem dX7_groups_35 : decode cX7_groups 35 = .ok (.goto (-31), 3) := by decide +kernel
theorem dX7_groups_38 : decode cX7_groups 38 = .ok (.iload_n 1, 1) := by decide +kernel
theorem dX7_groups_39 : decode cX7_groups 39 = .ok (.ireturn, 1) := by decide +kernel
theorem dX7_count_0 : decode cX7_count 0 = .ok (.aload_n 0, 1) := by decide +kernel
theorem dX7_count_1 : decode cX7_count 1 = .ok (.iconst 0, 1) := by decide +kernel
theorem dX7_count_2 : decode cX7_count 2 = .ok (.putfield 43, 3) := by decide +kernel
theorem dX7_count_5 : decode cX7_count 5 = .ok (.aload_n 0, 1) := by decide +kernel
theorem dX7_count_6 : decode cX7_count 6 = .ok (.invokevirtual 183, 3) := by decide +kernel
theorem dX7_count_9 : decode cX7_count 9 = .ok (.iload_n 1, 1) := by decide +kernel
theorem dX7_count_10 : decode cX7_count 10 = .ok (.tableswitch 79 0 6 #[42, 47, 52, 59, 64, 69, 74], 42) := by decide +kernel
theorem dX7_count_52 : decode cX7_count 52 = .ok (.aload_n 0, 1) := by decide +kernel
theorem dX7_count_53 : decode cX7_count 53 = .ok (.invokevirtual 46, 3) := by decide +kernel
theorem dX7_count_56 : decode cX7_count 56 = .ok (.ireturn, 1) := by decide +kernel
theorem dX7_count_57 : decode cX7_count 57 = .ok (.aload_n 0, 1) := by decide +kernel
theorem dX7_count_58 : decode cX7_count 58 = .ok (.invokevirtual 58, 3) := by decide +kernel
theorem dX7_count_61 : decode cX7_count 61 = .ok (.ireturn, 1) := by decide +kernel
theorem dX7_count_62 : decode cX7_count 62 = .ok (.aload_n 0, 1) := by decide +kernel
theorem dX7_count_63 : decode cX7_count 63 = .ok (.getfield 7, 3) := by decide +kernel
theorem dX7_count_66 : decode cX7_count 66 = .ok (.iconst 1, 1) := by decide +kernel
theorem dX7_count_67 : decode cX7_count 67 = .ok (.iaload, 1) := by decide +kernel
theorem dX7_count_68 : decode cX7_count 68 = .ok (.ireturn, 1) := by decide +kernel
theorem dX7_count_69 : decode cX7_count 69 = .ok (.aload_n 0, 1) := by decide +kernel
theorem dX7_count_70 : decode cX7_count 70 = .ok (.getfield 77, 3) := by decide +kernel
theorem dX7_count_73 : decode cX7_count 73 = .ok (.ireturn, 1) := by decide +kernel
theorem dX7_count_74 : decode cX7_count 74 = .ok (.aload_n 0, 1) := by decide +kernel
theorem dX7_count_75 : decode cX7_count 75 = .ok (.invokevirtual 221, 3) := by decide +kernel
theorem dX7_count_78 : decode cX7_count 78 = .ok (.ireturn, 1) := by decide +kernel
theorem dX7_count_79 : decode cX7_count 79 = .ok (.aload_n 0, 1) := by decide +kernel
theorem dX7_count_80 : decode cX7_count 80 = .ok (.invokevirtual 224, 3) := by decide +kernel
theorem dX7_count_83 : decode cX7_count 83 = .ok (.ireturn, 1) := by decide +kernel
theorem dX7_count_84 : decode cX7_count 84 = .ok (.aload_n 0, 1) := by decide +kernel
theorem dX7_count_85 : decode cX7_count 85 = .ok (.invokevirtual 227, 3) := by decide +kernel
theorem dX7_count_88 : decode cX7_count 88 = .ok (.ireturn, 1) := by decide +kernel
theorem dX7_count_89 : decode cX7_count 89 = .ok (.iconst (-1), 1) := by decide +kernel
theorem dX7_count_90 : decode cX7_count 90 = .ok (.ireturn, 1) := by decide +kernel
theorem dX7_suit_0 : decode cX7_suit 0 = .ok (.aload_n 0, 1) := by decide +kernel
theorem dX7_suit_1 : decode cX7_suit 1 = .ok (.iconst 0, 1) := by decide +kernel
theorem dX7_suit_2 : decode cX7_suit 2 = .ok (.putfield 43, 3) := by decide +kernel
theorem dX7_suit_5 : decode cX7_suit 5 = .ok (.aload_n 0, 1) := by decide +kernel
theorem dX7_suit_6 : decode cX7_suit 6 = .ok (.iload_n 1, 1) := by decide +kernel
theorem dX7_suit_7 : decode cX7_suit 7 = .ok (.invokevirtual 113, 3) := by decide +kernel
theorem dX7_suit_10 : decode cX7_suit 10 = .ok (.ifCond .eq 16, 3) := by decide +kernel
theorem dX7_suit_13 : decode cX7_suit 13 = .ok (.aload_n 0, 1) := by decide +kernel
theorem dX7_suit_14 : decode cX7_suit 14 = .ok (.iload_n 2, 1) := by decide +kernel
theorem dX7_suit_15 : decode cX7_suit 15 = .ok (.invokevirtual 113, 3) := by decide +kernel
theorem dX7_suit_18 : decode cX7_suit 18 = .ok (.ifCond .eq 8, 3) := by decide +kernel
theorem dX7_suit_21 : decode cX7_suit 21 = .ok (.iload_n 1, 1) := by decide +kernel
theorem dX7_suit_22 : decode cX7_suit 22 = .ok (.iload_n 2, 1) := by decide +kernel
theorem dX7_suit_23 : decode cX7_suit 23 = .ok (.if_icmp .ne 7, 3) := by decide +kernel
theorem dX7_suit_26 : decode cX7_suit 26 = .ok (.ldc2_w 181, 3) := by decide +kernel
theorem dX7_suit_29 : decode cX7_suit 29 = .ok (.lreturn, 1) := by decide +kernel
theorem dX7_suit_30 : decode cX7_suit 30 = .ok (.aload_n 0, 1) := by decide +kernel
theorem dX7_suit_31 : decode cX7_suit 31 = .ok (.invokevirtual 183, 3) := by decide +kernel
theorem dX7_suit_34 : decode cX7_suit 34 = .ok (.aload_n 0, 1) := by decide +kernel
theorem dX7_suit_35 : decode cX7_suit 35 = .ok (.invokevirtual 143, 3) := by decide +kernel
theorem dX7_suit_38 : decode cX7_suit 38 = .ok (.aload_n 0, 1) := by decide +kernel
theorem dX7_suit_39 : decode cX7_suit 39 = .ok (.invokevirtual 189, 3) := by decide +kernel
theorem dX7_suit_42 : decode cX7_suit 42 = .ok (.istore 4, 2) := by decide +kernel
theorem dX7_suit_44 : decode cX7_suit 44 = .ok (.lconst 0, 1) := by decide +kernel
theorem dX7_suit_45 : decode cX7_suit 45 = .ok (.lstore 5, 2) := by decide +kernel
theorem dX7_suit_47 : decode cX7_suit 47 = .ok (.iconst 0, 1) := by decide +kernel
theorem dX7_suit_48 : decode cX7_suit 48 = .ok (.istore 7, 2) := by decide +kernel
theorem dX7_suit_50 : decode cX7_suit 50 = .ok (.iload 7, 2) := by decide +kernel
theorem dX7_suit_52 : decode cX7_suit 52 = .ok (.aload_n 0, 1) := by decide +kernel
theorem dX7_suit_53 : decode cX7_suit 53 = .ok (.invokevirtual 58, 3) := by decide +kernel
theorem dX7_suit_56 : decode cX7_suit 56 = .ok (.if_icmp .ge 101, 3) := by decide +kernel
theorem dX7_suit_59 : decode cX7_suit 59 = .ok (.iload 4, 2) := by decide +kernel
theorem dX7_suit_61 : decode cX7_suit 61 = .ok (.ifCond .eq 96, 3) := by decide +kernel
theorem dX7_suit_64 : decode cX7_suit 64 = .ok (.aload_n 0, 1) := by decide +kernel
theorem dX7_suit_65 : decode cX7_suit 65 = .ok (.iload 7, 2) := by decide +kernel
theorem dX7_suit_67 : decode cX7_suit 67 = .ok (.iconst 0, 1) := by decide +kernel
theorem dX7_suit_68 : decode cX7_suit 68 = .ok (.invokevirtual 73, 3) := by decide +kernel
theorem dX7_suit_71 : decode cX7_suit 71 = .ok (.iload_n 1, 1) := by decide +kernel
theorem dX7_suit_72 : decode cX7_suit 72 = .ok (.invokestatic 116, 3) := by decide +kernel
theorem dX7_suit_75 : decode cX7_suit 75 = .ok (.ifCond .eq 21, 3) := by decide +kernel
theorem dX7_suit_78 : decode cX7_suit 78 = .ok (.aload_n 0, 1) := by decide +kernel
theorem dX7_suit_79 : decode cX7_suit 79 = .ok (.iload 7, 2) := by decide +kernel
theorem dX7_suit_81 : decode cX7_suit 81 = .ok (.iconst 0, 1) := by decide +kernel
theorem dX7_suit_82 : decode cX7_suit 82 = .ok (.invokevirtual 73, 3) := by decide +kernel
theorem dX7_suit_85 : decode cX7_suit 85 = .ok (.iload_n 2, 1) := by decide +kernel
theorem dX7_suit_86 : decode cX7_suit 86 = .ok (.invokestatic 116, 3) := by decide +kernel
theorem dX7_suit_89 : decode cX7_suit 89 = .ok (.ifCond .eq 7, 3) := by decide +kernel
theorem dX7_suit_92 : decode cX7_suit 92 = .ok (.iconst 1, 1) := by decide +kernel
theorem dX7_suit_93 : decode cX7_suit 93 = .ok (.goto 36, 3) := by decide +kernel
theorem dX7_suit_96 : decode cX7_suit 96 = .ok (.aload_n 0, 1) := by decide +kernel
theorem dX7_suit_97 : decode cX7_suit 97 = .ok (.iload 7, 2) := by decide +kernel
theorem dX7_suit_99 : decode cX7_suit 99 = .ok (.iconst 1, 1) := by decide +kernel
theorem dX7_suit_100 : decode cX7_suit 100 = .ok (.invokevirtual 73, 3) := by decide +kernel
theorem dX7_suit_103 : decode cX7_suit 103 = .ok (.iload_n 1, 1) := by decide +kernel
theorem dX7_suit_104 : decode cX7_suit 104 = .ok (.invokestatic 116, 3) := by decide +kernel
theorem dX7_suit_107 : decode cX7_suit 107 = .ok (.ifCond .eq 21, 3) := by decide +kernel
theorem dX7_suit_110 : decode cX7_suit 110 = .ok (.aload_n 0, 1) := by decide +kernel
theorem dX7_suit_111 : decode cX7_suit 111 = .ok (.iload 7, 2) := by decide +kernel
theorem dX7_suit_113 : decode cX7_suit 113 = .ok (.iconst 1, 1) := by decide +kernel
theorem dX7_suit_114 : decode cX7_suit 114 = .ok (.invokevirtual 73, 3) := by decide +kernel
theorem dX7_suit_117 : decode cX7_suit 117 = .ok (.iload_n 2, 1) := by decide +kernel
theorem dX7_suit_118 : decode cX7_suit 118 = .ok (.invokestatic 116, 3) := by decide +kernel
theorem dX7_suit_121 : decode cX7_suit 121 = .ok (.ifCond .eq 7, 3) := by decide +kernel
theorem dX7_suit_124 : decode cX7_suit 124 = .ok (.iconst (-1), 1) := by decide +kernel
theorem dX7_suit_125 : decode cX7_suit 125 = .ok (.goto 4, 3) := by decide +kernel
theorem dX7_suit_128 : decode cX7_suit 128 = .ok (.iconst 0, 1) := by decide +kernel
theorem dX7_suit_129 : decode cX7_suit 129 = .ok (.istore 8, 2) := by decide +kernel
theorem dX7_suit_131 : decode cX7_suit 131 = .ok (.iload 8, 2) := by decide +kernel
theorem dX7_suit_133 : decode cX7_suit 133 = .ok (.ifCond .eq 18, 3) := by decide +kernel
theorem dX7_suit_136 : decode cX7_suit 136 = .ok (.lload 5, 2) := by decide +kernel
theorem dX7_suit_138 : decode cX7_suit 138 = .ok (.iload 8, 2) := by decide +kernel
theorem dX7_suit_140 : decode cX7_suit 140 = .ok (.i2l, 1) := by decide +kernel
theorem dX7_suit_141 : decode cX7_suit 141 = .ok (.aload_n 0, 1) := by decide +kernel
theorem dX7_suit_142 : decode cX7_suit 142 = .ok (.iload 7, 2) := by decide +kernel
theorem dX7_suit_144 : decode cX7_suit 144 = .ok (.invokevirtual 202, 3) := by decide +kernel
theorem dX7_suit_147 : decode cX7_suit 147 = .ok (.lmul, 1) := by decide +kernel
theorem dX7_suit_148 : decode cX7_suit 148 = .ok (.ladd, 1) := by decide +kernel
theorem dX7_suit_149 : decode cX7_suit 149 = .ok (.lstore 5, 2) := by decide +kernel
theorem dX7_suit_151 : decode cX7_suit 151 = .ok (.iinc 7 1, 3) := by decide +kernel
theorem dX7_suit_154 : decode cX7_suit 154 = .ok (.goto (-104), 3) := by decide +kernel
theorem dX7_suit_157 : decode cX7_suit 157 = .ok (.lload 5, 2) := by decide +kernel
theorem dX7_suit_159 : decode cX7_suit 159 = .ok (.aload_n 0, 1) := by decide +kernel
theorem dX7_suit_160 : decode cX7_suit 160 = .ok (.getfield 159, 3) := by decide +kernel
theorem dX7_suit_163 : decode cX7_suit 163 = .ok (.iload_n 3, 1) := by decide +kernel
theorem dX7_suit_164 : decode cX7_suit 164 = .ok (.invokestatic 196, 3) := by decide +kernel
theorem dX7_suit_167 : decode cX7_suit 167 = .ok (.lreturn, 1) := by decide +kernel
theorem dX7_isSwap_0 : decode cX7_isSwap 0 = .ok (.aload_n 0, 1) := by decide +kernel
theorem dX7_isSwap_1 : decode cX7_isSwap 1 = .ok (.iload_n 1, 1) := by decide +kernel
theorem dX7_isSwap_2 : decode cX7_isSwap 2 = .ok (.iconst 0, 1) := by decide +kernel
theorem dX7_isSwap_3 : decode cX7_isSwap 3 = .ok (.invokevirtual 73, 3) := by decide +kernel
theorem dX7_isSwap_6 : decode cX7_isSwap 6 = .ok (.iload_n 3, 1) := by decide +kernel
theorem dX7_isSwap_7 : decode cX7_isSwap 7 = .ok (.invokestatic 116, 3) := by decide +kernel
theorem dX7_isSwap_10 : decode cX7_isSwap 10 = .ok (.ifCond .eq 111, 3) := by decide +kernel
theorem dX7_isSwap_13 : decode cX7_isSwap 13 = .ok (.aload_n 0, 1) := by decide +kernel
theorem dX7_isSwap_14 : decode cX7_isSwap 14 = .ok (.iload_n 1, 1) := by decide +kernel
theorem dX7_isSwap_15 : decode cX7_isSwap 15 = .ok (.iconst 1, 1) := by decide +kernel
theorem dX7_isSwap_16 : decode cX7_isSwap 16 = .ok (.invokevirtual 73, 3) := by decide +kernel
theorem dX7_isSwap_19 : decode cX7_isSwap 19 = .ok (.iload 4, 2) := by decide +kernel
theorem dX7_isSwap_21 : decode cX7_isSwap 21 = .ok (.invokestatic 116, 3) := by decide +kernel
theorem dX7_isSwap_24 : decode cX7_isSwap 24 = .ok (.ifCond .eq 97, 3) := by decide +kernel
theorem dX7_isSwap_27 : decode cX7_isSwap 27 = .ok (.aload_n 0, 1) := by decide +kernel
theorem dX7_isSwap_28 : decode cX7_isSwap 28 = .ok (.iload_n 2, 1) := by decide +kernel
theorem dX7_isSwap_29 : decode cX7_isSwap 29 = .ok (.iconst 0, 1) := by decide +kernel
theorem dX7_isSwap_30 : decode cX7_isSwap 30 = .ok (.invokevirtual 73, 3) := by decide +kernel
theorem dX7_isSwap_33 : decode cX7_isSwap 33 = .ok (.iload 4, 2) := by decide +kernel
theorem dX7_isSwap_35 : decode cX7_isSwap 35 = .ok (.invokestatic 116, 3) := by decide +kernel
theorem dX7_isSwap_38 : decode cX7_isSwap 38 = .ok (.ifCond .eq 83, 3) := by decide +kernel
theorem dX7_isSwap_41 : decode cX7_isSwap 41 = .ok (.aload_n 0, 1) := by decide +kernel
theorem dX7_isSwap_42 : decode cX7_isSwap 42 = .ok (.iload_n 2, 1) := by decide +kernel
theorem dX7_isSwap_43 : decode cX7_isSwap 43 = .ok (.iconst 1, 1) := by decide +kernel
theorem dX7_isSwap_44 : decode cX7_isSwap 44 = .ok (.invokevirtual 73, 3) := by decide +kernel
theorem dX7_isSwap_47 : decode cX7_isSwap 47 = .ok (.iload_n 3, 1) := by decide +kernel
theorem dX7_isSwap_48 : decode cX7_isSwap 48 = .ok (.invokestatic 116, 3) := by decide +kernel
theorem dX7_isSwap_51 : decode cX7_isSwap 51 = .ok (.ifCond .eq 70, 3) := by decide +kernel
theorem dX7_isSwap_54 : decode cX7_isSwap 54 = .ok (.aload_n 0, 1) := by decide +kernel
theorem dX7_isSwap_55 : decode cX7_isSwap 55 = .ok (.iload_n 1, 1) := by decide +kernel
theorem dX7_isSwap_56 : decode cX7_isSwap 56 = .ok (.iconst 3, 1) := by decide +kernel
theorem dX7_isSwap_57 : decode cX7_isSwap 57 = .ok (.invokevirtual 73, 3) := by decide +kernel
theorem dX7_isSwap_60 : decode cX7_isSwap 60 = .ok (.aload_n 0, 1) := by decide +kernel
theorem dX7_isSwap_61 : decode cX7_isSwap 61 = .ok (.iload_n 2, 1) := by decide +kernel
theorem dX7_isSwap_62 : decode cX7_isSwap 62 = .ok (.iconst 3, 1) := by decide +kernel
theorem dX7_isSwap_63 : decode cX7_isSwap 63 = .ok (.invokevirtual 73, 3) := by decide +kernel
theorem dX7_isSwap_66 : decode cX7_isSwap 66 = .ok (.if_icmp .ne 55, 3) := by decide +kernel
theorem dX7_isSwap_69 : decode cX7_isSwap 69 = .ok (.aload_n 0, 1) := by decide +kernel
theorem dX7_isSwap_70 : decode cX7_isSwap 70 = .ok (.iload_n 1, 1) := by decide +kernel
theorem dX7_isSwap_71 : decode cX7_isSwap 71 = .ok (.iconst 0, 1) := by decide +kernel
theorem dX7_isSwap_72 : decode cX7_isSwap 72 = .ok (.invokevirtual 73, 3) := by decide +kernel
theorem dX7_isSwap_75 : decode cX7_isSwap 75 = .ok (.iconst 1, 1) := by decide +kernel
theorem dX7_isSwap_76 : decode cX7_isSwap 76 = .ok (.iload_n 3, 1) := by decide +kernel
theorem dX7_isSwap_77 : decode cX7_isSwap 77 = .ok (.ishl, 1) := by decide +kernel
theorem dX7_isSwap_78 : decode cX7_isSwap 78 = .ok (.isub, 1) := by decide +kernel
theorem dX7_isSwap_79 : decode cX7_isSwap 79 = .ok (.aload_n 0, 1) := by decide +kernel
theorem dX7_isSwap_80 : decode cX7_isSwap 80 = .ok (.iload_n 2, 1) := by decide +kernel
theorem dX7_isSwap_81 : decode cX7_isSwap 81 = .ok (.iconst 0, 1) := by decide +kernel
theorem dX7_isSwap_82 : decode cX7_isSwap 82 = .ok (.invokevirtual 73, 3) := by decide +kernel
theorem dX7_isSwap_85 : decode cX7_isSwap 85 = .ok (.iconst 1, 1) := by decide +kernel
theorem dX7_isSwap_86 : decode cX7_isSwap 86 = .ok (.iload 4, 2) := by decide +kernel
theorem dX7_isSwap_88 : decode cX7_isSwap 88 = .ok (.ishl, 1) := by decide +kernel
theorem dX7_isSwap_89 : decode cX7_isSwap 89 = .ok (.isub, 1) := by decide +kernel
theorem dX7_isSwap_90 : decode cX7_isSwap 90 = .ok (.if_icmp .ne 31, 3) := by decide +kernel
theorem dX7_isSwap_93 : decode cX7_isSwap 93 = .ok (.aload_n 0, 1) := by decide +kernel
theorem dX7_isSwap_94 : decode cX7_isSwap 94 = .ok (.iload_n 1, 1) := by decide +kernel
theorem dX7_isSwap_95 : decode cX7_isSwap 95 = .ok (.iconst 1, 1) := by decide +kernel
theorem dX7_isSwap_96 : decode cX7_isSwap 96 = .ok (.invokevirtual 73, 3) := by decide +kernel
theorem dX7_isSwap_99 : decode cX7_isSwap 99 = .ok (.iconst 1, 1) := by decide +kernel
theorem dX7_isSwap_100 : decode cX7_isSwap 100 = .ok (.iload 4, 2) := by decide +kernel
theorem dX7_isSwap_102 : decode cX7_isSwap 102 = .ok (.ishl, 1) := by decide +kernel
theorem dX7_isSwap_103 : decode cX7_isSwap 103 = .ok (.isub, 1) := by decide +kernel
theorem dX7_isSwap_104 : decode cX7_isSwap 104 = .ok (.aload_n 0, 1) := by decide +kernel
theorem dX7_isSwap_105 : decode cX7_isSwap 105 = .ok (.iload_n 2, 1) := by decide +kernel
theorem dX7_isSwap_106 : decode cX7_isSwap 106 = .ok (.iconst 1, 1) := by decide +kernel
theorem dX7_isSwap_107 : decode cX7_isSwap 107 = .ok (.invokevirtual 73, 3) := by decide +kernel
theorem dX7_isSwap_110 : decode cX7_isSwap 110 = .ok (.iconst 1, 1) := by decide +kernel
theorem dX7_isSwap_111 : decode cX7_isSwap 111 = .ok (.iload_n 3, 1) := by decide +kernel
theorem dX7_isSwap_112 : decode cX7_isSwap 112 = .ok (.ishl, 1) := by decide +kernel
theorem dX7_isSwap_113 : decode cX7_isSwap 113 = .ok (.isub, 1) := by decide +kernel
theorem dX7_isSwap_114 : decode cX7_isSwap 114 = .ok (.if_icmp .ne 7, 3) := by decide +kernel
theorem dX7_isSwap_117 : decode cX7_isSwap 117 = .ok (.iconst 1, 1) := by decide +kernel
theorem dX7_isSwap_118 : decode cX7_isSwap 118 = .ok (.goto 4, 3) := by decide +kernel
theorem dX7_isSwap_121 : decode cX7_isSwap 121 = .ok (.iconst 0, 1) := by decide +kernel
theorem dX7_isSwap_122 : decode cX7_isSwap 122 = .ok (.ireturn, 1) := by decide +kernel
theorem dX7_swaps__0 : decode cX7_swaps_ 0 = .ok (.aload_n 0, 1) := by decide +kernel
theorem dX7_swaps__1 : decode cX7_swaps_ 1 = .ok (.iconst 0, 1) := by decide +kernel
theorem dX7_swaps__2 : decode cX7_swaps_ 2 = .ok (.putfield 43, 3) := by decide +kernel
theorem dX7_swaps__5 : decode cX7_swaps_ 5 = .ok (.aload_n 0, 1) := by decide +kernel
theorem dX7_swaps__6 : decode cX7_swaps_ 6 = .ok (.iload_n 1, 1) := by decide +kernel
theorem dX7_swaps__7 : decode cX7_swaps_ 7 = .ok (.invokevirtual 113, 3) := by decide +kernel
theorem dX7_swaps__10 : decode cX7_swaps_ 10 = .ok (.ifCond .eq 25, 3) := by decide +kernel
theorem dX7_swaps__13 : decode cX7_swaps_ 13 = .ok (.aload_n 0, 1) := by decide +kernel
theorem dX7_swaps__14 : decode cX7_swaps_ 14 = .ok (.iload_n 2, 1) := by decide +kernel
theorem dX7_swaps__15 : decode cX7_swaps_ 15 = .ok (.invokevirtual 113, 3) := by decide +kernel
theorem dX7_swaps__18 : decode cX7_swaps_ 18 = .ok (.ifCond .eq 17, 3) := by decide +kernel
theorem dX7_swaps__21 : decode cX7_swaps_ 21 = .ok (.iload_n 1, 1) := by decide +kernel
theorem dX7_swaps__22 : decode cX7_swaps_ 22 = .ok (.iload_n 2, 1) := by decide +kernel
theorem dX7_swaps__23 : decode cX7_swaps_ 23 = .ok (.if_icmp .eq 12, 3) := by decide +kernel
theorem dX7_swaps__26 : decode cX7_swaps_ 26 = .ok (.iload_n 3, 1) := by decide +kernel
theorem dX7_swaps__27 : decode cX7_swaps_ 27 = .ok (.iconst 0, 1) := by decide +kernel
theorem dX7_swaps__28 : decode cX7_swaps_ 28 = .ok (.iconst 2, 1) := by decide +kernel
theorem dX7_swaps__29 : decode cX7_swaps_ 29 = .ok (.invokestatic 50, 3) := by decide +kernel
theorem dX7_swaps__32 : decode cX7_swaps_ 32 = .ok (.ifCond .ne 7, 3) := by decide +kernel
theorem dX7_swaps__35 : decode cX7_swaps_ 35 = .ok (.ldc2_w 181, 3) := by decide +kernel
theorem dX7_swaps__38 : decode cX7_swaps_ 38 = .ok (.lreturn, 1) := by decide +kernel
theorem dX7_swaps__39 : decode cX7_swaps_ 39 = .ok (.iconst 0, 1) := by decide +kernel
theorem dX7_swaps__40 : decode cX7_swaps_ 40 = .ok (.istore 4, 2) := by decide +kernel
theorem dX7_swaps__42 : decode cX7_swaps_ 42 = .ok (.lconst 0, 1) := by decide +kernel
theorem dX7_swaps__43 : decode cX7_swaps_ 43 = .ok (.lstore 5, 2) := by decide +kernel
theorem dX7_swaps__45 : decode cX7_swaps_ 45 = .ok (.iconst 0, 1) := by decide +kernel
theorem dX7_swaps__46 : decode cX7_swaps_ 46 = .ok (.istore 7, 2) := by decide +kernel
theorem dX7_swaps__48 : decode cX7_swaps_ 48 = .ok (.iload 7, 2) := by decide +kernel
theorem dX7_swaps__50 : decode cX7_swaps_ 50 = .ok (.aload_n 0, 1) := by decide +kernel
theorem dX7_swaps__51 : decode cX7_swaps_ 51 = .ok (.invokevirtual 58, 3) := by decide +kernel
theorem dX7_swaps__54 : decode cX7_swaps_ 54 = .ok (.if_icmp .ge 74, 3) := by decide +kernel
theorem dX7_swaps__57 : decode cX7_swaps_ 57 = .ok (.iconst 0, 1) := by decide +kernel
theorem dX7_swaps__58 : decode cX7_swaps_ 58 = .ok (.istore 8, 2) := by decide +kernel
theorem dX7_swaps__60 : decode cX7_swaps_ 60 = .ok (.iload 8, 2) := by decide +kernel
theorem dX7_swaps__62 : decode cX7_swaps_ 62 = .ok (.aload_n 0, 1) := by decide +kernel
theorem dX7_swaps__63 : decode cX7_swaps_ 63 = .ok (.invokevirtual 58, 3) := by decide +kernel
theorem dX7_swaps__66 : decode cX7_swaps_ 66 = .ok (.if_icmp .ge 56, 3) := by decide +kernel
theorem dX7_swaps__69 : decode cX7_swaps_ 69 = .ok (.iload 7, 2) := by decide +kernel
theorem dX7_swaps__71 : decode cX7_swaps_ 71 = .ok (.iload 8, 2) := by decide +kernel
theorem dX7_swaps__73 : decode cX7_swaps_ 73 = .ok (.if_icmp .eq 43, 3) := by decide +kernel
theorem dX7_swaps__76 : decode cX7_swaps_ 76 = .ok (.aload_n 0, 1) := by decide +kernel
theorem dX7_swaps__77 : decode cX7_swaps_ 77 = .ok (.iload 7, 2) := by decide +kernel
theorem dX7_swaps__79 : decode cX7_swaps_ 79 = .ok (.iload 8, 2) := by decide +kernel
theorem dX7_swaps__81 : decode cX7_swaps_ 81 = .ok (.iload_n 1, 1) := by decide +kernel
theorem dX7_swaps__82 : decode cX7_swaps_ 82 = .ok (.iload_n 2, 1) := by decide +kernel
theorem dX7_swaps__83 : decode cX7_swaps_ 83 = .ok (.invokevirtual 230, 3) := by decide +kernel
theorem dX7_swaps__86 : decode cX7_swaps_ 86 = .ok (.ifCond .ne 6, 3) := by decide +kernel
theorem dX7_swaps__89 : decode cX7_swaps_ 89 = .ok (.goto 27, 3) := by decide +kernel
theorem dX7_swaps__92 : decode cX7_swaps_ 92 = .ok (.iinc 4 1, 3) := by decide +kernel
theorem dX7_swaps__95 : decode cX7_swaps_ 95 = .ok (.lload 5, 2) := by decide +kernel
theorem dX7_swaps__97 : decode cX7_swaps_ 97 = .ok (.aload_n 0, 1) := by decide +kernel
theorem dX7_swaps__98 : decode cX7_swaps_ 98 = .ok (.iload 7, 2) := by decide +kernel
theorem dX7_swaps__100 : decode cX7_swaps_ 100 = .ok (.iconst 2, 1) := by decide +kernel
theorem dX7_swaps__101 : decode cX7_swaps_ 101 = .ok (.invokevirtual 73, 3) := by decide +kernel
theorem dX7_swaps__104 : decode cX7_swaps_ 104 = .ok (.aload_n 0, 1) := by decide +kernel
theorem dX7_swaps__105 : decode cX7_swaps_ 105 = .ok (.iload 8, 2) := by decide +kernel
theorem dX7_swaps__107 : decode cX7_swaps_ 107 = .ok (.iconst 2, 1) := by decide +kernel
theorem dX7_swaps__108 : decode cX7_swaps_ 108 = .ok (.invokevirtual 73, 3) := by decide +kernel
theorem dX7_swaps__111 : decode cX7_swaps_ 111 = .ok (.isub, 1) := by decide +kernel
theorem dX7_swaps__112 : decode cX7_swaps_ 112 = .ok (.i2l, 1) := by decide +kernel
theorem dX7_swaps__113 : decode cX7_swaps_ 113 = .ok (.ladd, 1) := by decide +kernel
theorem dX7_swaps__114 : decode cX7_swaps_ 114 = .ok (.lstore 5, 2) := by decide +kernel
theorem dX7_swaps__116 : decode cX7_swaps_ 116 = .ok (.iinc 8 1, 3) := by decide +kernel
theorem dX7_swaps__119 : decode cX7_swaps_ 119 = .ok (.goto (-59), 3) := by decide +kernel
theorem dX7_swaps__122 : decode cX7_swaps_ 122 = .ok (.iinc 7 1, 3) := by decide +kernel
theorem dX7_swaps__125 : decode cX7_swaps_ 125 = .ok (.goto (-77), 3) := by decide +kernel
theorem dX7_swaps__128 : decode cX7_swaps_ 128 = .ok (.iload_n 3, 1) := by decide +kernel
theorem dX7_swaps__129 : decode cX7_swaps_ 129 = .ok (.ifCond .ne 7, 3) := by decide +kernel
theorem dX7_swaps__132 : decode cX7_swaps_ 132 = .ok (.iload 4, 2) := by decide +kernel
theorem dX7_swaps__134 : decode cX7_swaps_ 134 = .ok (.i2l, 1) := by decide +kernel
theorem dX7_swaps__135 : decode cX7_swaps_ 135 = .ok (.lreturn, 1) := by decide +kernel
theorem dX7_swaps__136 : decode cX7_swaps_ 136 = .ok (.iload 4, 2) := by decide +kernel
theorem dX7_swaps__138 : decode cX7_swaps_ 138 = .ok (.ifCond .ne 9, 3) := by decide +kernel
theorem dX7_swaps__141 : decode cX7_swaps_ 141 = .ok (.ldc2_w 181, 3) := by decide +kernel
theorem dX7_swaps__144 : decode cX7_swaps_ 144 = .ok (.goto 25, 3) := by decide +kernel
theorem dX7_swaps__147 : decode cX7_swaps_ 147 = .ok (.lload 5, 2) := by decide +kernel
theorem dX7_swaps__149 : decode cX7_swaps_ 149 = .ok (.ldc2_w 234, 3) := by decide +kernel
theorem dX7_swaps__152 : decode cX7_swaps_ 152 = .ok (.iload 4, 2) := by decide +kernel
theorem dX7_swaps__154 : decode cX7_swaps_ 154 = .ok (.i2l, 1) := by decide +kernel
theorem dX7_swaps__155 : decode cX7_swaps_ 155 = .ok (.lmul, 1) := by decide +kernel
theorem dX7_swaps__156 : decode cX7_swaps_ 156 = .ok (.iload_n 3, 1) := by decide +kernel
theorem dX7_swaps__157 : decode cX7_swaps_ 157 = .ok (.iconst 2, 1) := by decide +kernel
theorem dX7_swaps__158 : decode cX7_swaps_ 158 = .ok (.if_icmp .ne 7, 3) := by decide +kernel
theorem dX7_swaps__161 : decode cX7_swaps_ 161 = .ok (.iconst 1, 1) := by decide +kernel
theorem dX7_swaps__162 : decode cX7_swaps_ 162 = .ok (.goto 4, 3) := by decide +kernel
theorem dX7_swaps__165 : decode cX7_swaps_ 165 = .ok (.iconst 0, 1) := by decide +kernel
theorem dX7_swaps__166 : decode cX7_swaps_ 166 = .ok (.invokestatic 196, 3) := by decide +kernel
theorem dX7_swaps__169 : decode cX7_swaps_ 169 = .ok (.lreturn, 1) := by decide +kernel
theorem dX7_isMatch_0 : decode cX7_isMatch 0 = .ok (.iload_n 1, 1) := by decide +kernel
theorem dX7_isMatch_1 : decode cX7_isMatch 1 = .ok (.iload_n 2, 1) := by decide +kernel
theorem dX7_isMatch_2 : decode cX7_isMatch 2 = .ok (.iand, 1) := by decide +kernel
theorem dX7_isMatch_3 : decode cX7_isMatch 3 = .ok (.ifCond .ne 34, 3) := by decide +kernel
theorem dX7_isMatch_6 : decode cX7_isMatch 6 = .ok (.iload_n 1, 1) := by decide +kernel
theorem dX7_isMatch_7 : decode cX7_isMatch 7 = .ok (.invokestatic 54, 3) := by decide +kernel
theorem dX7_isMatch_10 : decode cX7_isMatch 10 = .ok (.iload_n 3, 1) := by decide +kernel
theorem dX7_isMatch_11 : decode cX7_isMatch 11 = .ok (.if_icmp .ne 26, 3) := by decide +kernel
theorem dX7_isMatch_14 : decode cX7_isMatch 14 = .ok (.iload_n 2, 1) := by decide +kernel
theorem dX7_isMatch_15 : decode cX7_isMatch 15 = .ok (.invokestatic 54, 3) := by decide +kernel
theorem dX7_isMatch_18 : decode cX7_isMatch 18 = .ok (.iload_n 3, 1) := by decide +kernel
theorem dX7_isMatch_19 : decode cX7_isMatch 19 = .ok (.if_icmp .ne 18, 3) := by decide +kernel
theorem dX7_isMatch_22 : decode cX7_isMatch 22 = .ok (.iload_n 1, 1) := by decide +kernel
theorem dX7_isMatch_23 : decode cX7_isMatch 23 = .ok (.iload_n 1, 1) := by decide +kernel
theorem dX7_isMatch_24 : decode cX7_isMatch 24 = .ok (.ineg, 1) := by decide +kernel
theorem dX7_isMatch_25 : decode cX7_isMatch 25 = .ok (.iand, 1) := by decide +kernel
theorem dX7_isMatch_26 : decode cX7_isMatch 26 = .ok (.iload_n 2, 1) := by decide +kernel
theorem dX7_isMatch_27 : decode cX7_isMatch 27 = .ok (.iload_n 2, 1) := by decide +kernel
theorem dX7_isMatch_28 : decode cX7_isMatch 28 = .ok (.ineg, 1) := by decide +kernel
theorem dX7_isMatch_29 : decode cX7_isMatch 29 = .ok (.iand, 1) := by decide +kernel
theorem dX7_isMatch_30 : decode cX7_isMatch 30 = .ok (.if_icmp .ge 7, 3) := by decide +kernel
theorem dX7_isMatch_33 : decode cX7_isMatch 33 = .ok (.iconst 1, 1) := by decide +kernel
theorem dX7_isMatch_34 : decode cX7_isMatch 34 = .ok (.goto 4, 3) := by decide +kernel
theorem dX7_isMatch_37 : decode cX7_isMatch 37 = .ok (.iconst 0, 1) := by decide +kernel
theorem dX7_isMatch_38 : decode cX7_isMatch 38 = .ok (.ireturn, 1) := by decide +kernel
theorem dX7_matched_0 : decode cX7_matched 0 = .ok (.aload_n 0, 1) := by decide +kernel
theorem dX7_matched_1 : decode cX7_matched 1 = .ok (.invokevirtual 183, 3) := by decide +kernel
theorem dX7_matched_4 : decode cX7_matched 4 = .ok (.aload_n 0, 1) := by decide +kernel
theorem dX7_matched_5 : decode cX7_matched 5 = .ok (.iload_n 1, 1) := by decide +kernel
theorem dX7_matched_6 : decode cX7_matched 6 = .ok (.iload_n 2, 1) := by decide +kernel
theorem dX7_matched_7 : decode cX7_matched 7 = .ok (.iconst 0, 1) := by decide +kernel
theorem dX7_matched_8 : decode cX7_matched 8 = .ok (.invokevirtual 149, 3) := by decide +kernel
theorem dX7_matched_11 : decode cX7_matched 11 = .ok (.aload_n 0, 1) := by decide +kernel
theorem dX7_matched_12 : decode cX7_matched 12 = .ok (.iconst 0, 1) := by decide +kernel
theorem dX7_matched_13 : decode cX7_matched 13 = .ok (.invokevirtual 153, 3) := by decide +kernel
theorem dX7_matched_16 : decode cX7_matched 16 = .ok (.aload_n 0, 1) := by decide +kernel
theorem dX7_matched_17 : decode cX7_matched 17 = .ok (.invokevirtual 221, 3) := by decide +kernel
theorem dX7_matched_20 : decode cX7_matched 20 = .ok (.istore_n 3, 1) := by decide +kernel
theorem dX7_matched_21 : decode cX7_matched 21 = .ok (.aload_n 0, 1) := by decide +kernel
theorem dX7_matched_22 : decode cX7_matched 22 = .ok (.getfield 236, 3) := by decide +kernel
theorem dX7_matched_25 : decode cX7_matched 25 = .ok (.ifCond .eq 41, 3) := by decide +kernel
theorem dX7_matched_28 : decode cX7_matched 28 = .ok (.iload_n 3, 1) := by decide +kernel
theorem dX7_matched_29 : decode cX7_matched 29 = .ok (.aload_n 0, 1) := by decide +kernel
theorem dX7_matched_30 : decode cX7_matched 30 = .ok (.getfield 239, 3) := by decide +kernel
theorem dX7_matched_33 : decode cX7_matched 33 = .ok (.if_icmp .gt 33, 3) := by decide +kernel
theorem dX7_matched_36 : decode cX7_matched 36 = .ok (.iload_n 3, 1) := by decide +kernel
theorem dX7_matched_37 : decode cX7_matched 37 = .ok (.aload_n 0, 1) := by decide +kernel
theorem dX7_matched_38 : decode cX7_matched 38 = .ok (.getfield 239, 3) := by decide +kernel
theorem dX7_matched_41 : decode cX7_matched 41 = .ok (.if_icmp .ne 29, 3) := by decide +kernel
theorem dX7_matched_44 : decode cX7_matched 44 = .ok (.aload_n 0, 1) := by decide +kernel
theorem dX7_matched_45 : decode cX7_matched 45 = .ok (.getfield 218, 3) := by decide +kernel
theorem dX7_matched_48 : decode cX7_matched 48 = .ok (.aload_n 0, 1) := by decide +kernel
theorem dX7_matched_49 : decode cX7_matched 49 = .ok (.getfield 159, 3) := by decide +kernel
theorem dX7_matched_52 : decode cX7_matched 52 = .ok (.aload_n 0, 1) := by decide +kernel
theorem dX7_matched_53 : decode cX7_matched 53 = .ok (.getfield 242, 3) := by decide +kernel
theorem dX7_matched_56 : decode cX7_matched 56 = .ok (.aload_n 0, 1) := by decide +kernel
theorem dX7_matched_57 : decode cX7_matched 57 = .ok (.getfield 245, 3) := by decide +kernel
theorem dX7_matched_60 : decode cX7_matched 60 = .ok (.invokestatic 248, 3) := by decide +kernel
theorem dX7_matched_63 : decode cX7_matched 63 = .ok (.ifCond .ge 7, 3) := by decide +kernel
theorem dX7_matched_66 : decode cX7_matched 66 = .ok (.iconst 1, 1) := by decide +kernel
theorem dX7_matched_67 : decode cX7_matched 67 = .ok (.goto 4, 3) := by decide +kernel
theorem dX7_matched_70 : decode cX7_matched 70 = .ok (.iconst 0, 1) := by decide +kernel
theorem dX7_matched_71 : decode cX7_matched 71 = .ok (.istore 4, 2) := by decide +kernel
theorem dX7_matched_73 : decode cX7_matched 73 = .ok (.iload 4, 2) := by decide +kernel
theorem dX7_matched_75 : decode cX7_matched 75 = .ok (.ifCond .ne 4, 3) := by decide +kernel
theorem dX7_matched_78 : decode cX7_matched 78 = .ok (.return_, 1) := by decide +kernel
theorem dX7_matched_79 : decode cX7_matched 79 = .ok (.aload_n 0, 1) := by decide +kernel
theorem dX7_matched_80 : decode cX7_matched 80 = .ok (.iload_n 1, 1) := by decide +kernel
theorem dX7_matched_81 : decode cX7_matched 81 = .ok (.putfield 236, 3) := by decide +kernel
theorem dX7_matched_84 : decode cX7_matched 84 = .ok (.aload_n 0, 1) := by decide +kernel
theorem dX7_matched_85 : decode cX7_matched 85 = .ok (.iload_n 2, 1) := by decide +kernel
theorem dX7_matched_86 : decode cX7_matched 86 = .ok (.putfield 252, 3) := by decide +kernel
theorem dX7_matched_89 : decode cX7_matched 89 = .ok (.aload_n 0, 1) := by decide +kernel
theorem dX7_matched_90 : decode cX7_matched 90 = .ok (.iload_n 3, 1) := by decide +kernel
theorem dX7_matched_91 : decode cX7_matched 91 = .ok (.putfield 239, 3) := by decide +kernel
theorem dX7_matched_94 : decode cX7_matched 94 = .ok (.aload_n 0, 1) := by decide +kernel
theorem dX7_matched_95 : decode cX7_matched 95 = .ok (.aload_n 0, 1) := by decide +kernel
theorem dX7_matched_96 : decode cX7_matched 96 = .ok (.getfield 218, 3) := by decide +kernel
theorem dX7_matched_99 : decode cX7_matched 99 = .ok (.putfield 242, 3) := by decide +kernel
theorem dX7_matched_102 : decode cX7_matched 102 = .ok (.aload_n 0, 1) := by decide +kernel
theorem dX7_matched_103 : decode cX7_matched 103 = .ok (.aload_n 0, 1) := by decide +kernel
theorem dX7_matched_104 : decode cX7_matched 104 = .ok (.getfield 159, 3) := by decide +kernel
theorem dX7_matched_107 : decode cX7_matched 107 = .ok (.putfield 245, 3) := by decide +kernel
theorem dX7_matched_110 : decode cX7_matched 110 = .ok (.return_, 1) := by decide +kernel
theorem dX7_next_0 : decode cX7_next 0 = .ok (.aload_n 0, 1) := by decide +kernel
theorem dX7_next_1 : decode cX7_next 1 = .ok (.iconst 0, 1) := by decide +kernel
theorem dX7_next_2 : decode cX7_next 2 = .ok (.putfield 43, 3) := by decide +kernel
theorem dX7_next_5 : decode cX7_next 5 = .ok (.iload_n 1, 1) := by decide +kernel
theorem dX7_next_6 : decode cX7_next 6 = .ok (.iconst 1, 1) := by decide +kernel
theorem dX7_next_7 : decode cX7_next 7 = .ok (.iconst 3, 1) := by decide +kernel
theorem dX7_next_8 : decode cX7_next 8 = .ok (.invokestatic 50, 3) := by decide +kernel
theorem dX7_next_11 : decode cX7_next 11 = .ok (.ifCond .eq 12, 3) := by decide +kernel
theorem dX7_next_14 : decode cX7_next 14 = .ok (.iload_n 2, 1) := by decide +kernel
theorem dX7_next_15 : decode cX7_next 15 = .ok (.iconst 0, 1) := by decide +kernel
theorem dX7_next_16 : decode cX7_next 16 = .ok (.iconst 4, 1) := by decide +kernel
theorem dX7_next_17 : decode cX7_next 17 = .ok (.invokestatic 50, 3) := by decide +kernel
theorem dX7_next_20 : decode cX7_next 20 = .ok (.ifCond .ne 7, 3) := by decide +kernel
theorem dX7_next_23 : decode cX7_next 23 = .ok (.ldc2_w 255, 3) := by decide +kernel
theorem dX7_next_26 : decode cX7_next 26 = .ok (.lreturn, 1) := by decide +kernel
theorem dX7_next_27 : decode cX7_next 27 = .ok (.aload_n 0, 1) := by decide +kernel
theorem dX7_next_28 : decode cX7_next 28 = .ok (.iconst 0, 1) := by decide +kernel
theorem dX7_next_29 : decode cX7_next 29 = .ok (.putfield 236, 3) := by decide +kernel
theorem dX7_next_32 : decode cX7_next 32 = .ok (.iconst 1, 1) := by decide +kernel
theorem dX7_next_33 : decode cX7_next 33 = .ok (.istore_n 3, 1) := by decide +kernel
theorem dX7_next_34 : decode cX7_next 34 = .ok (.iload_n 3, 1) := by decide +kernel
theorem dX7_next_35 : decode cX7_next 35 = .ok (.iconst 1, 1) := by decide +kernel
theorem dX7_next_36 : decode cX7_next 36 = .ok (.aload_n 0, 1) := by decide +kernel
theorem dX7_next_37 : decode cX7_next 37 = .ok (.invokevirtual 46, 3) := by decide +kernel
theorem dX7_next_40 : decode cX7_next 40 = .ok (.ishl, 1) := by decide +kernel
theorem dX7_next_41 : decode cX7_next 41 = .ok (.if_icmp .ge 47, 3) := by decide +kernel
theorem dX7_next_44 : decode cX7_next 44 = .ok (.iconst 1, 1) := by decide +kernel
theorem dX7_next_45 : decode cX7_next 45 = .ok (.istore 4, 2) := by decide +kernel
theorem dX7_next_47 : decode cX7_next 47 = .ok (.iload 4, 2) := by decide +kernel
theorem dX7_next_49 : decode cX7_next 49 = .ok (.iconst 1, 1) := by decide +kernel
theorem dX7_next_50 : decode cX7_next 50 = .ok (.aload_n 0, 1) := by decide +kernel
theorem dX7_next_51 : decode cX7_next 51 = .ok (.invokevirtual 46, 3) := by decide +kernel
theorem dX7_next_54 : decode cX7_next 54 = .ok (.ishl, 1) := by decide +kernel
theorem dX7_next_55 : decode cX7_next 55 = .ok (.if_icmp .ge 27, 3) := by decide +kernel
theorem dX7_next_58 : decode cX7_next 58 = .ok (.aload_n 0, 1) := by decide +kernel
theorem dX7_next_59 : decode cX7_next 59 = .ok (.iload_n 3, 1) := by decide +kernel
theorem dX7_next_60 : decode cX7_next 60 = .ok (.iload 4, 2) := by decide +kernel
theorem dX7_next_62 : decode cX7_next 62 = .ok (.iload_n 1, 1) := by decide +kernel
theorem dX7_next_63 : decode cX7_next 63 = .ok (.invokevirtual 257, 3) := by decide +kernel
theorem dX7_next_66 : decode cX7_next 66 = .ok (.ifCond .eq 10, 3) := by decide +kernel
theorem dX7_next_69 : decode cX7_next 69 = .ok (.aload_n 0, 1) := by decide +kernel
theorem dX7_next_70 : decode cX7_next 70 = .ok (.iload_n 3, 1) := by decide +kernel
theorem dX7_next_71 : decode cX7_next 71 = .ok (.iload 4, 2) := by decide +kernel
theorem dX7_next_73 : decode cX7_next 73 = .ok (.invokevirtual 260, 3) := by decide +kernel
theorem dX7_next_76 : decode cX7_next 76 = .ok (.iinc 4 1, 3) := by decide +kernel
theorem dX7_next_79 : decode cX7_next 79 = .ok (.goto (-32), 3) := by decide +kernel
theorem dX7_next_82 : decode cX7_next 82 = .ok (.iinc 3 1, 3) := by decide +kernel
theorem dX7_next_85 : decode cX7_next 85 = .ok (.goto (-51), 3) := by decide +kernel
theorem dX7_next_88 : decode cX7_next 88 = .ok (.aload_n 0, 1) := by decide +kernel
theorem dX7_next_89 : decode cX7_next 89 = .ok (.getfield 236, 3) := by decide +kernel
theorem dX7_next_92 : decode cX7_next 92 = .ok (.ifCond .ne 7, 3) := by decide +kernel
theorem dX7_next_95 : decode cX7_next 95 = .ok (.ldc2_w 255, 3) := by decide +kernel
theorem dX7_next_98 : decode cX7_next 98 = .ok (.lreturn, 1) := by decide +kernel
theorem dX7_next_99 : decode cX7_next 99 = .ok (.iload_n 2, 1) := by decide +kernel
theorem dX7_next_100 : decode cX7_next 100 = .ok (.tableswitch 46 0 2 #[28, 34, 40], 28) := by decide +kernel
theorem dX7_next_128 : decode cX7_next 128 = .ok (.aload_n 0, 1) := by decide +kernel
theorem dX7_next_129 : decode cX7_next 129 = .ok (.getfield 236, 3) := by decide +kernel
theorem dX7_next_132 : decode cX7_next 132 = .ok (.i2l, 1) := by decide +kernel
theorem dX7_next_133 : decode cX7_next 133 = .ok (.lreturn, 1) := by decide +kernel
theorem dX7_next_134 : decode cX7_next 134 = .ok (.aload_n 0, 1) := by decide +kernel
theorem dX7_next_135 : decode cX7_next 135 = .ok (.getfield 252, 3) := by decide +kernel
theorem dX7_next_138 : decode cX7_next 138 = .ok (.i2l, 1) := by decide +kernel
theorem dX7_next_139 : decode cX7_next 139 = .ok (.lreturn, 1) := by decide +kernel
theorem dX7_next_140 : decode cX7_next 140 = .ok (.aload_n 0, 1) := by decide +kernel
theorem dX7_next_141 : decode cX7_next 141 = .ok (.getfield 239, 3) := by decide +kernel
theorem dX7_next_144 : decode cX7_next 144 = .ok (.i2l, 1) := by decide +kernel
theorem dX7_next_145 : decode cX7_next 145 = .ok (.lreturn, 1) := by decide +kernel
theorem dX7_next_146 : decode cX7_next 146 = .ok (.aload_n 0, 1) := by decide +kernel
theorem dX7_next_147 : decode cX7_next 147 = .ok (.getfield 242, 3) := by decide +kernel
theorem dX7_next_150 : decode cX7_next 150 = .ok (.aload_n 0, 1) := by decide +kernel
theorem dX7_next_151 : decode cX7_next 151 = .ok (.getfield 245, 3) := by decide +kernel
theorem dX7_next_154 : decode cX7_next 154 = .ok (.iload_n 2, 1) := by decide +kernel
theorem dX7_next_155 : decode cX7_next 155 = .ok (.iconst 4, 1) := by decide +kernel
theorem dX7_next_156 : decode cX7_next 156 = .ok (.if_icmp .ne 7, 3) := by decide +kernel
theorem dX7_next_159 : decode cX7_next 159 = .ok (.iconst 1, 1) := by decide +kernel
theorem dX7_next_160 : decode cX7_next 160 = .ok (.goto 4, 3) := by decide +kernel
theorem dX7_next_163 : decode cX7_next 163 = .ok (.iconst 0, 1) := by decide +kernel
theorem dX7_next_164 : decode cX7_next 164 = .ok (.invokestatic 196, 3) := by decide +kernel
theorem dX7_next_167 : decode cX7_next 167 = .ok (.lreturn, 1) := by decide +kernel
theorem dX7_fewest_0 : decode cX7_fewest 0 = .ok (.aload_n 0, 1) := by decide +kernel
theorem dX7_fewest_1 : decode cX7_fewest 1 = .ok (.iconst 0, 1) := by decide +kernel
theorem dX7_fewest_2 : decode cX7_fewest 2 = .ok (.putfield 43, 3) := by decide +kernel
theorem dX7_fewest_5 : decode cX7_fewest 5 = .ok (.iload_n 1, 1) := by decide +kernel
theorem dX7_fewest_6 : decode cX7_fewest 6 = .ok (.iconst 1, 1) := by decide +kernel
theorem dX7_fewest_7 : decode cX7_fewest 7 = .ok (.iconst 3, 1) := by decide +kernel
theorem dX7_fewest_8 : decode cX7_fewest 8 = .ok (.invokestatic 50, 3) := by decide +kernel
theorem dX7_fewest_11 : decode cX7_fewest 11 = .ok (.ifCond .ne 5, 3) := by decide +kernel
theorem dX7_fewest_14 : decode cX7_fewest 14 = .ok (.iconst (-1), 1) := by decide +kernel
theorem dX7_fewest_15 : decode cX7_fewest 15 = .ok (.ireturn, 1) := by decide +kernel
theorem dX7_fewest_16 : decode cX7_fewest 16 = .ok (.aload_n 0, 1) := by decide +kernel
theorem dX7_fewest_17 : decode cX7_fewest 17 = .ok (.invokevirtual 183, 3) := by decide +kernel
theorem dX7_fewest_20 : decode cX7_fewest 20 = .ok (.aload_n 0, 1) := by decide +kernel
theorem dX7_fewest_21 : decode cX7_fewest 21 = .ok (.invokevirtual 227, 3) := by decide +kernel
theorem dX7_fewest_24 : decode cX7_fewest 24 = .ok (.istore_n 2, 1) := by decide +kernel
theorem dX7_fewest_25 : decode cX7_fewest 25 = .ok (.iconst 1, 1) := by decide +kernel
theorem dX7_fewest_26 : decode cX7_fewest 26 = .ok (.istore_n 3, 1) := by decide +kernel
theorem dX7_fewest_27 : decode cX7_fewest 27 = .ok (.iload_n 3, 1) := by decide +kernel
theorem dX7_fewest_28 : decode cX7_fewest 28 = .ok (.aload_n 0, 1) := by decide +kernel
theorem dX7_fewest_29 : decode cX7_fewest 29 = .ok (.invokevirtual 46, 3) := by decide +kernel
theorem dX7_fewest_32 : decode cX7_fewest 32 = .ok (.if_icmp .ge 20, 3) := by decide +kernel
theorem dX7_fewest_35 : decode cX7_fewest 35 = .ok (.aload_n 0, 1) := by decide +kernel
theorem dX7_fewest_36 : decode cX7_fewest 36 = .ok (.iconst 0, 1) := by decide +kernel
theorem dX7_fewest_37 : decode cX7_fewest 37 = .ok (.iload_n 3, 1) := by decide +kernel
theorem dX7_fewest_38 : decode cX7_fewest 38 = .ok (.invokevirtual 186, 3) := by decide +kernel
theorem dX7_fewest_41 : decode cX7_fewest 41 = .ok (.aload_n 0, 1) := by decide +kernel
theorem dX7_fewest_42 : decode cX7_fewest 42 = .ok (.iconst 0, 1) := by decide +kernel
theorem dX7_fewest_43 : decode cX7_fewest 43 = .ok (.invokevirtual 153, 3) := by decide +kernel
theorem dX7_fewest_46 : decode cX7_fewest 46 = .ok (.iinc 3 1, 3) := by decide +kernel
theorem dX7_fewest_49 : decode cX7_fewest 49 = .ok (.goto (-22), 3) := by decide +kernel
theorem dX7_fewest_52 : decode cX7_fewest 52 = .ok (.aload_n 0, 1) := by decide +kernel
theorem dX7_fewest_53 : decode cX7_fewest 53 = .ok (.invokevirtual 227, 3) := by decide +kernel
theorem dX7_fewest_56 : decode cX7_fewest 56 = .ok (.istore_n 3, 1) := by decide +kernel
theorem dX7_fewest_57 : decode cX7_fewest 57 = .ok (.aload_n 0, 1) := by decide +kernel
theorem dX7_fewest_58 : decode cX7_fewest 58 = .ok (.invokevirtual 183, 3) := by decide +kernel
theorem dX7_fewest_61 : decode cX7_fewest 61 = .ok (.iconst 1, 1) := by decide +kernel
theorem dX7_fewest_62 : decode cX7_fewest 62 = .ok (.istore 4, 2) := by decide +kernel
theorem dX7_fewest_64 : decode cX7_fewest 64 = .ok (.iload 4, 2) := by decide +kernel
theorem dX7_fewest_66 : decode cX7_fewest 66 = .ok (.iconst 1, 1) := by decide +kernel
theorem dX7_fewest_67 : decode cX7_fewest 67 = .ok (.aload_n 0, 1) := by decide +kernel
theorem dX7_fewest_68 : decode cX7_fewest 68 = .ok (.invokevirtual 46, 3) := by decide +kernel
theorem dX7_fewest_71 : decode cX7_fewest 71 = .ok (.ishl, 1) := by decide +kernel
theorem dX7_fewest_72 : decode cX7_fewest 72 = .ok (.if_icmp .ge 58, 3) := by decide +kernel
theorem dX7_fewest_75 : decode cX7_fewest 75 = .ok (.iconst 1, 1) := by decide +kernel
theorem dX7_fewest_76 : decode cX7_fewest 76 = .ok (.istore 5, 2) := by decide +kernel
theorem dX7_fewest_78 : decode cX7_fewest 78 = .ok (.iload 5, 2) := by decide +kernel
theorem dX7_fewest_80 : decode cX7_fewest 80 = .ok (.iconst 1, 1) := by decide +kernel
theorem dX7_fewest_81 : decode cX7_fewest 81 = .ok (.aload_n 0, 1) := by decide +kernel
theorem dX7_fewest_82 : decode cX7_fewest 82 = .ok (.invokevirtual 46, 3) := by decide +kernel
theorem dX7_fewest_85 : decode cX7_fewest 85 = .ok (.ishl, 1) := by decide +kernel
theorem dX7_fewest_86 : decode cX7_fewest 86 = .ok (.if_icmp .ge 38, 3) := by decide +kernel
theorem dX7_fewest_89 : decode cX7_fewest 89 = .ok (.aload_n 0, 1) := by decide +kernel
theorem dX7_fewest_90 : decode cX7_fewest 90 = .ok (.iload 4, 2) := by decide +kernel
theorem dX7_fewest_92 : decode cX7_fewest 92 = .ok (.iload 5, 2) := by decide +kernel
theorem dX7_fewest_94 : decode cX7_fewest 94 = .ok (.iload_n 1, 1) := by decide +kernel
theorem dX7_fewest_95 : decode cX7_fewest 95 = .ok (.invokevirtual 257, 3) := by decide +kernel
theorem dX7_fewest_98 : decode cX7_fewest 98 = .ok (.ifCond .ne 6, 3) := by decide +kernel
theorem dX7_fewest_101 : decode cX7_fewest 101 = .ok (.goto 17, 3) := by decide +kernel
theorem dX7_fewest_104 : decode cX7_fewest 104 = .ok (.aload_n 0, 1) := by decide +kernel
theorem dX7_fewest_105 : decode cX7_fewest 105 = .ok (.iload 4, 2) := by decide +kernel
theorem dX7_fewest_107 : decode cX7_fewest 107 = .ok (.iload 5, 2) := by decide +kernel
theorem dX7_fewest_109 : decode cX7_fewest 109 = .ok (.iconst 0, 1) := by decide +kernel
theorem dX7_fewest_110 : decode cX7_fewest 110 = .ok (.invokevirtual 149, 3) := by decide +kernel
theorem dX7_fewest_113 : decode cX7_fewest 113 = .ok (.aload_n 0, 1) := by decide +kernel
theorem dX7_fewest_114 : decode cX7_fewest 114 = .ok (.iconst 0, 1) := by decide +kernel
theorem dX7_fewest_115 : decode cX7_fewest 115 = .ok (.invokevirtual 153, 3) := by decide +kernel
theorem dX7_fewest_118 : decode cX7_fewest 118 = .ok (.iinc 5 1, 3) := by decide +kernel
theorem dX7_fewest_121 : decode cX7_fewest 121 = .ok (.goto (-43), 3) := by decide +kernel
theorem dX7_fewest_124 : decode cX7_fewest 124 = .ok (.iinc 4 1, 3) := by decide +kernel
theorem dX7_fewest_127 : decode cX7_fewest 127 = .ok (.goto (-63), 3) := by decide +kernel
theorem dX7_fewest_130 : decode cX7_fewest 130 = .ok (.aload_n 0, 1) := by decide +kernel
theorem dX7_fewest_131 : decode cX7_fewest 131 = .ok (.invokevirtual 227, 3) := by decide +kernel
theorem dX7_fewest_134 : decode cX7_fewest 134 = .ok (.iload_n 3, 1) := by decide +kernel
theorem dX7_fewest_135 : decode cX7_fewest 135 = .ok (.if_icmp .eq 8, 3) := by decide +kernel
theorem dX7_fewest_138 : decode cX7_fewest 138 = .ok (.iload_n 2, 1) := by decide +kernel
theorem dX7_fewest_139 : decode cX7_fewest 139 = .ok (.iload_n 3, 1) := by decide +kernel
theorem dX7_fewest_140 : decode cX7_fewest 140 = .ok (.if_icmp .ne 9, 3) := by decide +kernel
theorem dX7_fewest_143 : decode cX7_fewest 143 = .ok (.iload_n 3, 1) := by decide +kernel
theorem dX7_fewest_144 : decode cX7_fewest 144 = .ok (.iload_n 2, 1) := by decide +kernel
theorem dX7_fewest_145 : decode cX7_fewest 145 = .ok (.isub, 1) := by decide +kernel
theorem dX7_fewest_146 : decode cX7_fewest 146 = .ok (.goto 4, 3) := by decide +kernel
theorem dX7_fewest_149 : decode cX7_fewest 149 = .ok (.iconst (-1), 1) := by decide +kernel
theorem dX7_fewest_150 : decode cX7_fewest 150 = .ok (.ireturn, 1) := by decide +kernel
theorem dX7_odd_0 : decode cX7_odd 0 = .ok (.aload_n 0, 1) := by decide +kernel
theorem dX7_odd_1 : decode cX7_odd 1 = .ok (.iconst 0, 1) := by decide +kernel
theorem dX7_odd_2 : decode cX7_odd 2 = .ok (.putfield 43, 3) := by decide +kernel
theorem dX7_odd_5 : decode cX7_odd 5 = .ok (.aload_n 0, 1) := by decide +kernel
theorem dX7_odd_6 : decode cX7_odd 6 = .ok (.invokevirtual 58, 3) := by decide +kernel
theorem dX7_odd_9 : decode cX7_odd 9 = .ok (.ifCond .eq 12, 3) := by decide +kernel
theorem dX7_odd_12 : decode cX7_odd 12 = .ok (.iload_n 1, 1) := by decide +kernel
theorem dX7_odd_13 : decode cX7_odd 13 = .ok (.iconst 0, 1) := by decide +kernel
theorem dX7_odd_14 : decode cX7_odd 14 = .ok (.iconst 2, 1) := by decide +kernel
theorem dX7_odd_15 : decode cX7_odd 15 = .ok (.invokestatic 50, 3) := by decide +kernel
theorem dX7_odd_18 : decode cX7_odd 18 = .ok (.ifCond .ne 7, 3) := by decide +kernel
theorem dX7_odd_21 : decode cX7_odd 21 = .ok (.ldc2_w 255, 3) := by decide +kernel
theorem dX7_odd_24 : decode cX7_odd 24 = .ok (.lreturn, 1) := by decide +kernel
theorem dX7_odd_25 : decode cX7_odd 25 = .ok (.iconst (-1), 1) := by decide +kernel
theorem dX7_odd_26 : decode cX7_odd 26 = .ok (.istore_n 2, 1) := by decide +kernel
theorem dX7_odd_27 : decode cX7_odd 27 = .ok (.lconst 0, 1) := by decide +kernel
theorem dX7_odd_28 : decode cX7_odd 28 = .ok (.lstore_n 3, 1) := by decide +kernel
theorem dX7_odd_29 : decode cX7_odd 29 = .ok (.lconst 1, 1) := by decide +kernel
theorem dX7_odd_30 : decode cX7_odd 30 = .ok (.lstore 5, 2) := by decide +kernel
theorem dX7_odd_32 : decode cX7_odd 32 = .ok (.iconst 0, 1) := by decide +kernel
theorem dX7_odd_33 : decode cX7_odd 33 = .ok (.istore 7, 2) := by decide +kernel
theorem dX7_odd_35 : decode cX7_odd 35 = .ok (.iload 7, 2) := by decide +kernel
theorem dX7_odd_37 : decode cX7_odd 37 = .ok (.bipush 60, 2) := by decide +kernel
theorem dX7_odd_39 : decode cX7_odd 39 = .ok (.if_icmp .ge 23, 3) := by decide +kernel
theorem dX7_odd_42 : decode cX7_odd 42 = .ok (.aload_n 0, 1) := by decide +kernel
theorem dX7_odd_43 : decode cX7_odd 43 = .ok (.getfield 13, 3) := by decide +kernel
theorem dX7_odd_46 : decode cX7_odd 46 = .ok (.iload 7, 2) := by decide +kernel
theorem dX7_odd_48 : decode cX7_odd 48 = .ok (.aload_n 0, 1) := by decide +kernel
theorem dX7_odd_49 : decode cX7_odd 49 = .ok (.getfield 7, 3) := by decide +kernel
theorem dX7_odd_52 : decode cX7_odd 52 = .ok (.iload 7, 2) := by decide +kernel
theorem dX7_odd_54 : decode cX7_odd 54 = .ok (.iaload, 1) := by decide +kernel
theorem dX7_odd_55 : decode cX7_odd 55 = .ok (.iastore, 1) := by decide +kernel
theorem dX7_odd_56 : decode cX7_odd 56 = .ok (.iinc 7 1, 3) := by decide +kernel
theorem dX7_odd_59 : decode cX7_odd 59 = .ok (.goto (-24), 3) := by decide +kernel
theorem dX7_odd_62 : decode cX7_odd 62 = .ok (.aload_n 0, 1) := by decide +kernel
theorem dX7_odd_63 : decode cX7_odd 63 = .ok (.invokevirtual 58, 3) := by decide +kernel
theorem dX7_odd_66 : decode cX7_odd 66 = .ok (.istore 7, 2) := by decide +kernel
theorem dX7_odd_68 : decode cX7_odd 68 = .ok (.iconst 0, 1) := by decide +kernel
theorem dX7_odd_69 : decode cX7_odd 69 = .ok (.istore 8, 2) := by decide +kernel
theorem dX7_odd_71 : decode cX7_odd 71 = .ok (.iload 8, 2) := by decide +kernel
theorem dX7_odd_73 : decode cX7_odd 73 = .ok (.iload 7, 2) := by decide +kernel
theorem dX7_odd_75 : decode cX7_odd 75 = .ok (.if_icmp .ge 88, 3) := by decide +kernel
theorem dX7_odd_78 : decode cX7_odd 78 = .ok (.aload_n 0, 1) := by decide +kernel
theorem dX7_odd_79 : decode cX7_odd 79 = .ok (.iload 8, 2) := by decide +kernel
theorem dX7_odd_81 : decode cX7_odd 81 = .ok (.invokevirtual 69, 3) := by decide +kernel
theorem dX7_odd_84 : decode cX7_odd 84 = .ok (.aload_n 0, 1) := by decide +kernel
theorem dX7_odd_85 : decode cX7_odd 85 = .ok (.invokevirtual 209, 3) := by decide +kernel
theorem dX7_odd_88 : decode cX7_odd 88 = .ok (.iconst 0, 1) := by decide +kernel
theorem dX7_odd_89 : decode cX7_odd 89 = .ok (.istore 9, 2) := by decide +kernel
theorem dX7_odd_91 : decode cX7_odd 91 = .ok (.iload 9, 2) := by decide +kernel
theorem dX7_odd_93 : decode cX7_odd 93 = .ok (.bipush 60, 2) := by decide +kernel
theorem dX7_odd_95 : decode cX7_odd 95 = .ok (.if_icmp .ge 23, 3) := by decide +kernel
theorem dX7_odd_98 : decode cX7_odd 98 = .ok (.aload_n 0, 1) := by decide +kernel
theorem dX7_odd_99 : decode cX7_odd 99 = .ok (.getfield 7, 3) := by decide +kernel
theorem dX7_odd_102 : decode cX7_odd 102 = .ok (.iload 9, 2) := by decide +kernel
theorem dX7_odd_104 : decode cX7_odd 104 = .ok (.aload_n 0, 1) := by decide +kernel
theorem dX7_odd_105 : decode cX7_odd 105 = .ok (.getfield 13, 3) := by decide +kernel
theorem dX7_odd_108 : decode cX7_odd 108 = .ok (.iload 9, 2) := by decide +kernel
theorem dX7_odd_110 : decode cX7_odd 110 = .ok (.iaload, 1) := by decide +kernel
theorem dX7_odd_111 : decode cX7_odd 111 = .ok (.iastore, 1) := by decide +kernel
theorem dX7_odd_112 : decode cX7_odd 112 = .ok (.iinc 9 1, 3) := by decide +kernel
theorem dX7_odd_115 : decode cX7_odd 115 = .ok (.goto (-24), 3) := by decide +kernel
theorem dX7_odd_118 : decode cX7_odd 118 = .ok (.iload_n 2, 1) := by decide +kernel
theorem dX7_odd_119 : decode cX7_odd 119 = .ok (.iconst (-1), 1) := by decide +kernel
theorem dX7_odd_120 : decode cX7_odd 120 = .ok (.if_icmp .eq 23, 3) := by decide +kernel
theorem dX7_odd_123 : decode cX7_odd 123 = .ok (.aload_n 0, 1) := by decide +kernel
theorem dX7_odd_124 : decode cX7_odd 124 = .ok (.getfield 206, 3) := by decide +kernel
theorem dX7_odd_127 : decode cX7_odd 127 = .ok (.aload_n 0, 1) := by decide +kernel
theorem dX7_odd_128 : decode cX7_odd 128 = .ok (.getfield 159, 3) := by decide +kernel
theorem dX7_odd_131 : decode cX7_odd 131 = .ok (.lload_n 3, 1) := by decide +kernel
theorem dX7_odd_132 : decode cX7_odd 132 = .ok (.lload 5, 2) := by decide +kernel
theorem dX7_odd_134 : decode cX7_odd 134 = .ok (.invokestatic 248, 3) := by decide +kernel
theorem dX7_odd_137 : decode cX7_odd 137 = .ok (.ifCond .lt 6, 3) := by decide +kernel
theorem dX7_odd_140 : decode cX7_odd 140 = .ok (.goto 17, 3) := by decide +kernel
theorem dX7_odd_143 : decode cX7_odd 143 = .ok (.iload 8, 2) := by decide +kernel
theorem dX7_odd_145 : decode cX7_odd 145 = .ok (.istore_n 2, 1) := by decide +kernel
theorem dX7_odd_146 : decode cX7_odd 146 = .ok (.aload_n 0, 1) := by decide +kernel
theorem dX7_odd_147 : decode cX7_odd 147 = .ok (.getfield 206, 3) := by decide +kernel
theorem dX7_odd_150 : decode cX7_odd 150 = .ok (.lstore_n 3, 1) := by decide +kernel
theorem dX7_odd_151 : decode cX7_odd 151 = .ok (.aload_n 0, 1) := by decide +kernel
theorem dX7_odd_152 : decode cX7_odd 152 = .ok (.getfield 159, 3) := by decide +kernel
theorem dX7_odd_155 : decode cX7_odd 155 = .ok (.lstore 5, 2) := by decide +kernel
theorem dX7_odd_157 : decode cX7_odd 157 = .ok (.iinc 8 1, 3) := by decide +kernel
theorem dX7_odd_160 : decode cX7_odd 160 = .ok (.goto (-89), 3) := by decide +kernel
theorem dX7_odd_163 : decode cX7_odd 163 = .ok (.iload_n 1, 1) := by decide +kernel
theorem dX7_odd_164 : decode cX7_odd 164 = .ok (.ifCond .ne 8, 3) := by decide +kernel
theorem dX7_odd_167 : decode cX7_odd 167 = .ok (.iload_n 2, 1) := by decide +kernel
theorem dX7_odd_168 : decode cX7_odd 168 = .ok (.i2l, 1) := by decide +kernel
theorem dX7_odd_169 : decode cX7_odd 169 = .ok (.goto 19, 3) := by decide +kernel
theorem dX7_odd_172 : decode cX7_odd 172 = .ok (.lload_n 3, 1) := by decide +kernel
theorem dX7_odd_173 : decode cX7_odd 173 = .ok (.lload 5, 2) := by decide +kernel
theorem dX7_odd_175 : decode cX7_odd 175 = .ok (.iload_n 1, 1) := by decide +kernel
theorem dX7_odd_176 : decode cX7_odd 176 = .ok (.iconst 2, 1) := by decide +kernel
theorem dX7_odd_177 : decode cX7_odd 177 = .ok (.if_icmp .ne 7, 3) := by decide +kernel
theorem dX7_odd_180 : decode cX7_odd 180 = .ok (.iconst 1, 1) := by decide +kernel
theorem dX7_odd_181 : decode cX7_odd 181 = .ok (.goto 4, 3) := by decide +kernel
theorem dX7_odd_184 : decode cX7_odd 184 = .ok (.iconst 0, 1) := by decide +kernel
theorem dX7_odd_185 : decode cX7_odd 185 = .ok (.invokestatic 196, 3) := by decide +kernel
theorem dX7_odd_188 : decode cX7_odd 188 = .ok (.lreturn, 1) := by decide +kernel
theorem dX7_even_0 : decode cX7_even 0 = .ok (.aload_n 0, 1) := by decide +kernel
theorem dX7_even_1 : decode cX7_even 1 = .ok (.iconst 0, 1) := by decide +kernel
theorem dX7_even_2 : decode cX7_even 2 = .ok (.putfield 43, 3) := by decide +kernel
theorem dX7_even_5 : decode cX7_even 5 = .ok (.iload_n 1, 1) := by decide +kernel
theorem dX7_even_6 : decode cX7_even 6 = .ok (.iconst 1, 1) := by decide +kernel
theorem dX7_even_7 : decode cX7_even 7 = .ok (.iconst 3, 1) := by decide +kernel
theorem dX7_even_8 : decode cX7_even 8 = .ok (.invokestatic 50, 3) := by decide +kernel
theorem dX7_even_11 : decode cX7_even 11 = .ok (.ifCond .eq 12, 3) := by decide +kernel
theorem dX7_even_14 : decode cX7_even 14 = .ok (.iload_n 2, 1) := by decide +kernel
theorem dX7_even_15 : decode cX7_even 15 = .ok (.iconst 0, 1) := by decide +kernel
theorem dX7_even_16 : decode cX7_even 16 = .ok (.iconst 1, 1) := by decide +kernel
theorem dX7_even_17 : decode cX7_even 17 = .ok (.invokestatic 50, 3) := by decide +kernel
theorem dX7_even_20 : decode cX7_even 20 = .ok (.ifCond .ne 5, 3) := by decide +kernel
theorem dX7_even_23 : decode cX7_even 23 = .ok (.iconst (-1), 1) := by decide +kernel
theorem dX7_even_24 : decode cX7_even 24 = .ok (.ireturn, 1) := by decide +kernel
theorem dX7_even_25 : decode cX7_even 25 = .ok (.aload_n 0, 1) := by decide +kernel
theorem dX7_even_26 : decode cX7_even 26 = .ok (.invokevirtual 183, 3) := by decide +kernel
theorem dX7_even_29 : decode cX7_even 29 = .ok (.iconst 0, 1) := by decide +kernel
theorem dX7_even_30 : decode cX7_even 30 = .ok (.istore_n 3, 1) := by decide +kernel
theorem dX7_even_31 : decode cX7_even 31 = .ok (.iconst 0, 1) := by decide +kernel
theorem dX7_even_32 : decode cX7_even 32 = .ok (.istore 4, 2) := by decide +kernel
theorem dX7_even_34 : decode cX7_even 34 = .ok (.lconst 0, 1) := by decide +kernel
theorem dX7_even_35 : decode cX7_even 35 = .ok (.lstore 5, 2) := by decide +kernel
theorem dX7_even_37 : decode cX7_even 37 = .ok (.iconst 1, 1) := by decide +kernel
theorem dX7_even_38 : decode cX7_even 38 = .ok (.istore 7, 2) := by decide +kernel
theorem dX7_even_40 : decode cX7_even 40 = .ok (.iload 7, 2) := by decide +kernel
theorem dX7_even_42 : decode cX7_even 42 = .ok (.iconst 1, 1) := by decide +kernel
theorem dX7_even_43 : decode cX7_even 43 = .ok (.aload_n 0, 1) := by decide +kernel
theorem dX7_even_44 : decode cX7_even 44 = .ok (.invokevirtual 46, 3) := by decide +kernel
theorem dX7_even_47 : decode cX7_even 47 = .ok (.ishl, 1) := by decide +kernel
theorem dX7_even_48 : decode cX7_even 48 = .ok (.if_icmp .ge 96, 3) := by decide +kernel
theorem dX7_even_51 : decode cX7_even 51 = .ok (.iconst 1, 1) := by decide +kernel
theorem dX7_even_52 : decode cX7_even 52 = .ok (.istore 8, 2) := by decide +kernel
theorem dX7_even_54 : decode cX7_even 54 = .ok (.iload 8, 2) := by decide +kernel
theorem dX7_even_56 : decode cX7_even 56 = .ok (.iconst 1, 1) := by decide +kernel
theorem dX7_even_57 : decode cX7_even 57 = .ok (.aload_n 0, 1) := by decide +kernel
theorem dX7_even_58 : decode cX7_even 58 = .ok (.invokevirtual 46, 3) := by decide +kernel
theorem dX7_even_61 : decode cX7_even 61 = .ok (.ishl, 1) := by decide +kernel
theorem dX7_even_62 : decode cX7_even 62 = .ok (.if_icmp .ge 76, 3) := by decide +kernel
theorem dX7_even_65 : decode cX7_even 65 = .ok (.aload_n 0, 1) := by decide +kernel
theorem dX7_even_66 : decode cX7_even 66 = .ok (.iload 7, 2) := by decide +kernel
theorem dX7_even_68 : decode cX7_even 68 = .ok (.iload 8, 2) := by decide +kernel
theorem dX7_even_70 : decode cX7_even 70 = .ok (.iload_n 1, 1) := by decide +kernel
theorem dX7_even_71 : decode cX7_even 71 = .ok (.invokevirtual 257, 3) := by decide +kernel
theorem dX7_even_74 : decode cX7_even 74 = .ok (.ifCond .ne 6, 3) := by decide +kernel
theorem dX7_even_77 : decode cX7_even 77 = .ok (.goto 55, 3) := by decide +kernel
theorem dX7_even_80 : decode cX7_even 80 = .ok (.aload_n 0, 1) := by decide +kernel
theorem dX7_even_81 : decode cX7_even 81 = .ok (.iload 7, 2) := by decide +kernel
theorem dX7_even_83 : decode cX7_even 83 = .ok (.iload 8, 2) := by decide +kernel
theorem dX7_even_85 : decode cX7_even 85 = .ok (.iconst 0, 1) := by decide +kernel
theorem dX7_even_86 : decode cX7_even 86 = .ok (.invokevirtual 149, 3) := by decide +kernel
theorem dX7_even_89 : decode cX7_even 89 = .ok (.aload_n 0, 1) := by decide +kernel
theorem dX7_even_90 : decode cX7_even 90 = .ok (.invokevirtual 189, 3) := by decide +kernel
theorem dX7_even_93 : decode cX7_even 93 = .ok (.ifCond .eq 39, 3) := by decide +kernel
theorem dX7_even_96 : decode cX7_even 96 = .ok (.iload_n 3, 1) := by decide +kernel
theorem dX7_even_97 : decode cX7_even 97 = .ok (.ifCond .le 19, 3) := by decide +kernel
theorem dX7_even_100 : decode cX7_even 100 = .ok (.aload_n 0, 1) := by decide +kernel
theorem dX7_even_101 : decode cX7_even 101 = .ok (.invokevirtual 192, 3) := by decide +kernel
theorem dX7_even_104 : decode cX7_even 104 = .ok (.invokestatic 173, 3) := by decide +kernel
theorem dX7_even_107 : decode cX7_even 107 = .ok (.lload 5, 2) := by decide +kernel
theorem dX7_even_109 : decode cX7_even 109 = .ok (.lcmp, 1) := by decide +kernel
theorem dX7_even_110 : decode cX7_even 110 = .ok (.ifCond .lt 6, 3) := by decide +kernel
theorem dX7_even_113 : decode cX7_even 113 = .ok (.goto 19, 3) := by decide +kernel
theorem dX7_even_116 : decode cX7_even 116 = .ok (.iload 7, 2) := by decide +kernel
theorem dX7_even_118 : decode cX7_even 118 = .ok (.istore_n 3, 1) := by decide +kernel
theorem dX7_even_119 : decode cX7_even 119 = .ok (.iload 8, 2) := by decide +kernel
theorem dX7_even_121 : decode cX7_even 121 = .ok (.istore 4, 2) := by decide +kernel
theorem dX7_even_123 : decode cX7_even 123 = .ok (.aload_n 0, 1) := by decide +kernel
theorem dX7_even_124 : decode cX7_even 124 = .ok (.invokevirtual 192, 3) := by decide +kernel
theorem dX7_even_127 : decode cX7_even 127 = .ok (.invokestatic 173, 3) := by decide +kernel
theorem dX7_even_130 : decode cX7_even 130 = .ok (.lstore 5, 2) := by decide +kernel
theorem dX7_even_132 : decode cX7_even 132 = .ok (.iinc 8 1, 3) := by decide +kernel
theorem dX7_even_135 : decode cX7_even 135 = .ok (.goto (-81), 3) := by decide +kernel
theorem dX7_even_138 : decode cX7_even 138 = .ok (.iinc 7 1, 3) := by decide +kernel
theorem dX7_even_141 : decode cX7_even 141 = .ok (.goto (-101), 3) := by decide +kernel
theorem dX7_even_144 : decode cX7_even 144 = .ok (.iload_n 3, 1) := by decide +kernel
theorem dX7_even_145 : decode cX7_even 145 = .ok (.ifCond .ne 7, 3) := by decide +kernel
theorem dX7_even_148 : decode cX7_even 148 = .ok (.iconst (-1), 1) := by decide +kernel
theorem dX7_even_149 : decode cX7_even 149 = .ok (.goto 13, 3) := by decide +kernel
theorem dX7_even_152 : decode cX7_even 152 = .ok (.iload_n 2, 1) := by decide +kernel
theorem dX7_even_153 : decode cX7_even 153 = .ok (.ifCond .ne 7, 3) := by decide +kernel
theorem dX7_even_156 : decode cX7_even 156 = .ok (.iload_n 3, 1) := by decide +kernel
theorem dX7_even_157 : decode cX7_even 157 = .ok (.goto 5, 3) := by decide +kernel
theorem dX7_even_160 : decode cX7_even 160 = .ok (.iload 4, 2) := by decide +kernel
theorem dX7_even_162 : decode cX7_even 162 = .ok (.ireturn, 1) := by decide +kernel
end
section
/-! ===== THE WORLD: 74 cells whose shape never changes once they are made; what changes is the numbers in them ===== -/
/-- the numbers: ints and longs, by the cell's number and the slot -/
abbrev sr_St : Type := (Nat → Nat → Int32) × (Nat → Nat → Int64)
/-- launch, classes' numbers, slots, the addresses of the cells, the array classes -/
abbrev sr_G : Type := Launch × (Nat → ClassId) × (Nat → Nat → Nat) × (Nat → Nat) × (Nat → ClassId)
/-- a method: name, code, locals, what it returns, frames and words that its callees take -/
abbrev sr_Md : Type := MethodName × ByteArray × Nat × Option FieldType × Nat × Nat
/-- the kind of each cell: 0 to 7 the classes of vwCl, 8 byte[], 9 int[], 10 long[], 11 boolean[], 12 long[][] -/
def sr_kinds : List Nat := [6, 3, 9, 9, 9, 9, 5, 4, 8, 3, 9, 9, 9, 9, 1, 12, 10, 10, 10, 10, 10, 10, 10, 10, 12, 10, 10, 10, 10, 10, 10, 10, 10, 11, 9, 1, 12, 10, 10, 10, 10, 10, 10, 10, 10, 12, 10, 10, 10, 10, 10, 10, 10, 10, 11, 9, 2, 2, 2, 0, 2, 9, 9, 7, 9, 9, 8, 9, 10, 10, 10, 10, 9, 10]
def sr_lens : List Nat := [0, 0, 12, 12, 12, 12, 0, 0, 300, 0, 12, 12, 12, 12, 0, 8, 8, 8, 8, 8, 8, 8, 8, 8, 8, 8, 8, 8, 8, 8, 8, 8, 8, 7, 8, 0, 8, 8, 8, 8, 8, 8, 8, 8, 8, 8, 8, 8, 8, 8, 8, 8, 8, 8, 7, 8, 0, 0, 0, 0, 0, 45, 45, 0, 60, 60, 300, 7, 49, 7, 56, 7, 7, 1]
def sr_kind (o : Nat) : Nat := sr_kinds.getD o 99
def sr_len (o : Nat) : Nat := sr_lens.getD o 0
/-- which cell a field names -/
def sr_refs : Nat → List Nat
  | 0 => [1, 6, 14, 35, 56, 57, 58, 59, 61, 62]
  | 1 => [0, 0, 0, 2, 3, 4, 5]
  | 6 => [0, 0, 7, 9]
  | 7 => [0, 0, 0, 0, 0, 8]
  | 9 => [0, 0, 0, 10, 11, 12, 13]
  | 14 => [0, 0, 15, 24, 33, 34]
  | 35 => [0, 0, 36, 45, 54, 55]
  | 59 => [0, 0, 0, 60]
  | 63 => [0, 64, 65, 66, 0, 0, 0, 0, 0, 0, 67, 68, 69, 70, 71, 72]
  | _ => []
def sr_ref (o k : Nat) : Nat := (sr_refs o).getD k 0
/-- the fields of a class: 0 an int, 1 a long, 2 a cell -/
def sr_ty : Nat → List Nat
  | 0 => [0, 0, 0, 2]
  | 1 => [1, 0, 2, 2, 2, 2]
  | 2 => [1, 1]
  | 3 => [0, 0, 0, 2, 2, 2, 2]
  | 4 => [0, 0, 0, 0, 0, 2]
  | 5 => [0, 0, 2, 2, 0, 0]
  | 6 => [2, 2, 2, 2, 2, 2, 2, 2, 2, 2, 0, 0]
  | 7 => [0, 2, 2, 2, 0, 0, 0, 0, 0, 0, 2, 2, 2, 2, 2, 2, 0, 1, 0, 1, 1, 0, 0, 0, 1, 1]
  | _ => []
def sr_fv (ad : Nat → Nat) (D : sr_St) (o k : Nat) (t : Nat) : Value := match t with
  | 0 => .int (D.1 o k)
  | 1 => .long (D.2 o k)
  | _ => .ref (ad (sr_ref o k))
def sr_fs (ad : Nat → Nat) (D : sr_St) (o : Nat) : Nat → List Nat → List Value
  | _, [] => []
  | k, t :: ts => sr_fv ad D o k t :: sr_fs ad D o (k + 1) ts
theorem sr_fs_len (ad : Nat → Nat) (D : sr_St) (o : Nat) (ts : List Nat) : ∀ k, (sr_fs ad D o k ts).length = ts.length := by
  induction ts with
  | nil => intro k; rfl
  | cons t ts ih => intro k; simp [sr_fs, ih]
theorem sr_fs_get (ad : Nat → Nat) (D : sr_St) (o : Nat) (ts : List Nat) : ∀ (k j : Nat), (sr_fs ad D o k ts)[j]? = (ts[j]?).map (fun t => sr_fv ad D o (k + j) t) := by
  induction ts with
  | nil => intro k j; simp [sr_fs]
  | cons t ts ih =>
    intro k j
    cases j with
    | zero => simp [sr_fs]
    | succ j => simp only [sr_fs, List.getElem?_cons_succ, ih]; rw [show k + 1 + j = k + (j + 1) by omega]
def sr_cell (ad : Nat → Nat) (cy : Nat → ClassId) (D : sr_St) (o : Nat) : va_E :=
  if sr_kind o < 8 then .inr (sr_kind o, sr_fs ad D o 0 (sr_ty (sr_kind o)))
  else if sr_kind o = 10 then .inl (cy 10, sr_len o, .inr (.inl (D.2 o)))
  else if sr_kind o = 12 then .inl (cy 12, sr_len o, .inr (.inr (.inr (.inr (fun i => some (ad (o + 1 + i)))))))
  else .inl (cy (sr_kind o), sr_len o, .inl (D.1 o))
def sr_W (ad : Nat → Nat) (cy : Nat → ClassId) (D : sr_St) : va_W := (List.range 74).map (fun o => (ad o, sr_cell ad cy D o))
theorem sr_W_get {ad : Nat → Nat} {cy : Nat → ClassId} {D : sr_St} {o : Nat} (ho : o < 74) : (sr_W ad cy D)[o]? = some (ad o, sr_cell ad cy D o) := by
  simp [sr_W, ho]
theorem sr_W_len {ad : Nat → Nat} {cy : Nat → ClassId} {D : sr_St} : (sr_W ad cy D).length = 74 := by simp [sr_W]
def sr_inj (ad : Nat → Nat) : Prop := ∀ i j : Nat, i < 74 → j < 74 → ad i = ad j → i = j
def sr_A (ad : Nat → Nat) : Nat → Prop := fun q => ∃ o, o < 74 ∧ q = ad o
theorem sr_W_D {ad : Nat → Nat} {cy : Nat → ClassId} {D : sr_St} (h : sr_inj ad) : va_D (sr_A ad) (sr_W ad cy D) := by
  have lt : ∀ (k : Nat) (q : Nat × va_E), (sr_W ad cy D)[k]? = some q → k < 74 ∧ q.1 = ad k := by
    intro k q hk
    have hl : k < 74 := by
      have := (List.getElem?_eq_some_iff.mp hk).1
      rwa [sr_W_len] at this
    rw [sr_W_get hl] at hk
    exact ⟨hl, by rw [← Option.some.inj hk]⟩
  refine ⟨fun i j p q hp hq e => ?_, fun k q hk => ⟨k, lt k q hk⟩⟩
  obtain ⟨h1, h2⟩ := lt i p hp
  obtain ⟨h3, h4⟩ := lt j q hq
  exact h i j h1 h3 (by rw [← h2, ← h4]; exact e)
/-- one number changes -/
def sr_sI (D : sr_St) (o k : Nat) (v : Int32) : sr_St := (fun p => if p = o then upd (D.1 o) k v else D.1 p, D.2)
def sr_sJ (D : sr_St) (o k : Nat) (v : Int64) : sr_St := (D.1, fun p => if p = o then vp_updL (D.2 o) k v else D.2 p)
theorem sr_sI_1 (D : sr_St) (o k : Nat) (v : Int32) (p j : Nat) : (sr_sI D o k v).1 p j = if p = o ∧ j = k then v else D.1 p j := by
  unfold sr_sI upd
  by_cases h : p = o <;> by_cases h2 : j = k <;> simp [h, h2]
theorem sr_sI_2 (D : sr_St) (o k : Nat) (v : Int32) : (sr_sI D o k v).2 = D.2 := rfl
theorem sr_sJ_1 (D : sr_St) (o k : Nat) (v : Int64) : (sr_sJ D o k v).1 = D.1 := rfl
theorem sr_sJ_2 (D : sr_St) (o k : Nat) (v : Int64) (p j : Nat) : (sr_sJ D o k v).2 p j = if p = o ∧ j = k then v else D.2 p j := by
  unfold sr_sJ vp_updL
  by_cases h : p = o <;> by_cases h2 : j = k <;> simp [h, h2]
theorem sr_sI_same (D : sr_St) (o k : Nat) (v : Int32) : (sr_sI D o k v).1 o k = v := by simp [sr_sI_1]
theorem sr_sJ_same (D : sr_St) (o k : Nat) (v : Int64) : (sr_sJ D o k v).2 o k = v := by simp [sr_sJ_2]
theorem sr_fs_off {ad : Nat → Nat} {D D' : sr_St} {o : Nat} (h1 : D'.1 o = D.1 o) (h2 : D'.2 o = D.2 o) (ts : List Nat) : ∀ k, sr_fs ad D' o k ts = sr_fs ad D o k ts := by
  induction ts with
  | nil => intro k; rfl
  | cons t ts ih =>
    intro k
    simp only [sr_fs, ih, sr_fv, h1, h2]
theorem sr_cell_off {ad : Nat → Nat} {cy : Nat → ClassId} {D D' : sr_St} {o : Nat} (h1 : D'.1 o = D.1 o) (h2 : D'.2 o = D.2 o) : sr_cell ad cy D' o = sr_cell ad cy D o := by
  unfold sr_cell
  rw [sr_fs_off h1 h2, h1, h2]
theorem sr_W_set {ad : Nat → Nat} {cy : Nat → ClassId} {D D' : sr_St} {o : Nat} {x : va_E} (h1 : ∀ p, p ≠ o → D'.1 p = D.1 p) (h2 : ∀ p, p ≠ o → D'.2 p = D.2 p) (hx : sr_cell ad cy D' o = x) : (sr_W ad cy D).set o (ad o, x) = sr_W ad cy D' := by
  apply List.ext_getElem?
  intro i
  by_cases hi : i < 74
  · rw [sr_W_get hi]
    by_cases e : i = o
    · subst e
      rw [List.getElem?_set_self (by rw [sr_W_len]; exact hi), hx]
    · rw [List.getElem?_set_ne (fun q => e q.symm), sr_W_get hi, sr_cell_off (h1 i e) (h2 i e)]
  · rw [List.getElem?_eq_none (by simp [sr_W_len]; omega), List.getElem?_eq_none (by simp [sr_W_len]; omega)]
theorem sr_fs_setI {ad : Nat → Nat} {D : sr_St} {o j : Nat} {v : Int32} (ts : List Nat) : ∀ k, ts[j]? = some 0 → sr_fs ad (sr_sI D o (k + j) v) o k ts = (sr_fs ad D o k ts).set j (.int v) := by
  intro k h
  apply List.ext_getElem?
  intro i
  have hl : j < ts.length := (List.getElem?_eq_some_iff.mp h).1
  rw [sr_fs_get]
  by_cases e : i = j
  · subst e
    rw [List.getElem?_set_self (by rw [sr_fs_len]; exact hl), h]
    simp [sr_fv, sr_sI_same]
  · rw [List.getElem?_set_ne (fun q => e q.symm), sr_fs_get]
    cases ht : ts[i]? with
    | none => rfl
    | some t => simp [sr_fv, sr_sI_1, sr_sI_2, show ¬ (k + i = k + j) by omega, e]
theorem sr_fs_setJ {ad : Nat → Nat} {D : sr_St} {o j : Nat} {v : Int64} (ts : List Nat) : ∀ k, ts[j]? = some 1 → sr_fs ad (sr_sJ D o (k + j) v) o k ts = (sr_fs ad D o k ts).set j (.long v) := by
  intro k h
  apply List.ext_getElem?
  intro i
  have hl : j < ts.length := (List.getElem?_eq_some_iff.mp h).1
  rw [sr_fs_get]
  by_cases e : i = j
  · subst e
    rw [List.getElem?_set_self (by rw [sr_fs_len]; exact hl), h]
    simp [sr_fv, sr_sJ_same]
  · rw [List.getElem?_set_ne (fun q => e q.symm), sr_fs_get]
    cases ht : ts[i]? with
    | none => rfl
    | some t => simp [sr_fv, sr_sJ_1, sr_sJ_2, show ¬ (k + i = k + j) by omega, e]
theorem sr_putI {ad : Nat → Nat} {cy : Nat → ClassId} {D : sr_St} {o k : Nat} {v : Int32} (hk : sr_kind o < 8) (ht : (sr_ty (sr_kind o))[k]? = some 0) : (sr_W ad cy D).set o (ad o, .inr (sr_kind o, (sr_fs ad D o 0 (sr_ty (sr_kind o))).set k (.int v))) = sr_W ad cy (sr_sI D o k v) := by
  refine sr_W_set (fun p hp => by simp [sr_sI, hp]) (fun p hp => rfl) ?_
  have := sr_fs_setI (ad := ad) (D := D) (o := o) (v := v) (sr_ty (sr_kind o)) 0 ht
  rw [Nat.zero_add] at this
  unfold sr_cell
  rw [if_pos hk, this]
theorem sr_putJ {ad : Nat → Nat} {cy : Nat → ClassId} {D : sr_St} {o k : Nat} {v : Int64} (hk : sr_kind o < 8) (ht : (sr_ty (sr_kind o))[k]? = some 1) : (sr_W ad cy D).set o (ad o, .inr (sr_kind o, (sr_fs ad D o 0 (sr_ty (sr_kind o))).set k (.long v))) = sr_W ad cy (sr_sJ D o k v) := by
  refine sr_W_set (fun p hp => rfl) (fun p hp => by simp [sr_sJ, hp]) ?_
  have := sr_fs_setJ (ad := ad) (D := D) (o := o) (v := v) (sr_ty (sr_kind o)) 0 ht
  rw [Nat.zero_add] at this
  unfold sr_cell
  rw [if_pos hk, this]
theorem sr_cell_o {ad : Nat → Nat} {cy : Nat → ClassId} {D : sr_St} {o : Nat} (hk : sr_kind o < 8) : sr_cell ad cy D o = .inr (sr_kind o, sr_fs ad D o 0 (sr_ty (sr_kind o))) := if_pos hk
theorem sr_cell_J {ad : Nat → Nat} {cy : Nat → ClassId} {D : sr_St} {o : Nat} (hk : sr_kind o = 10) : sr_cell ad cy D o = .inl (cy 10, sr_len o, .inr (.inl (D.2 o))) := by simp [sr_cell, hk]
theorem sr_cell_I {ad : Nat → Nat} {cy : Nat → ClassId} {D : sr_St} {o : Nat} (hk : sr_kind o = 9) : sr_cell ad cy D o = .inl (cy 9, sr_len o, .inl (D.1 o)) := by simp [sr_cell, hk]
theorem sr_cell_B {ad : Nat → Nat} {cy : Nat → ClassId} {D : sr_St} {o : Nat} (hk : sr_kind o = 8) : sr_cell ad cy D o = .inl (cy 8, sr_len o, .inl (D.1 o)) := by simp [sr_cell, hk]
theorem sr_cell_Z {ad : Nat → Nat} {cy : Nat → ClassId} {D : sr_St} {o : Nat} (hk : sr_kind o = 11) : sr_cell ad cy D o = .inl (cy 11, sr_len o, .inl (D.1 o)) := by simp [sr_cell, hk]
theorem sr_cell_Q {ad : Nat → Nat} {cy : Nat → ClassId} {D : sr_St} {o : Nat} (hk : sr_kind o = 12) : sr_cell ad cy D o = .inl (cy 12, sr_len o, .inr (.inr (.inr (.inr (fun i => some (ad (o + 1 + i))))))) := by simp [sr_cell, hk]
theorem sr_astI {ad : Nat → Nat} {cy : Nat → ClassId} {D : sr_St} {o k : Nat} {v : Int32} {kd : Nat} (hk : sr_kind o = kd) (hq : kd = 8 ∨ kd = 9 ∨ kd = 11) : (sr_W ad cy D).set o (ad o, .inl (cy kd, sr_len o, .inl (upd (D.1 o) k v))) = sr_W ad cy (sr_sI D o k v) := by
  refine sr_W_set (fun p hp => by simp [sr_sI, hp]) (fun p hp => rfl) ?_
  rcases hq with h | h | h <;> subst h <;> simp [sr_cell, hk, sr_sI]
theorem sr_astJ {ad : Nat → Nat} {cy : Nat → ClassId} {D : sr_St} {o k : Nat} {v : Int64} (hk : sr_kind o = 10) : (sr_W ad cy D).set o (ad o, .inl (cy 10, sr_len o, .inr (.inl (vp_updL (D.2 o) k v)))) = sr_W ad cy (sr_sJ D o k v) := by
  refine sr_W_set (fun p hp => rfl) (fun p hp => by simp [sr_sJ, hp]) ?_
  simp [sr_cell, hk, sr_sJ]
def sr_tys (cy : Nat → ClassId) : List (ClassId × FieldType) := [(cy 8, .byte), (cy 9, .int), (cy 10, .long), (cy 11, .boolean), (cy 12, .array .long)]
/-- a value whose cells are numbers, as the machine has it -/
def sr_cv (ad : Nat → Nat) : Value → Value
  | .ref o => .ref (ad o)
  | v => v
theorem sr_cv_cat (ad : Nat → Nat) (v : Value) : (sr_cv ad v).category = v.category := by cases v <;> rfl
def sr_cl (ad : Nat → Nat) (q : Nat × Value) : Nat × Value := (q.1, sr_cv ad q.2)
theorem sr_args_map (ad : Nat → Nat) (vs : List Value) : ∀ i, lv_args i (vs.map (sr_cv ad)) = (lv_args i vs).map (sr_cl ad) := by
  induction vs with
  | nil => intro i; rfl
  | cons v vs ih =>
    intro i
    simp only [List.map_cons, lv_args, sr_cv_cat, ih, sr_cl]
/-- the words that all methods share -/
def sr_ws : List Cond := lw_tbl.filter goodWord
theorem sr_ws_in : ∀ w ∈ sr_ws, w ∈ lw_tbl := fun w h => (List.mem_filter.mp h).1
theorem sr_goodIn : GoodIn sr_ws sr_ws := fun w h => ⟨h, good_of_word (List.mem_filter.mp h).2⟩
theorem sr_mt1 {w : Cond} (h : w ∈ tables_1_1) (hg : goodWord w = true) : w ∈ sr_ws := List.mem_filter.mpr ⟨List.mem_append_right _ (List.mem_append_left _ h), hg⟩
theorem sr_mt2 {w : Cond} (h : w ∈ tables_1_2) (hg : goodWord w = true) : w ∈ sr_ws := List.mem_filter.mpr ⟨List.mem_append_right _ (List.mem_append_right _ (List.mem_append_left _ h)), hg⟩
theorem sr_mt3 {w : Cond} (h : w ∈ tables_1_3) (hg : goodWord w = true) : w ∈ sr_ws := List.mem_filter.mpr ⟨List.mem_append_right _ (List.mem_append_right _ (List.mem_append_right _ (List.mem_append_left _ h))), hg⟩
theorem sr_mt4 {w : Cond} (h : w ∈ tables_1_4) (hg : goodWord w = true) : w ∈ sr_ws := List.mem_filter.mpr ⟨List.mem_append_right _ (List.mem_append_right _ (List.mem_append_right _ (List.mem_append_right _ (List.mem_append_left _ h)))), hg⟩
theorem sr_mt5 {w : Cond} (h : w ∈ tables_1_5) (hg : goodWord w = true) : w ∈ sr_ws := List.mem_filter.mpr ⟨List.mem_append_right _ (List.mem_append_right _ (List.mem_append_right _ (List.mem_append_right _ (List.mem_append_right _ h)))), hg⟩
theorem sr_mp1 {y : MethodName} {n : Nat} (h : (y, n) ∈ lw_privs_1) (hg : goodWord (Cond.selects y.cls y y) = true) : Cond.selects y.cls y y ∈ sr_ws := List.mem_filter.mpr ⟨List.mem_append_left _ (List.mem_map.mpr ⟨(y, n), (List.mem_append_left _ h), rfl⟩), hg⟩
theorem sr_mp2 {y : MethodName} {n : Nat} (h : (y, n) ∈ lw_privs_2) (hg : goodWord (Cond.selects y.cls y y) = true) : Cond.selects y.cls y y ∈ sr_ws := List.mem_filter.mpr ⟨List.mem_append_left _ (List.mem_map.mpr ⟨(y, n), (List.mem_append_right _ (List.mem_append_left _ h)), rfl⟩), hg⟩
theorem sr_mp3 {y : MethodName} {n : Nat} (h : (y, n) ∈ lw_privs_3) (hg : goodWord (Cond.selects y.cls y y) = true) : Cond.selects y.cls y y ∈ sr_ws := List.mem_filter.mpr ⟨List.mem_append_left _ (List.mem_map.mpr ⟨(y, n), (List.mem_append_right _ (List.mem_append_right _ (List.mem_append_left _ h))), rfl⟩), hg⟩
theorem sr_mp4 {y : MethodName} {n : Nat} (h : (y, n) ∈ lw_privs_4) (hg : goodWord (Cond.selects y.cls y y) = true) : Cond.selects y.cls y y ∈ sr_ws := List.mem_filter.mpr ⟨List.mem_append_left _ (List.mem_map.mpr ⟨(y, n), (List.mem_append_right _ (List.mem_append_right _ (List.mem_append_right _ (List.mem_append_left _ h)))), rfl⟩), hg⟩
theorem sr_mp5 {y : MethodName} {n : Nat} (h : (y, n) ∈ lw_privs_5) (hg : goodWord (Cond.selects y.cls y y) = true) : Cond.selects y.cls y y ∈ sr_ws := List.mem_filter.mpr ⟨List.mem_append_left _ (List.mem_map.mpr ⟨(y, n), (List.mem_append_right _ (List.mem_append_right _ (List.mem_append_right _ (List.mem_append_right _ h)))), rfl⟩), hg⟩
end
section
/-! ===== THE WALK: WP g M pc lv st D Q: method M, at pc, with locals lv, stack st, numbers D, returns with Q ===== -/
abbrev sr_rm (M : sr_Md) : Room := { frames := M.2.2.2.2.1, cells := 0, slots := 0, locals := M.2.2.2.2.2 }
def sr_K (g : sr_G) (U : State) : Prop := va_K (g.2.1, g.2.2.1) vwCl (sr_tys g.2.2.2.2) U
def sr_P (g : sr_G) (D : sr_St) (H : Heap) : Prop := va_P (g.2.1, g.2.2.1) vwCl (sr_W g.2.2.2.1 g.2.2.2.2 D) H
def sr_QC (g : sr_G) (Q : Option Value → sr_St → Prop) : Array Value → State → Outcome → State → Prop := fun _ st oc t => (∃ (r : Option Value) (D' : sr_St), oc = .returned (r.map (sr_cv g.2.2.2.1)) ∧ Q r D' ∧ sr_P g D' t.heap ∧ sr_K g t) ∧ va_F (sr_A g.2.2.2.1) st t
def sr_CX (g : sr_G) (M : sr_Md) (p : Program) (s : State) (m : MethodId) (args : Array Value) (meth : Method) (c : Code) : Prop :=
  p.tables.exec = Jvm.exec ∧ c.code = M.2.1 ∧ meth.sig.returnType = M.2.2.2.1 ∧ c.maxLocals = M.2.2.1 ∧ s.vm.findClass M.1.cls = some m.cls ∧ meth.locks = false ∧ (∀ w ∈ sr_ws, w.before args s = true) ∧ sr_K g s ∧ sr_inj g.2.2.2.1
def WP (g : sr_G) (M : sr_Md) (pc : Nat) (lv : List (Nat × Value)) (st : List Value) (D : sr_St) (Q : Option Value → sr_St → Prop) : Prop :=
  ∀ (p : Program) (e : Env) (s : State) (m : MethodId) (args : Array Value) (below : List Frame) (meth : Method) (c : Code) (H : Heap) (locs : List Loc) (ls : Array Slot),
    sr_CX g M p s m args meth c → sr_P g D H → va_S (sr_A g.2.2.2.1) s.heap H locs → lv_has ls M.2.2.1 (lv.map (sr_cl g.2.2.2.1)) →
    W p g.1 e (sr_rm M) s m args below meth c H locs 0 0 (MQ below (sr_QC g Q) args s 0 0 (sr_A g.2.2.2.1)) (F0 m pc ls (st.map (sr_cv g.2.2.2.1)))
/-- a method's contract: from the arguments av and the numbers D it returns with Q -/
def Con (g : sr_G) (M : sr_Md) (av : List Value) (D : sr_St) (Q : Option Value → sr_St → Prop) : Prop :=
  Met g.1 M.1 (.code M.1 M.2.1 M.2.2.1 M.2.2.2.1 :: sr_ws) (sr_rm M) (va_Pc (av.map (sr_cv g.2.2.2.1)) (fun U => sr_P g D U.heap ∧ sr_K g U ∧ sr_inj g.2.2.2.1)) (sr_QC g Q) 0 0 (sr_A g.2.2.2.1)
theorem sr_F0map (ad : Nat → Nat) (v : Value) (st : List Value) : (v :: st).map (sr_cv ad) = sr_cv ad v :: st.map (sr_cv ad) := rfl
theorem Con.of {g : sr_G} {M : sr_Md} {av : List Value} {D : sr_St} {Q : Option Value → sr_St → Prop} (hy : plainName M.1.cls = true) (hn : (lg_sl (av.map (sr_cv g.2.2.2.1))).length ≤ M.2.2.1) (h : WP g M 0 (lv_args 0 av) [] D Q) : Con g M av D Q := by
  refine Met.ofW (cc := M.2.1) (maxL := M.2.2.1) (ret := M.2.2.2.1) hy rfl ?_
  intro p e s m args below meth c s₁ B hml hv
  obtain ⟨rfl, hP, hK, hi⟩ := hv
  have hx := B.exec
  have hb := B.bytes
  have hr := B.returns
  have hts := atoms_spec (ws := .code M.1 M.2.1 M.2.2.1 M.2.2.2.1 :: sr_ws) B.pre
  have hown : s.vm.findClass M.1.cls = some m.cls := findClass_of_methodNamed B.named
  have hlocks := B.notSynchronized
  have hl := lv_entry (av.map (sr_cv g.2.2.2.1)) (n := M.2.2.1) hn
  rw [lg_entry_eq]
  rw [sr_args_map] at hl
  exact h p e s m _ below meth c s.heap [] _ ⟨hx, hb, hr, hml, hown, hlocks, fun w hw => hts w (List.mem_cons_of_mem _ hw), hK, hi⟩ hP va_S.rf hl
theorem Con.weaken {g : sr_G} {M : sr_Md} {av : List Value} {D : sr_St} {Q Q' : Option Value → sr_St → Prop} (h : Con g M av D Q) (hq : ∀ r D', Q r D' → Q' r D') : Con g M av D Q' := by
  intro p e ha hc hk s m args below hf happ hP hx
  obtain ⟨n, o, h1, h2, h3, ⟨⟨⟨r, D', e1, e2, e3⟩, e4⟩, e5⟩⟩ := h p e ha hc hk s m args below hf happ hP hx
  exact ⟨n, o, h1, h2, h3, ⟨⟨⟨r, D', e1, hq r D' e2, e3⟩, e4⟩, e5⟩⟩
section WPr
variable {g : sr_G} {M : sr_Md} {pc : Nat} {lv lv' : List (Nat × Value)} {st : List Value} {D : sr_St} {Q : Option Value → sr_St → Prop}
/-- fewer locals -/
theorem wp_sub (h : ∀ q ∈ lv', q ∈ lv) (k : WP g M pc lv' st D Q) : WP g M pc lv st D Q := by
  intro p e s m args below meth c H locs ls C hP hS hl
  refine k p e s m args below meth c H locs ls C hP hS ⟨hl.1, hl.2.1, fun q hq => ?_⟩
  obtain ⟨q', hq', rfl⟩ := List.mem_map.mp hq
  exact hl.2.2 _ (List.mem_map_of_mem (h q' hq'))
theorem wp_mono {Q' : Option Value → sr_St → Prop} (hq : ∀ r D', Q r D' → Q' r D') (k : WP g M pc lv st D Q) : WP g M pc lv st D Q' := by
  intro p e s m args below meth c H locs ls C hP hS hl T hT X
  obtain ⟨t, a, o, b1, b2, ⟨⟨r, D', e1, e2, e3⟩, e4⟩, b4⟩ := k p e s m args below meth c H locs ls C hP hS hl T hT X
  exact ⟨t, a, o, b1, b2, ⟨⟨r, D', e1, hq r D' e2, e3⟩, e4⟩, b4⟩
/-- a name for a number on the stack -/
theorem wp_topi {x : Int32} (k : ∀ y : Int32, y = x → WP g M pc lv (.int y :: st) D Q) : WP g M pc lv (.int x :: st) D Q := k x rfl
theorem wp_topl {x : Int64} (k : ∀ y : Int64, y = x → WP g M pc lv (.long y :: st) D Q) : WP g M pc lv (.long x :: st) D Q := k x rfl
theorem wp_D (k : ∀ E : sr_St, E = D → WP g M pc lv st E Q) : WP g M pc lv st D Q := k D rfl
def sr_get : List (Nat × Value) → Nat → Option Value
  | [], _ => none
  | (k, v) :: t, i => match Nat.beq k i with
    | true => some v
    | false => sr_get t i
theorem sr_get_mem {i : Nat} {v : Value} : ∀ {l : List (Nat × Value)}, sr_get l i = some v → (i, v) ∈ l := by
  intro l
  induction l with
  | nil => intro h; cases h
  | cons q t ih =>
    obtain ⟨k, w⟩ := q
    intro h
    unfold sr_get at h
    cases hb : Nat.beq k i with
    | true =>
      rw [hb] at h
      have hk := Nat.eq_of_beq_eq_true hb
      cases h
      subst hk
      exact List.mem_cons_self
    | false =>
      rw [hb] at h
      exact List.mem_cons_of_mem _ (ih h)
theorem sr_at {ad : Nat → Nat} {ls : Array Slot} {n i : Nat} {v : Value} (h : lv_has ls n (lv.map (sr_cl ad))) (hg : sr_get lv i = some v) : ls[i]? = some (.val (sr_cv ad v)) := h.2.2 (i, sr_cv ad v) (List.mem_map.mpr ⟨(i, v), sr_get_mem hg, rfl⟩)
def sr_del : List (Nat × Value) → Nat → Bool → List (Nat × Value)
  | [], _, _ => []
  | (k, v) :: t, i, b => match (Nat.beq k i || (Nat.beq (k + 1) i && Nat.beq v.category 2) || (b && Nat.beq k (i + 1))) with
    | true => sr_del t i b
    | false => (k, v) :: sr_del t i b
def sr_ins : List (Nat × Value) → Nat → Value → List (Nat × Value)
  | [], i, v => [(i, v)]
  | (k, w) :: t, i, v => match Nat.blt i k with
    | true => (i, v) :: (k, w) :: t
    | false => (k, w) :: sr_ins t i v
def sr_set (l : List (Nat × Value)) (i : Nat) (v : Value) (b : Bool) : List (Nat × Value) := sr_ins (sr_del l i b) i v
theorem sr_ins_mem {i : Nat} {v : Value} {q : Nat × Value} : ∀ {l : List (Nat × Value)}, q ∈ sr_ins l i v → q = (i, v) ∨ q ∈ l := by
  intro l
  induction l with
  | nil => intro h; exact Or.inl (List.mem_singleton.mp h)
  | cons w t ih =>
    intro h
    unfold sr_ins at h
    cases hb : Nat.blt i w.1 with
    | true =>
      rw [hb] at h
      exact (List.mem_cons.mp h)
    | false =>
      rw [hb] at h
      rcases List.mem_cons.mp h with h | h
      · exact Or.inr (List.mem_cons.mpr (Or.inl h))
      · exact (ih h).imp id (fun h => List.mem_cons_of_mem _ h)
theorem sr_del_mem {i : Nat} {b : Bool} {q : Nat × Value} : ∀ {l : List (Nat × Value)}, q ∈ sr_del l i b → q ∈ l ∧ ¬ q.1 = i ∧ ¬ (q.1 + 1 = i ∧ q.2.category = 2) ∧ ¬ (b = true ∧ q.1 = i + 1) := by
  intro l
  induction l with
  | nil => intro h; cases h
  | cons w t ih =>
    intro h
    unfold sr_del at h
    cases hb : (Nat.beq w.1 i || (Nat.beq (w.1 + 1) i && Nat.beq w.2.category 2) || (b && Nat.beq w.1 (i + 1))) with
    | true =>
      rw [hb] at h
      have := ih h
      exact ⟨List.mem_cons_of_mem _ this.1, this.2⟩
    | false =>
      rw [hb] at h
      rcases List.mem_cons.mp h with h | h
      · subst h
        simp only [Bool.or_eq_false_iff, Bool.and_eq_false_iff] at hb
        obtain ⟨⟨h1, h2⟩, h3⟩ := hb
        refine ⟨List.mem_cons_self, Nat.ne_of_beq_eq_false h1, fun e => ?_, fun e => ?_⟩
        · rcases h2 with h2 | h2
          · exact Nat.ne_of_beq_eq_false h2 e.1
          · exact Nat.ne_of_beq_eq_false h2 e.2
        · rcases h3 with h3 | h3
          · rw [e.1] at h3; cases h3
          · exact Nat.ne_of_beq_eq_false h3 e.2
      · have := ih h
        exact ⟨List.mem_cons_of_mem _ this.1, this.2⟩
theorem sr_set_sub1 {ad : Nat → Nat} {ls : Array Slot} {n i : Nat} {v : Value} (h : lv_has ls n ((i, sr_cv ad v) :: (lv.map (sr_cl ad)).filter (fun q => !(q.1 == i) && !(q.1 + 1 == i && q.2.category == 2)))) : lv_has ls n ((sr_set lv i v false).map (sr_cl ad)) := by
  refine ⟨h.1, h.2.1, fun q hq => ?_⟩
  obtain ⟨q', hq', rfl⟩ := List.mem_map.mp hq
  rcases sr_ins_mem hq' with e | e
  · subst e
    exact h.2.2 _ List.mem_cons_self
  · obtain ⟨e1, e2, e3, -⟩ := sr_del_mem e
    refine h.2.2 _ (List.mem_cons_of_mem _ (List.mem_filter.mpr ⟨List.mem_map_of_mem e1, ?_⟩))
    simp only [sr_cl, sr_cv_cat, Bool.and_eq_true, Bool.not_eq_true', beq_eq_false_iff_ne, ne_eq, Bool.and_eq_false_iff]
    exact ⟨e2, (Decidable.em (q'.1 + 1 = i)).elim (fun h => Or.inr (fun h2 => e3 ⟨h, h2⟩)) (fun h => Or.inl h)⟩
theorem sr_set_sub2 {ad : Nat → Nat} {ls : Array Slot} {n i : Nat} {v : Value} (h : lv_has ls n ((i, sr_cv ad v) :: (lv.map (sr_cl ad)).filter (fun q => !(q.1 == i) && (!(q.1 == i + 1) && !(q.1 + 1 == i && q.2.category == 2))))) : lv_has ls n ((sr_set lv i v true).map (sr_cl ad)) := by
  refine ⟨h.1, h.2.1, fun q hq => ?_⟩
  obtain ⟨q', hq', rfl⟩ := List.mem_map.mp hq
  rcases sr_ins_mem hq' with e | e
  · subst e
    exact h.2.2 _ List.mem_cons_self
  · obtain ⟨e1, e2, e3, e4⟩ := sr_del_mem e
    refine h.2.2 _ (List.mem_cons_of_mem _ (List.mem_filter.mpr ⟨List.mem_map_of_mem e1, ?_⟩))
    simp only [sr_cl, sr_cv_cat, Bool.and_eq_true, Bool.not_eq_true', beq_eq_false_iff_ne, ne_eq, Bool.and_eq_false_iff]
    exact ⟨e2, fun h => e4 ⟨rfl, h⟩, (Decidable.em (q'.1 + 1 = i)).elim (fun h => Or.inr (fun h2 => e3 ⟨h, h2⟩)) (fun h => Or.inl h)⟩
theorem wp_iconst {n : Int} {v : Int32} (hd : decode M.2.1 pc = .ok (.iconst n, 1)) (hv : Int32.ofInt n = v) (k : WP g M (pc + 1) lv (.int v :: st) D Q) : WP g M pc lv st D Q := by
  intro p e s m args below meth c H locs ls C hP hS hl
  exact lv_iconst C.1 C.2.1 hd hv (k p e s m args below meth c H locs ls C hP hS hl)
theorem wp_bipush {n : Int} {v : Int32} (hd : decode M.2.1 pc = .ok (.bipush n, 2)) (hv : (Int8.ofInt n).toInt32 = v) (k : WP g M (pc + 2) lv (.int v :: st) D Q) : WP g M pc lv st D Q := by
  intro p e s m args below meth c H locs ls C hP hS hl
  exact lv_bipush C.1 C.2.1 hd hv (k p e s m args below meth c H locs ls C hP hS hl)
theorem wp_sipush {n : Int} {v : Int32} (hd : decode M.2.1 pc = .ok (.sipush n, 3)) (hv : (Int16.ofInt n).toInt32 = v) (k : WP g M (pc + 3) lv (.int v :: st) D Q) : WP g M pc lv st D Q := by
  intro p e s m args below meth c H locs ls C hP hS hl
  exact lv_sipush C.1 C.2.1 hd hv (k p e s m args below meth c H locs ls C hP hS hl)
theorem wp_lconst {n : Fin 2} {v : Int64} (hd : decode M.2.1 pc = .ok (.lconst n, 1)) (hv : Int64.ofNat (n : Nat) = v) (k : WP g M (pc + 1) lv (.long v :: st) D Q) : WP g M pc lv st D Q := by
  intro p e s m args below meth c H locs ls C hP hS hl
  exact lv_lconst C.1 C.2.1 hd hv (k p e s m args below meth c H locs ls C hP hS hl)
theorem wp_ldc {i : Nat} {v : Int32} (hd : decode M.2.1 pc = .ok (.ldc i, 2)) (hc : Cond.constant M.1.cls i v ∈ sr_ws) (k : WP g M (pc + 2) lv (.int v :: st) D Q) : WP g M pc lv st D Q := by
  intro p e s m args below meth c H locs ls C hP hS hl
  exact lv_ldc C.1 C.2.1 C.2.2.2.2.1 (C.2.2.2.2.2.2.1 _ hc) hd (k p e s m args below meth c H locs ls C hP hS hl)
theorem wp_ldc2 {i : Nat} {v : Int64} (hd : decode M.2.1 pc = .ok (.ldc2_w i, 3)) (hc : Cond.constantLong M.1.cls i v ∈ sr_ws) (k : WP g M (pc + 3) lv (.long v :: st) D Q) : WP g M pc lv st D Q := by
  intro p e s m args below meth c H locs ls C hP hS hl
  exact lv_ldc2 C.1 C.2.1 C.2.2.2.2.1 (C.2.2.2.2.2.2.1 _ hc) hd (k p e s m args below meth c H locs ls C hP hS hl)
theorem wp_iload_n {n : Fin 4} {i : Nat} {x : Int32} (hd : decode M.2.1 pc = .ok (.iload_n n, 1)) (hi : (n : Nat) = i) (hg : sr_get lv i = some (.int x)) (k : WP g M (pc + 1) lv (.int x :: st) D Q) : WP g M pc lv st D Q := by
  intro p e s m args below meth c H locs ls C hP hS hl
  exact lv_iload_n C.1 C.2.1 hd hi (sr_at hl hg) (k p e s m args below meth c H locs ls C hP hS hl)
theorem wp_iload {i : Nat} {x : Int32} (hd : decode M.2.1 pc = .ok (.iload i, 2)) (hg : sr_get lv i = some (.int x)) (k : WP g M (pc + 2) lv (.int x :: st) D Q) : WP g M pc lv st D Q := by
  intro p e s m args below meth c H locs ls C hP hS hl
  exact lv_iload C.1 C.2.1 hd (sr_at hl hg) (k p e s m args below meth c H locs ls C hP hS hl)
theorem wp_istore_n {n : Fin 4} {i : Nat} {x : Int32} (hd : decode M.2.1 pc = .ok (.istore_n n, 1)) (hi : (n : Nat) = i) (hn : i < M.2.2.1) (hs : sr_set lv i (.int x) false = lv') (k : WP g M (pc + 1) lv' st D Q) : WP g M pc lv (.int x :: st) D Q := by
  intro p e s m args below meth c H locs ls C hP hS hl
  subst hs
  exact lv_istore_n C.1 C.2.1 hd hi hl hn rfl (fun ls' hl' => k p e s m args below meth c H locs ls' C hP hS (sr_set_sub1 hl'))
theorem wp_istore {i : Nat} {x : Int32} (hd : decode M.2.1 pc = .ok (.istore i, 2)) (hn : i < M.2.2.1) (hs : sr_set lv i (.int x) false = lv') (k : WP g M (pc + 2) lv' st D Q) : WP g M pc lv (.int x :: st) D Q := by
  intro p e s m args below meth c H locs ls C hP hS hl
  subst hs
  exact lv_istore C.1 C.2.1 hd hl hn rfl (fun ls' hl' => k p e s m args below meth c H locs ls' C hP hS (sr_set_sub1 hl'))
theorem wp_lload_n {n : Fin 4} {i : Nat} {x : Int64} (hd : decode M.2.1 pc = .ok (.lload_n n, 1)) (hi : (n : Nat) = i) (hg : sr_get lv i = some (.long x)) (k : WP g M (pc + 1) lv (.long x :: st) D Q) : WP g M pc lv st D Q := by
  intro p e s m args below meth c H locs ls C hP hS hl
  exact lv_lload_n C.1 C.2.1 hd hi (sr_at hl hg) (k p e s m args below meth c H locs ls C hP hS hl)
theorem wp_lload {i : Nat} {x : Int64} (hd : decode M.2.1 pc = .ok (.lload i, 2)) (hg : sr_get lv i = some (.long x)) (k : WP g M (pc + 2) lv (.long x :: st) D Q) : WP g M pc lv st D Q := by
  intro p e s m args below meth c H locs ls C hP hS hl
  exact lv_lload C.1 C.2.1 hd (sr_at hl hg) (k p e s m args below meth c H locs ls C hP hS hl)
theorem wp_lstore_n {n : Fin 4} {i : Nat} {x : Int64} (hd : decode M.2.1 pc = .ok (.lstore_n n, 1)) (hi : (n : Nat) = i) (hn : i + 1 < M.2.2.1) (hs : sr_set lv i (.long x) true = lv') (k : WP g M (pc + 1) lv' st D Q) : WP g M pc lv (.long x :: st) D Q := by
  intro p e s m args below meth c H locs ls C hP hS hl
  subst hs
  exact lv_lstore_n C.1 C.2.1 hd hi hl hn rfl (fun ls' hl' => k p e s m args below meth c H locs ls' C hP hS (sr_set_sub2 hl'))
theorem wp_lstore {i : Nat} {x : Int64} (hd : decode M.2.1 pc = .ok (.lstore i, 2)) (hn : i + 1 < M.2.2.1) (hs : sr_set lv i (.long x) true = lv') (k : WP g M (pc + 2) lv' st D Q) : WP g M pc lv (.long x :: st) D Q := by
  intro p e s m args below meth c H locs ls C hP hS hl
  subst hs
  exact lv_lstore C.1 C.2.1 hd hl hn rfl (fun ls' hl' => k p e s m args below meth c H locs ls' C hP hS (sr_set_sub2 hl'))
theorem wp_aload_n {n : Fin 4} {i : Nat} {x : Nat} (hd : decode M.2.1 pc = .ok (.aload_n n, 1)) (hi : (n : Nat) = i) (hg : sr_get lv i = some (.ref x)) (k : WP g M (pc + 1) lv (.ref x :: st) D Q) : WP g M pc lv st D Q := by
  intro p e s m args below meth c H locs ls C hP hS hl
  exact lv_aload_n C.1 C.2.1 hd hi (sr_at hl hg) (k p e s m args below meth c H locs ls C hP hS hl)
theorem wp_aload {i : Nat} {x : Nat} (hd : decode M.2.1 pc = .ok (.aload i, 2)) (hg : sr_get lv i = some (.ref x)) (k : WP g M (pc + 2) lv (.ref x :: st) D Q) : WP g M pc lv st D Q := by
  intro p e s m args below meth c H locs ls C hP hS hl
  exact lv_aload C.1 C.2.1 hd (sr_at hl hg) (k p e s m args below meth c H locs ls C hP hS hl)
theorem wp_astore_n {n : Fin 4} {i : Nat} {x : Nat} (hd : decode M.2.1 pc = .ok (.astore_n n, 1)) (hi : (n : Nat) = i) (hn : i < M.2.2.1) (hs : sr_set lv i (.ref x) false = lv') (k : WP g M (pc + 1) lv' st D Q) : WP g M pc lv (.ref x :: st) D Q := by
  intro p e s m args below meth c H locs ls C hP hS hl
  subst hs
  exact lv_astore_n C.1 C.2.1 hd hi hl hn rfl (fun ls' hl' => k p e s m args below meth c H locs ls' C hP hS (sr_set_sub1 hl'))
theorem wp_astore {i : Nat} {x : Nat} (hd : decode M.2.1 pc = .ok (.astore i, 2)) (hn : i < M.2.2.1) (hs : sr_set lv i (.ref x) false = lv') (k : WP g M (pc + 2) lv' st D Q) : WP g M pc lv (.ref x :: st) D Q := by
  intro p e s m args below meth c H locs ls C hP hS hl
  subst hs
  exact lv_astore C.1 C.2.1 hd hl hn rfl (fun ls' hl' => k p e s m args below meth c H locs ls' C hP hS (sr_set_sub1 hl'))
theorem wp_iinc {i : Nat} {n : Int} {x v : Int32} (hd : decode M.2.1 pc = .ok (.iinc i n, 3)) (hg : sr_get lv i = some (.int x)) (hv : x + Int32.ofInt n = v) (hn : i < M.2.2.1) (hs : sr_set lv i (.int v) false = lv') (k : WP g M (pc + 3) lv' st D Q) : WP g M pc lv st D Q := by
  intro p e s m args below meth c H locs ls C hP hS hl
  subst hs
  obtain ⟨j, hj⟩ := List.getElem?_of_mem (List.mem_map.mpr ⟨(i, .int x), sr_get_mem hg, rfl⟩ : (i, Value.int x) ∈ lv.map (sr_cl g.2.2.2.1))
  exact lv_iinc C.1 C.2.1 hd hl hj hv hn rfl (fun ls' hl' => k p e s m args below meth c H locs ls' C hP hS (sr_set_sub1 (v := .int v) hl'))
theorem wp_iadd {x y : Int32} (hd : decode M.2.1 pc = .ok (.iadd, 1)) (k : WP g M (pc + 1) lv (.int (x + y) :: st) D Q) : WP g M pc lv (.int y :: .int x :: st) D Q := by
  intro p e s m args below meth c H locs ls C hP hS hl
  exact lv_iadd C.1 C.2.1 hd  (k p e s m args below meth c H locs ls C hP hS hl)
theorem wp_isub {x y : Int32} (hd : decode M.2.1 pc = .ok (.isub, 1)) (k : WP g M (pc + 1) lv (.int (x - y) :: st) D Q) : WP g M pc lv (.int y :: .int x :: st) D Q := by
  intro p e s m args below meth c H locs ls C hP hS hl
  exact lv_isub C.1 C.2.1 hd  (k p e s m args below meth c H locs ls C hP hS hl)
theorem wp_imul {x y : Int32} (hd : decode M.2.1 pc = .ok (.imul, 1)) (k : WP g M (pc + 1) lv (.int (x * y) :: st) D Q) : WP g M pc lv (.int y :: .int x :: st) D Q := by
  intro p e s m args below meth c H locs ls C hP hS hl
  exact lv_imul C.1 C.2.1 hd  (k p e s m args below meth c H locs ls C hP hS hl)
theorem wp_iand {x y : Int32} (hd : decode M.2.1 pc = .ok (.iand, 1)) (k : WP g M (pc + 1) lv (.int (x &&& y) :: st) D Q) : WP g M pc lv (.int y :: .int x :: st) D Q := by
  intro p e s m args below meth c H locs ls C hP hS hl
  exact lv_iand C.1 C.2.1 hd  (k p e s m args below meth c H locs ls C hP hS hl)
theorem wp_ior {x y : Int32} (hd : decode M.2.1 pc = .ok (.ior, 1)) (k : WP g M (pc + 1) lv (.int (x ||| y) :: st) D Q) : WP g M pc lv (.int y :: .int x :: st) D Q := by
  intro p e s m args below meth c H locs ls C hP hS hl
  exact lv_ior C.1 C.2.1 hd  (k p e s m args below meth c H locs ls C hP hS hl)
theorem wp_ixor {x y : Int32} (hd : decode M.2.1 pc = .ok (.ixor, 1)) (k : WP g M (pc + 1) lv (.int (x ^^^ y) :: st) D Q) : WP g M pc lv (.int y :: .int x :: st) D Q := by
  intro p e s m args below meth c H locs ls C hP hS hl
  exact lv_ixor C.1 C.2.1 hd  (k p e s m args below meth c H locs ls C hP hS hl)
theorem wp_ladd {x y : Int64} (hd : decode M.2.1 pc = .ok (.ladd, 1)) (k : WP g M (pc + 1) lv (.long (x + y) :: st) D Q) : WP g M pc lv (.long y :: .long x :: st) D Q := by
  intro p e s m args below meth c H locs ls C hP hS hl
  exact lv_ladd C.1 C.2.1 hd  (k p e s m args below meth c H locs ls C hP hS hl)
theorem wp_lsub {x y : Int64} (hd : decode M.2.1 pc = .ok (.lsub, 1)) (k : WP g M (pc + 1) lv (.long (x - y) :: st) D Q) : WP g M pc lv (.long y :: .long x :: st) D Q := by
  intro p e s m args below meth c H locs ls C hP hS hl
  exact lv_lsub C.1 C.2.1 hd  (k p e s m args below meth c H locs ls C hP hS hl)
theorem wp_lmul {x y : Int64} (hd : decode M.2.1 pc = .ok (.lmul, 1)) (k : WP g M (pc + 1) lv (.long (x * y) :: st) D Q) : WP g M pc lv (.long y :: .long x :: st) D Q := by
  intro p e s m args below meth c H locs ls C hP hS hl
  exact lv_lmul C.1 C.2.1 hd  (k p e s m args below meth c H locs ls C hP hS hl)
theorem wp_idiv {x y : Int32} (hd : decode M.2.1 pc = .ok (.idiv, 1)) (hne : ¬ y = 0) (k : WP g M (pc + 1) lv (.int (x / y) :: st) D Q) : WP g M pc lv (.int y :: .int x :: st) D Q := by
  intro p e s m args below meth c H locs ls C hP hS hl
  exact lv_idiv C.1 C.2.1 hd hne (k p e s m args below meth c H locs ls C hP hS hl)
theorem wp_irem {x y : Int32} (hd : decode M.2.1 pc = .ok (.irem, 1)) (hne : ¬ y = 0) (k : WP g M (pc + 1) lv (.int (x - x / y * y) :: st) D Q) : WP g M pc lv (.int y :: .int x :: st) D Q := by
  intro p e s m args below meth c H locs ls C hP hS hl
  exact lv_irem C.1 C.2.1 hd hne (k p e s m args below meth c H locs ls C hP hS hl)
theorem wp_ldiv {x y : Int64} (hd : decode M.2.1 pc = .ok (.ldiv, 1)) (hne : ¬ y = 0) (k : WP g M (pc + 1) lv (.long (x / y) :: st) D Q) : WP g M pc lv (.long y :: .long x :: st) D Q := by
  intro p e s m args below meth c H locs ls C hP hS hl
  exact lv_ldiv C.1 C.2.1 hd hne (k p e s m args below meth c H locs ls C hP hS hl)
theorem wp_lrem {x y : Int64} (hd : decode M.2.1 pc = .ok (.lrem, 1)) (hne : ¬ y = 0) (k : WP g M (pc + 1) lv (.long (x - x / y * y) :: st) D Q) : WP g M pc lv (.long y :: .long x :: st) D Q := by
  intro p e s m args below meth c H locs ls C hP hS hl
  exact lv_lrem C.1 C.2.1 hd hne (k p e s m args below meth c H locs ls C hP hS hl)
theorem wp_ineg {x : Int32} (hd : decode M.2.1 pc = .ok (.ineg, 1)) (k : WP g M (pc + 1) lv (.int (-x) :: st) D Q) : WP g M pc lv (.int x :: st) D Q := by
  intro p e s m args below meth c H locs ls C hP hS hl
  exact lv_ineg C.1 C.2.1 hd  (k p e s m args below meth c H locs ls C hP hS hl)
theorem wp_lneg {x : Int64} (hd : decode M.2.1 pc = .ok (.lneg, 1)) (k : WP g M (pc + 1) lv (.long (-x) :: st) D Q) : WP g M pc lv (.long x :: st) D Q := by
  intro p e s m args below meth c H locs ls C hP hS hl
  exact lv_lneg C.1 C.2.1 hd  (k p e s m args below meth c H locs ls C hP hS hl)
theorem wp_ishl {x y : Int32} (hd : decode M.2.1 pc = .ok (.ishl, 1)) (k : WP g M (pc + 1) lv (.int (x <<< (y &&& 31)) :: st) D Q) : WP g M pc lv (.int y :: .int x :: st) D Q := by
  intro p e s m args below meth c H locs ls C hP hS hl
  exact lv_ishl C.1 C.2.1 hd  (k p e s m args below meth c H locs ls C hP hS hl)
theorem wp_ishr {x y : Int32} (hd : decode M.2.1 pc = .ok (.ishr, 1)) (k : WP g M (pc + 1) lv (.int (x >>> (y &&& 31)) :: st) D Q) : WP g M pc lv (.int y :: .int x :: st) D Q := by
  intro p e s m args below meth c H locs ls C hP hS hl
  exact lv_ishr C.1 C.2.1 hd  (k p e s m args below meth c H locs ls C hP hS hl)
theorem wp_i2l {x : Int32} (hd : decode M.2.1 pc = .ok (.i2l, 1)) (k : WP g M (pc + 1) lv (.long x.toInt64 :: st) D Q) : WP g M pc lv (.int x :: st) D Q := by
  intro p e s m args below meth c H locs ls C hP hS hl
  exact lv_i2l C.1 C.2.1 hd rfl (k p e s m args below meth c H locs ls C hP hS hl)
theorem wp_i2b {x : Int32} (hd : decode M.2.1 pc = .ok (.i2b, 1)) (k : WP g M (pc + 1) lv (.int x.toInt8.toInt32 :: st) D Q) : WP g M pc lv (.int x :: st) D Q := by
  intro p e s m args below meth c H locs ls C hP hS hl
  exact lv_i2b C.1 C.2.1 hd rfl (k p e s m args below meth c H locs ls C hP hS hl)
theorem wp_dup {v : Value} (hd : decode M.2.1 pc = .ok (.dup, 1)) (hv : v.category = 1) (k : WP g M (pc + 1) lv (v :: v :: st) D Q) : WP g M pc lv (v :: st) D Q := by
  intro p e s m args below meth c H locs ls C hP hS hl
  exact lv_dup C.1 C.2.1 hd ((sr_cv_cat _ v).trans hv) (k p e s m args below meth c H locs ls C hP hS hl)
theorem wp_pop {v : Value} (hd : decode M.2.1 pc = .ok (.pop, 1)) (hv : v.category = 1) (k : WP g M (pc + 1) lv st D Q) : WP g M pc lv (v :: st) D Q := by
  intro p e s m args below meth c H locs ls C hP hS hl
  exact lv_pop C.1 C.2.1 hd ((sr_cv_cat _ v).trans hv) (k p e s m args below meth c H locs ls C hP hS hl)
theorem wp_dup2 {v w : Value} (hd : decode M.2.1 pc = .ok (.dup2, 1)) (hv : v.category = 1) (hw : w.category = 1) (k : WP g M (pc + 1) lv (v :: w :: v :: w :: st) D Q) : WP g M pc lv (v :: w :: st) D Q := by
  intro p e s m args below meth c H locs ls C hP hS hl
  exact lv_dup2_11 C.1 C.2.1 hd ((sr_cv_cat _ v).trans hv) ((sr_cv_cat _ w).trans hw) (k p e s m args below meth c H locs ls C hP hS hl)
theorem wp_goto {off : Int} {tgt : Nat} (hd : decode M.2.1 pc = .ok (.goto off, 3)) (ht : (pc : Int) + off = (tgt : Int)) (k : WP g M tgt lv st D Q) : WP g M pc lv st D Q := by
  intro p e s m args below meth c H locs ls C hP hS hl
  exact lv_goto C.1 C.2.1 hd ht (k p e s m args below meth c H locs ls C hP hS hl)
theorem wp_if_eq {x : Int32} {off : Int} {tgt : Nat} (hd : decode M.2.1 pc = .ok (.ifCond .eq off, 3)) (ht : (pc : Int) + off = (tgt : Int)) (kt : x = 0 → WP g M tgt lv st D Q) (kf : ¬ (x = 0) → WP g M (pc + 3) lv st D Q) : WP g M pc lv (.int x :: st) D Q := by
  intro p e s m args below meth c H locs ls C hP hS hl
  exact lv_if_eq C.1 C.2.1 hd ht (fun q => kt q p e s m args below meth c H locs ls C hP hS hl) (fun q => kf q p e s m args below meth c H locs ls C hP hS hl)
theorem wp_icmp_eq {x y : Int32} {off : Int} {tgt : Nat} (hd : decode M.2.1 pc = .ok (.if_icmp .eq off, 3)) (ht : (pc : Int) + off = (tgt : Int)) (kt : x = y → WP g M tgt lv st D Q) (kf : ¬ (x = y) → WP g M (pc + 3) lv st D Q) : WP g M pc lv (.int y :: .int x :: st) D Q := by
  intro p e s m args below meth c H locs ls C hP hS hl
  exact lv_icmp_eq C.1 C.2.1 hd ht (fun q => kt q p e s m args below meth c H locs ls C hP hS hl) (fun q => kf q p e s m args below meth c H locs ls C hP hS hl)
theorem wp_if_ne {x : Int32} {off : Int} {tgt : Nat} (hd : decode M.2.1 pc = .ok (.ifCond .ne off, 3)) (ht : (pc : Int) + off = (tgt : Int)) (kt : ¬ x = 0 → WP g M tgt lv st D Q) (kf : x = 0 → WP g M (pc + 3) lv st D Q) : WP g M pc lv (.int x :: st) D Q := by
  intro p e s m args below meth c H locs ls C hP hS hl
  exact lv_if_ne C.1 C.2.1 hd ht (fun q => kt q p e s m args below meth c H locs ls C hP hS hl) (fun q => kf q p e s m args below meth c H locs ls C hP hS hl)
theorem wp_icmp_ne {x y : Int32} {off : Int} {tgt : Nat} (hd : decode M.2.1 pc = .ok (.if_icmp .ne off, 3)) (ht : (pc : Int) + off = (tgt : Int)) (kt : ¬ x = y → WP g M tgt lv st D Q) (kf : x = y → WP g M (pc + 3) lv st D Q) : WP g M pc lv (.int y :: .int x :: st) D Q := by
  intro p e s m args below meth c H locs ls C hP hS hl
  exact lv_icmp_ne C.1 C.2.1 hd ht (fun q => kt q p e s m args below meth c H locs ls C hP hS hl) (fun q => kf q p e s m args below meth c H locs ls C hP hS hl)
theorem wp_if_lt {x : Int32} {off : Int} {tgt : Nat} (hd : decode M.2.1 pc = .ok (.ifCond .lt off, 3)) (ht : (pc : Int) + off = (tgt : Int)) (kt : x < 0 → WP g M tgt lv st D Q) (kf : ¬ (x < 0) → WP g M (pc + 3) lv st D Q) : WP g M pc lv (.int x :: st) D Q := by
  intro p e s m args below meth c H locs ls C hP hS hl
  exact lv_if_lt C.1 C.2.1 hd ht (fun q => kt q p e s m args below meth c H locs ls C hP hS hl) (fun q => kf q p e s m args below meth c H locs ls C hP hS hl)
theorem wp_icmp_lt {x y : Int32} {off : Int} {tgt : Nat} (hd : decode M.2.1 pc = .ok (.if_icmp .lt off, 3)) (ht : (pc : Int) + off = (tgt : Int)) (kt : x < y → WP g M tgt lv st D Q) (kf : ¬ (x < y) → WP g M (pc + 3) lv st D Q) : WP g M pc lv (.int y :: .int x :: st) D Q := by
  intro p e s m args below meth c H locs ls C hP hS hl
  exact lv_icmp_lt C.1 C.2.1 hd ht (fun q => kt q p e s m args below meth c H locs ls C hP hS hl) (fun q => kf q p e s m args below meth c H locs ls C hP hS hl)
theorem wp_if_ge {x : Int32} {off : Int} {tgt : Nat} (hd : decode M.2.1 pc = .ok (.ifCond .ge off, 3)) (ht : (pc : Int) + off = (tgt : Int)) (kt : 0 ≤ x → WP g M tgt lv st D Q) (kf : ¬ (0 ≤ x) → WP g M (pc + 3) lv st D Q) : WP g M pc lv (.int x :: st) D Q := by
  intro p e s m args below meth c H locs ls C hP hS hl
  exact lv_if_ge C.1 C.2.1 hd ht (fun q => kt q p e s m args below meth c H locs ls C hP hS hl) (fun q => kf q p e s m args below meth c H locs ls C hP hS hl)
theorem wp_icmp_ge {x y : Int32} {off : Int} {tgt : Nat} (hd : decode M.2.1 pc = .ok (.if_icmp .ge off, 3)) (ht : (pc : Int) + off = (tgt : Int)) (kt : y ≤ x → WP g M tgt lv st D Q) (kf : ¬ (y ≤ x) → WP g M (pc + 3) lv st D Q) : WP g M pc lv (.int y :: .int x :: st) D Q := by
  intro p e s m args below meth c H locs ls C hP hS hl
  exact lv_icmp_ge C.1 C.2.1 hd ht (fun q => kt q p e s m args below meth c H locs ls C hP hS hl) (fun q => kf q p e s m args below meth c H locs ls C hP hS hl)
theorem wp_if_gt {x : Int32} {off : Int} {tgt : Nat} (hd : decode M.2.1 pc = .ok (.ifCond .gt off, 3)) (ht : (pc : Int) + off = (tgt : Int)) (kt : 0 < x → WP g M tgt lv st D Q) (kf : ¬ (0 < x) → WP g M (pc + 3) lv st D Q) : WP g M pc lv (.int x :: st) D Q := by
  intro p e s m args below meth c H locs ls C hP hS hl
  exact lv_if_gt C.1 C.2.1 hd ht (fun q => kt q p e s m args below meth c H locs ls C hP hS hl) (fun q => kf q p e s m args below meth c H locs ls C hP hS hl)
theorem wp_icmp_gt {x y : Int32} {off : Int} {tgt : Nat} (hd : decode M.2.1 pc = .ok (.if_icmp .gt off, 3)) (ht : (pc : Int) + off = (tgt : Int)) (kt : y < x → WP g M tgt lv st D Q) (kf : ¬ (y < x) → WP g M (pc + 3) lv st D Q) : WP g M pc lv (.int y :: .int x :: st) D Q := by
  intro p e s m args below meth c H locs ls C hP hS hl
  exact lv_icmp_gt C.1 C.2.1 hd ht (fun q => kt q p e s m args below meth c H locs ls C hP hS hl) (fun q => kf q p e s m args below meth c H locs ls C hP hS hl)
theorem wp_if_le {x : Int32} {off : Int} {tgt : Nat} (hd : decode M.2.1 pc = .ok (.ifCond .le off, 3)) (ht : (pc : Int) + off = (tgt : Int)) (kt : x ≤ 0 → WP g M tgt lv st D Q) (kf : ¬ (x ≤ 0) → WP g M (pc + 3) lv st D Q) : WP g M pc lv (.int x :: st) D Q := by
  intro p e s m args below meth c H locs ls C hP hS hl
  exact lv_if_le C.1 C.2.1 hd ht (fun q => kt q p e s m args below meth c H locs ls C hP hS hl) (fun q => kf q p e s m args below meth c H locs ls C hP hS hl)
theorem wp_icmp_le {x y : Int32} {off : Int} {tgt : Nat} (hd : decode M.2.1 pc = .ok (.if_icmp .le off, 3)) (ht : (pc : Int) + off = (tgt : Int)) (kt : x ≤ y → WP g M tgt lv st D Q) (kf : ¬ (x ≤ y) → WP g M (pc + 3) lv st D Q) : WP g M pc lv (.int y :: .int x :: st) D Q := by
  intro p e s m args below meth c H locs ls C hP hS hl
  exact lv_icmp_le C.1 C.2.1 hd ht (fun q => kt q p e s m args below meth c H locs ls C hP hS hl) (fun q => kf q p e s m args below meth c H locs ls C hP hS hl)
theorem wp_lcmp {x y : Int64} (hd : decode M.2.1 pc = .ok (.lcmp, 1)) (k : WP g M (pc + 1) lv (.int (lg_cmp x y) :: st) D Q) : WP g M pc lv (.long y :: .long x :: st) D Q := by
  intro p e s m args below meth c H locs ls C hP hS hl
  exact W.lcmp C.1 C.2.1 hd  (k p e s m args below meth c H locs ls C hP hS hl)
theorem sr_cmp_eq (x y : Int64) : lg_cmp x y = 0 ↔ x = y := by
  unfold lg_cmp
  simp only [gt_iff_lt, Int64.lt_iff_toInt_lt, ← Int64.toInt_inj]
  repeat' split
  all_goals (constructor <;> intro h <;> first | omega | decide | (exfalso; revert h; decide))
theorem sr_cmp_lt (x y : Int64) : lg_cmp x y < 0 ↔ x < y := by
  unfold lg_cmp
  simp only [gt_iff_lt, Int64.lt_iff_toInt_lt, ← Int64.toInt_inj]
  repeat' split
  all_goals (constructor <;> intro h <;> first | omega | decide | (exfalso; revert h; decide))
theorem sr_cmp_gt (x y : Int64) : 0 < lg_cmp x y ↔ y < x := by
  unfold lg_cmp
  simp only [gt_iff_lt, Int64.lt_iff_toInt_lt, ← Int64.toInt_inj]
  repeat' split
  all_goals (constructor <;> intro h <;> first | omega | decide | (exfalso; revert h; decide))
theorem sr_cmp_le (x y : Int64) : lg_cmp x y ≤ 0 ↔ x ≤ y := by
  unfold lg_cmp
  simp only [gt_iff_lt, Int64.lt_iff_toInt_lt, Int64.le_iff_toInt_le, ← Int64.toInt_inj]
  repeat' split
  all_goals (constructor <;> intro h <;> first | omega | decide | (exfalso; revert h; decide))
theorem wp_lcmp_eq {x y : Int64} {off : Int} {tgt : Nat} (hd1 : decode M.2.1 pc = .ok (.lcmp, 1)) (hd : decode M.2.1 (pc + 1) = .ok (.ifCond .eq off, 3)) (ht : ((pc + 1 : Nat) : Int) + off = (tgt : Int)) (kt : x = y → WP g M tgt lv st D Q) (kf : ¬ (x = y) → WP g M (pc + 4) lv st D Q) : WP g M pc lv (.long y :: .long x :: st) D Q :=
  wp_lcmp hd1 (wp_if_eq hd ht (fun q => kt ((sr_cmp_eq x y).mp q)) (fun q => kf (fun z => q ((sr_cmp_eq x y).mpr z))))
theorem wp_lcmp_ne {x y : Int64} {off : Int} {tgt : Nat} (hd1 : decode M.2.1 pc = .ok (.lcmp, 1)) (hd : decode M.2.1 (pc + 1) = .ok (.ifCond .ne off, 3)) (ht : ((pc + 1 : Nat) : Int) + off = (tgt : Int)) (kt : ¬ x = y → WP g M tgt lv st D Q) (kf : x = y → WP g M (pc + 4) lv st D Q) : WP g M pc lv (.long y :: .long x :: st) D Q :=
  wp_lcmp hd1 (wp_if_ne hd ht (fun q => kt (fun z => q ((sr_cmp_eq x y).mpr z))) (fun q => kf ((sr_cmp_eq x y).mp q)))
theorem wp_lcmp_lt {x y : Int64} {off : Int} {tgt : Nat} (hd1 : decode M.2.1 pc = .ok (.lcmp, 1)) (hd : decode M.2.1 (pc + 1) = .ok (.ifCond .lt off, 3)) (ht : ((pc + 1 : Nat) : Int) + off = (tgt : Int)) (kt : x < y → WP g M tgt lv st D Q) (kf : ¬ (x < y) → WP g M (pc + 4) lv st D Q) : WP g M pc lv (.long y :: .long x :: st) D Q :=
  wp_lcmp hd1 (wp_if_lt hd ht (fun q => kt ((sr_cmp_lt x y).mp q)) (fun q => kf (fun z => q ((sr_cmp_lt x y).mpr z))))
theorem wp_lcmp_ge {x y : Int64} {off : Int} {tgt : Nat} (hd1 : decode M.2.1 pc = .ok (.lcmp, 1)) (hd : decode M.2.1 (pc + 1) = .ok (.ifCond .ge off, 3)) (ht : ((pc + 1 : Nat) : Int) + off = (tgt : Int)) (kt : y ≤ x → WP g M tgt lv st D Q) (kf : ¬ (y ≤ x) → WP g M (pc + 4) lv st D Q) : WP g M pc lv (.long y :: .long x :: st) D Q :=
  wp_lcmp hd1 (wp_if_ge hd ht (fun q => kt ((lg_cmp_ge x y).mp q)) (fun q => kf (fun z => q ((lg_cmp_ge x y).mpr z))))
theorem wp_lcmp_gt {x y : Int64} {off : Int} {tgt : Nat} (hd1 : decode M.2.1 pc = .ok (.lcmp, 1)) (hd : decode M.2.1 (pc + 1) = .ok (.ifCond .gt off, 3)) (ht : ((pc + 1 : Nat) : Int) + off = (tgt : Int)) (kt : y < x → WP g M tgt lv st D Q) (kf : ¬ (y < x) → WP g M (pc + 4) lv st D Q) : WP g M pc lv (.long y :: .long x :: st) D Q :=
  wp_lcmp hd1 (wp_if_gt hd ht (fun q => kt ((sr_cmp_gt x y).mp q)) (fun q => kf (fun z => q ((sr_cmp_gt x y).mpr z))))
theorem wp_lcmp_le {x y : Int64} {off : Int} {tgt : Nat} (hd1 : decode M.2.1 pc = .ok (.lcmp, 1)) (hd : decode M.2.1 (pc + 1) = .ok (.ifCond .le off, 3)) (ht : ((pc + 1 : Nat) : Int) + off = (tgt : Int)) (kt : x ≤ y → WP g M tgt lv st D Q) (kf : ¬ (x ≤ y) → WP g M (pc + 4) lv st D Q) : WP g M pc lv (.long y :: .long x :: st) D Q :=
  wp_lcmp hd1 (wp_if_le hd ht (fun q => kt ((sr_cmp_le x y).mp q)) (fun q => kf (fun z => q ((sr_cmp_le x y).mpr z))))
/-! numbers that are told as naturals -/
theorem wp_iadd_n {a b : Nat} (hd : decode M.2.1 pc = .ok (.iadd, 1)) (k : WP g M (pc + 1) lv (.int (nI (a + b)) :: st) D Q) : WP g M pc lv (.int (nI b) :: .int (nI a) :: st) D Q := wp_iadd hd (by rw [nI_add]; exact k)
theorem wp_imul_n {a b : Nat} (hd : decode M.2.1 pc = .ok (.imul, 1)) (k : WP g M (pc + 1) lv (.int (nI (a * b)) :: st) D Q) : WP g M pc lv (.int (nI b) :: .int (nI a) :: st) D Q := wp_imul hd (by rw [pk_mul]; exact k)
theorem wp_isub_n {a b : Nat} (hd : decode M.2.1 pc = .ok (.isub, 1)) (h : b ≤ a) (k : WP g M (pc + 1) lv (.int (nI (a - b)) :: st) D Q) : WP g M pc lv (.int (nI b) :: .int (nI a) :: st) D Q := wp_isub hd (by rw [pk_sub h]; exact k)
theorem wp_iinc_n {i a b : Nat} {n : Int} (hd : decode M.2.1 pc = .ok (.iinc i n, 3)) (hb : Int32.ofInt n = nI b) (hg : sr_get lv i = some (.int (nI a))) (hn : i < M.2.2.1) (hs : sr_set lv i (.int (nI (a + b))) false = lv') (k : WP g M (pc + 3) lv' st D Q) : WP g M pc lv st D Q := wp_iinc hd hg (by rw [hb, nI_add]) hn hs k
theorem wp_icmp_eq_n {a b : Nat} {off : Int} {tgt : Nat} (hd : decode M.2.1 pc = .ok (.if_icmp .eq off, 3)) (ht : (pc : Int) + off = (tgt : Int)) (ha : a < 2 ^ 31) (hb : b < 2 ^ 31) (kt : a = b → WP g M tgt lv st D Q) (kf : ¬ a = b → WP g M (pc + 3) lv st D Q) : WP g M pc lv (.int (nI b) :: .int (nI a) :: st) D Q :=
  wp_icmp_eq hd ht (fun q => kt ((nI_eq ha hb).mp q)) (fun q => kf (fun z => q ((nI_eq ha hb).mpr z)))
theorem wp_icmp_ne_n {a b : Nat} {off : Int} {tgt : Nat} (hd : decode M.2.1 pc = .ok (.if_icmp .ne off, 3)) (ht : (pc : Int) + off = (tgt : Int)) (ha : a < 2 ^ 31) (hb : b < 2 ^ 31) (kt : ¬ a = b → WP g M tgt lv st D Q) (kf : a = b → WP g M (pc + 3) lv st D Q) : WP g M pc lv (.int (nI b) :: .int (nI a) :: st) D Q :=
  wp_icmp_ne hd ht (fun q => kt (fun z => q ((nI_eq ha hb).mpr z))) (fun q => kf ((nI_eq ha hb).mp q))
theorem wp_icmp_lt_n {a b : Nat} {off : Int} {tgt : Nat} (hd : decode M.2.1 pc = .ok (.if_icmp .lt off, 3)) (ht : (pc : Int) + off = (tgt : Int)) (ha : a < 2 ^ 31) (hb : b < 2 ^ 31) (kt : a < b → WP g M tgt lv st D Q) (kf : b ≤ a → WP g M (pc + 3) lv st D Q) : WP g M pc lv (.int (nI b) :: .int (nI a) :: st) D Q :=
  wp_icmp_lt hd ht (fun q => kt ((nI_ltI ha hb).mp q)) (fun q => kf (Nat.le_of_not_lt (fun z => q ((nI_ltI ha hb).mpr z))))
theorem wp_icmp_ge_n {a b : Nat} {off : Int} {tgt : Nat} (hd : decode M.2.1 pc = .ok (.if_icmp .ge off, 3)) (ht : (pc : Int) + off = (tgt : Int)) (ha : a < 2 ^ 31) (hb : b < 2 ^ 31) (kt : b ≤ a → WP g M tgt lv st D Q) (kf : a < b → WP g M (pc + 3) lv st D Q) : WP g M pc lv (.int (nI b) :: .int (nI a) :: st) D Q :=
  wp_icmp_ge hd ht (fun q => kt ((nI_leI hb ha).mp q)) (fun q => kf (Nat.lt_of_not_le (fun z => q ((nI_leI hb ha).mpr z))))
theorem wp_icmp_gt_n {a b : Nat} {off : Int} {tgt : Nat} (hd : decode M.2.1 pc = .ok (.if_icmp .gt off, 3)) (ht : (pc : Int) + off = (tgt : Int)) (ha : a < 2 ^ 31) (hb : b < 2 ^ 31) (kt : b < a → WP g M tgt lv st D Q) (kf : a ≤ b → WP g M (pc + 3) lv st D Q) : WP g M pc lv (.int (nI b) :: .int (nI a) :: st) D Q :=
  wp_icmp_gt hd ht (fun q => kt ((nI_ltI hb ha).mp q)) (fun q => kf (Nat.le_of_not_lt (fun z => q ((nI_ltI hb ha).mpr z))))
theorem wp_icmp_le_n {a b : Nat} {off : Int} {tgt : Nat} (hd : decode M.2.1 pc = .ok (.if_icmp .le off, 3)) (ht : (pc : Int) + off = (tgt : Int)) (ha : a < 2 ^ 31) (hb : b < 2 ^ 31) (kt : a ≤ b → WP g M tgt lv st D Q) (kf : b < a → WP g M (pc + 3) lv st D Q) : WP g M pc lv (.int (nI b) :: .int (nI a) :: st) D Q :=
  wp_icmp_le hd ht (fun q => kt ((nI_leI ha hb).mp q)) (fun q => kf (Nat.lt_of_not_le (fun z => q ((nI_leI ha hb).mpr z))))
/-! fields -/
theorem sr_in0 : ∀ w ∈ wsX00, w ∈ sr_ws := by
  intro w hw
  obtain ⟨k, hk, rfl⟩ := List.mem_map.mp hw
  have hk := List.mem_range.mp hk
  match k, hk with
  | 0, _ => exact (sr_mt1 (List.mem_of_getElem? (i := 187) rfl) rfl)
  | 1, _ => exact (sr_mt1 (List.mem_of_getElem? (i := 189) rfl) rfl)
  | 2, _ => exact (sr_mt1 (List.mem_of_getElem? (i := 191) rfl) rfl)
  | 3, _ => exact (sr_mt1 (List.mem_of_getElem? (i := 193) rfl) rfl)
  | k + 4, h => exact absurd h (by omega)
theorem sr_in1 : ∀ w ∈ wsX10, w ∈ sr_ws := by
  intro w hw
  obtain ⟨k, hk, rfl⟩ := List.mem_map.mp hw
  have hk := List.mem_range.mp hk
  match k, hk with
  | 0, _ => exact (sr_mt1 (List.mem_of_getElem? (i := 141) rfl) rfl)
  | 1, _ => exact (sr_mt1 (List.mem_of_getElem? (i := 143) rfl) rfl)
  | 2, _ => exact (sr_mt1 (List.mem_of_getElem? (i := 145) rfl) rfl)
  | 3, _ => exact (sr_mt1 (List.mem_of_getElem? (i := 147) rfl) rfl)
  | 4, _ => exact (sr_mt1 (List.mem_of_getElem? (i := 149) rfl) rfl)
  | 5, _ => exact (sr_mt1 (List.mem_of_getElem? (i := 151) rfl) rfl)
  | k + 6, h => exact absurd h (by omega)
theorem sr_in2 : ∀ w ∈ wsX20, w ∈ sr_ws := by
  intro w hw
  obtain ⟨k, hk, rfl⟩ := List.mem_map.mp hw
  have hk := List.mem_range.mp hk
  match k, hk with
  | 0, _ => exact (sr_mt1 (List.mem_of_getElem? (i := 166) rfl) rfl)
  | 1, _ => exact (sr_mt1 (List.mem_of_getElem? (i := 168) rfl) rfl)
  | k + 2, h => exact absurd h (by omega)
theorem sr_in3 : ∀ w ∈ wsX30, w ∈ sr_ws := by
  intro w hw
  obtain ⟨k, hk, rfl⟩ := List.mem_map.mp hw
  have hk := List.mem_range.mp hk
  match k, hk with
  | 0, _ => exact (sr_mt1 (List.mem_of_getElem? (i := 48) rfl) rfl)
  | 1, _ => exact (sr_mt1 (List.mem_of_getElem? (i := 50) rfl) rfl)
  | 2, _ => exact (sr_mt1 (List.mem_of_getElem? (i := 52) rfl) rfl)
  | 3, _ => exact (sr_mt1 (List.mem_of_getElem? (i := 54) rfl) rfl)
  | 4, _ => exact (sr_mt1 (List.mem_of_getElem? (i := 56) rfl) rfl)
  | 5, _ => exact (sr_mt1 (List.mem_of_getElem? (i := 58) rfl) rfl)
  | 6, _ => exact (sr_mt1 (List.mem_of_getElem? (i := 60) rfl) rfl)
  | k + 7, h => exact absurd h (by omega)
theorem sr_in4 : ∀ w ∈ wsX40, w ∈ sr_ws := by
  intro w hw
  obtain ⟨k, hk, rfl⟩ := List.mem_map.mp hw
  have hk := List.mem_range.mp hk
  match k, hk with
  | 0, _ => exact (sr_mt1 (List.mem_of_getElem? (i := 86) rfl) rfl)
  | 1, _ => exact (sr_mt1 (List.mem_of_getElem? (i := 88) rfl) rfl)
  | 2, _ => exact (sr_mt1 (List.mem_of_getElem? (i := 90) rfl) rfl)
  | 3, _ => exact (sr_mt1 (List.mem_of_getElem? (i := 92) rfl) rfl)
  | 4, _ => exact (sr_mt1 (List.mem_of_getElem? (i := 94) rfl) rfl)
  | 5, _ => exact (sr_mt1 (List.mem_of_getElem? (i := 96) rfl) rfl)
  | k + 6, h => exact absurd h (by omega)
theorem sr_in5 : ∀ w ∈ wsX50, w ∈ sr_ws := by
  intro w hw
  obtain ⟨k, hk, rfl⟩ := List.mem_map.mp hw
  have hk := List.mem_range.mp hk
  match k, hk with
  | 0, _ => exact (sr_mt1 (List.mem_of_getElem? (i := 112) rfl) rfl)
  | 1, _ => exact (sr_mt1 (List.mem_of_getElem? (i := 114) rfl) rfl)
  | 2, _ => exact (sr_mt1 (List.mem_of_getElem? (i := 116) rfl) rfl)
  | 3, _ => exact (sr_mt1 (List.mem_of_getElem? (i := 118) rfl) rfl)
  | 4, _ => exact (sr_mt1 (List.mem_of_getElem? (i := 120) rfl) rfl)
  | 5, _ => exact (sr_mt1 (List.mem_of_getElem? (i := 122) rfl) rfl)
  | k + 6, h => exact absurd h (by omega)
theorem sr_in6 : ∀ w ∈ wsX60, w ∈ sr_ws := by
  intro w hw
  obtain ⟨k, hk, rfl⟩ := List.mem_map.mp hw
  have hk := List.mem_range.mp hk
  match k, hk with
  | 0, _ => exact (sr_mt1 (List.mem_of_getElem? (i := 208) rfl) rfl)
  | 1, _ => exact (sr_mt1 (List.mem_of_getElem? (i := 210) rfl) rfl)
  | 2, _ => exact (sr_mt1 (List.mem_of_getElem? (i := 212) rfl) rfl)
  | 3, _ => exact (sr_mt1 (List.mem_of_getElem? (i := 214) rfl) rfl)
  | 4, _ => exact (sr_mt1 (List.mem_of_getElem? (i := 216) rfl) rfl)
  | 5, _ => exact (sr_mt1 (List.mem_of_getElem? (i := 218) rfl) rfl)
  | 6, _ => exact (sr_mt1 (List.mem_of_getElem? (i := 220) rfl) rfl)
  | 7, _ => exact (sr_mt1 (List.mem_of_getElem? (i := 222) rfl) rfl)
  | 8, _ => exact (sr_mt1 (List.mem_of_getElem? (i := 224) rfl) rfl)
  | 9, _ => exact (sr_mt1 (List.mem_of_getElem? (i := 226) rfl) rfl)
  | 10, _ => exact (sr_mt1 (List.mem_of_getElem? (i := 228) rfl) rfl)
  | 11, _ => exact (sr_mt1 (List.mem_of_getElem? (i := 230) rfl) rfl)
  | k + 12, h => exact absurd h (by omega)
theorem sr_in7 : ∀ w ∈ wsX70, w ∈ sr_ws := by
  intro w hw
  obtain ⟨k, hk, rfl⟩ := List.mem_map.mp hw
  have hk := List.mem_range.mp hk
  match k, hk with
  | 0, _ => exact (sr_mt4 (List.mem_of_getElem? (i := 15) rfl) rfl)
  | 1, _ => exact (sr_mt4 (List.mem_of_getElem? (i := 17) rfl) rfl)
  | 2, _ => exact (sr_mt4 (List.mem_of_getElem? (i := 19) rfl) rfl)
  | 3, _ => exact (sr_mt4 (List.mem_of_getElem? (i := 21) rfl) rfl)
  | 4, _ => exact (sr_mt4 (List.mem_of_getElem? (i := 23) rfl) rfl)
  | 5, _ => exact (sr_mt4 (List.mem_of_getElem? (i := 25) rfl) rfl)
  | 6, _ => exact (sr_mt4 (List.mem_of_getElem? (i := 27) rfl) rfl)
  | 7, _ => exact (sr_mt4 (List.mem_of_getElem? (i := 29) rfl) rfl)
  | 8, _ => exact (sr_mt4 (List.mem_of_getElem? (i := 31) rfl) rfl)
  | 9, _ => exact (sr_mt4 (List.mem_of_getElem? (i := 33) rfl) rfl)
  | 10, _ => exact (sr_mt4 (List.mem_of_getElem? (i := 35) rfl) rfl)
  | 11, _ => exact (sr_mt4 (List.mem_of_getElem? (i := 37) rfl) rfl)
  | 12, _ => exact (sr_mt4 (List.mem_of_getElem? (i := 39) rfl) rfl)
  | 13, _ => exact (sr_mt4 (List.mem_of_getElem? (i := 41) rfl) rfl)
  | 14, _ => exact (sr_mt4 (List.mem_of_getElem? (i := 43) rfl) rfl)
  | 15, _ => exact (sr_mt4 (List.mem_of_getElem? (i := 45) rfl) rfl)
  | 16, _ => exact (sr_mt4 (List.mem_of_getElem? (i := 47) rfl) rfl)
  | 17, _ => exact (sr_mt4 (List.mem_of_getElem? (i := 49) rfl) rfl)
  | 18, _ => exact (sr_mt4 (List.mem_of_getElem? (i := 51) rfl) rfl)
  | 19, _ => exact (sr_mt4 (List.mem_of_getElem? (i := 53) rfl) rfl)
  | 20, _ => exact (sr_mt4 (List.mem_of_getElem? (i := 55) rfl) rfl)
  | 21, _ => exact (sr_mt4 (List.mem_of_getElem? (i := 57) rfl) rfl)
  | 22, _ => exact (sr_mt4 (List.mem_of_getElem? (i := 59) rfl) rfl)
  | 23, _ => exact (sr_mt4 (List.mem_of_getElem? (i := 61) rfl) rfl)
  | 24, _ => exact (sr_mt4 (List.mem_of_getElem? (i := 63) rfl) rfl)
  | 25, _ => exact (sr_mt4 (List.mem_of_getElem? (i := 65) rfl) rfl)
  | k + 26, h => exact absurd h (by omega)
theorem sr_in : ∀ (kd : Nat) (q : vw_C), vwCl[kd]? = some q → ∀ w ∈ u_ws q.1 q.2.1 q.2.2, w ∈ sr_ws := by
  intro kd q h
  match kd, h with
  | 0, h => cases h; exact sr_in0
  | 1, h => cases h; exact sr_in1
  | 2, h => cases h; exact sr_in2
  | 3, h => cases h; exact sr_in3
  | 4, h => cases h; exact sr_in4
  | 5, h => cases h; exact sr_in5
  | 6, h => cases h; exact sr_in6
  | 7, h => cases h; exact sr_in7
  | k + 8, h => simp [vwCl] at h
def sr_tf (T : u_T) (ty0 : Nat → FieldType) (N kd : Nat) : Prop := (∀ k, k < N → parseFieldDescriptor (T k).2.2.1 = some (ty0 k)) ∧ (∀ a, a < N → ∀ b, b < N → a ≠ b → (T a).2.1 ≠ (T b).2.1) ∧ (∀ k, k < N → (sr_ty kd)[k]? = some 0 → ty0 k = .int ∧ (T k).2.2.2 = false) ∧ (∀ k, k < N → (sr_ty kd)[k]? = some 1 → ty0 k = .long ∧ (T k).2.2.2 = false) ∧ (sr_ty kd).length = N
theorem sr_tf_all : ∀ (kd : Nat) (q : vw_C), vwCl[kd]? = some q → ∃ ty0, sr_tf q.2.1 ty0 q.2.2 kd := by
  intro kd q h
  match kd, h with
  | 0, h => cases h; exact ⟨tyX0, tyX0_ok, nmX0, by decide +kernel, by decide +kernel, rfl⟩
  | 1, h => cases h; exact ⟨tyX1, tyX1_ok, nmX1, by decide +kernel, by decide +kernel, rfl⟩
  | 2, h => cases h; exact ⟨tyX2, tyX2_ok, nmX2, by decide +kernel, by decide +kernel, rfl⟩
  | 3, h => cases h; exact ⟨tyX3, tyX3_ok, nmX3, by decide +kernel, by decide +kernel, rfl⟩
  | 4, h => cases h; exact ⟨tyX4, tyX4_ok, nmX4, by decide +kernel, by decide +kernel, rfl⟩
  | 5, h => cases h; exact ⟨tyX5, tyX5_ok, nmX5, by decide +kernel, by decide +kernel, rfl⟩
  | 6, h => cases h; exact ⟨tyX6, tyX6_ok, nmX6, by decide +kernel, by decide +kernel, rfl⟩
  | 7, h => cases h; exact ⟨tyX7, tyX7_ok, nmX7, by decide +kernel, by decide +kernel, rfl⟩
  | k + 8, h => simp [vwCl] at h
/-- a field as own's constant pool names it: the class kd, the slot k -/
def sr_FL (own : String) (idx kd k : Nat) : Prop := ∃ q : vw_C, vwCl[kd]? = some q ∧ k < q.2.2 ∧ Cond.fieldLink own idx (q.2.1 k).1 (q.2.1 k).2.1 (q.2.1 k).2.2.1 ∈ sr_ws
theorem sr_vw_lt {kd : Nat} {q : vw_C} (h : vwCl[kd]? = some q) : kd < 8 := (List.getElem?_eq_some_iff.mp h).1
theorem sr_obj {ad : Nat → Nat} {cy : Nat → ClassId} {o kd : Nat} (ho : o < 74) (hk : sr_kind o = kd) (h8 : kd < 8) : (sr_W ad cy D)[o]? = some (ad o, .inr (kd, sr_fs ad D o 0 (sr_ty kd))) := by
  subst hk
  rw [sr_W_get ho, sr_cell_o h8]
theorem wp_get {o idx kd k t : Nat} (hd : decode M.2.1 pc = .ok (.getfield idx, 3)) (hf : sr_FL M.1.cls idx kd k) (ho : o < 74) (hk : sr_kind o = kd) (ht : (sr_ty kd)[k]? = some t) {v : Value} (hv : ∀ ad, sr_fv ad D o k t = sr_cv ad v) (kk : WP g M (pc + 3) lv (v :: st) D Q) : WP g M pc lv (.ref o :: st) D Q := by
  intro p e s m args below meth c H locs ls C hP hS hl
  obtain ⟨q, hq, hkN, hlk⟩ := hf
  have h8 := sr_vw_lt hq
  refine va_get (D := (g.2.1, g.2.2.1)) (ci := kd) (v := sr_cv g.2.2.2.1 v) (C := q.1) (T := q.2.1) (N := q.2.2) C.1 C.2.1 C.2.2.2.2.2.2.1 (sr_in kd q hq) C.2.2.2.2.1 C.2.2.2.2.2.2.2.1 hP o (sr_obj ho hk h8) hq k hkN (C.2.2.2.2.2.2.1 _ hlk) (fun _ h9 => h9) ?_ hd (kk p e s m args below meth c H locs ls C hP hS hl)
  rw [sr_fs_get, ht]
  simp [hv]
theorem wp_getI {o idx kd k : Nat} (hd : decode M.2.1 pc = .ok (.getfield idx, 3)) (hf : sr_FL M.1.cls idx kd k) (ho : o < 74) (hk : sr_kind o = kd) (ht : (sr_ty kd)[k]? = some 0) (kk : WP g M (pc + 3) lv (.int (D.1 o k) :: st) D Q) : WP g M pc lv (.ref o :: st) D Q := wp_get hd hf ho hk ht (fun _ => rfl) kk
theorem wp_getJ {o idx kd k : Nat} (hd : decode M.2.1 pc = .ok (.getfield idx, 3)) (hf : sr_FL M.1.cls idx kd k) (ho : o < 74) (hk : sr_kind o = kd) (ht : (sr_ty kd)[k]? = some 1) (kk : WP g M (pc + 3) lv (.long (D.2 o k) :: st) D Q) : WP g M pc lv (.ref o :: st) D Q := wp_get hd hf ho hk ht (fun _ => rfl) kk
theorem wp_getR {o idx kd k r : Nat} (hd : decode M.2.1 pc = .ok (.getfield idx, 3)) (hf : sr_FL M.1.cls idx kd k) (ho : o < 74) (hk : sr_kind o = kd) (ht : (sr_ty kd)[k]? = some 2) (hr : sr_ref o k = r) (kk : WP g M (pc + 3) lv (.ref r :: st) D Q) : WP g M pc lv (.ref o :: st) D Q := wp_get hd hf ho hk ht (fun _ => by rw [← hr]; rfl) kk
theorem wp_getI_n {o idx kd k n : Nat} (hd : decode M.2.1 pc = .ok (.getfield idx, 3)) (hf : sr_FL M.1.cls idx kd k) (ho : o < 74) (hk : sr_kind o = kd) (ht : (sr_ty kd)[k]? = some 0) (hn : D.1 o k = nI n) (kk : WP g M (pc + 3) lv (.int (nI n) :: st) D Q) : WP g M pc lv (.ref o :: st) D Q := wp_getI hd hf ho hk ht (by rw [hn]; exact kk)
theorem wp_putI {o idx kd k : Nat} {v : Int32} (hd : decode M.2.1 pc = .ok (.putfield idx, 3)) (hf : sr_FL M.1.cls idx kd k) (ho : o < 74) (hk : sr_kind o = kd) (ht : (sr_ty kd)[k]? = some 0) (kk : WP g M (pc + 3) lv st (sr_sI D o k v) Q) : WP g M pc lv (.int v :: .ref o :: st) D Q := by
  intro p e s m args below meth c H locs ls C hP hS hl
  obtain ⟨q, hq, hkN, hlk⟩ := hf
  have h8 := sr_vw_lt hq
  obtain ⟨ty0, h1, h2, h3, -, h5⟩ := sr_tf_all kd q hq
  obtain ⟨e1, e2⟩ := h3 k hkN ht
  refine va_put (D := (g.2.1, g.2.2.1)) (ci := kd) (v := .int v) (ty := .int) (C := q.1) (T := q.2.1) (N := q.2.2) C.1 C.2.1 C.2.2.2.2.2.2.1 (sr_in kd q hq) ty0 h1 h2 C.2.2.2.2.1 C.2.2.2.2.2.2.2.1 hP (sr_W_D C.2.2.2.2.2.2.2.2) hS o (sr_obj ho hk h8) hq k hkN (C.2.2.2.2.2.2.1 _ hlk) (fun _ h9 => h9) e2 (by rw [h1 k hkN, e1]) rfl rfl (by rw [sr_fs_len, h5]; exact hkN) hd (fun H1 locs1 hP1 hD1 hS1 => ?_)
  subst hk
  rw [sr_putI h8 ht] at hP1
  exact kk p e s m args below meth c H1 locs1 ls C hP1 hS1 hl
theorem wp_putJ {o idx kd k : Nat} {v : Int64} (hd : decode M.2.1 pc = .ok (.putfield idx, 3)) (hf : sr_FL M.1.cls idx kd k) (ho : o < 74) (hk : sr_kind o = kd) (ht : (sr_ty kd)[k]? = some 1) (kk : WP g M (pc + 3) lv st (sr_sJ D o k v) Q) : WP g M pc lv (.long v :: .ref o :: st) D Q := by
  intro p e s m args below meth c H locs ls C hP hS hl
  obtain ⟨q, hq, hkN, hlk⟩ := hf
  have h8 := sr_vw_lt hq
  obtain ⟨ty0, h1, h2, -, h3, h5⟩ := sr_tf_all kd q hq
  obtain ⟨e1, e2⟩ := h3 k hkN ht
  refine va_put (D := (g.2.1, g.2.2.1)) (ci := kd) (v := .long v) (ty := .long) (C := q.1) (T := q.2.1) (N := q.2.2) C.1 C.2.1 C.2.2.2.2.2.2.1 (sr_in kd q hq) ty0 h1 h2 C.2.2.2.2.1 C.2.2.2.2.2.2.2.1 hP (sr_W_D C.2.2.2.2.2.2.2.2) hS o (sr_obj ho hk h8) hq k hkN (C.2.2.2.2.2.2.1 _ hlk) (fun _ h9 => h9) e2 (by rw [h1 k hkN, e1]) rfl rfl (by rw [sr_fs_len, h5]; exact hkN) hd (fun H1 locs1 hP1 hD1 hS1 => ?_)
  subst hk
  rw [sr_putJ h8 ht] at hP1
  exact kk p e s m args below meth c H1 locs1 ls C hP1 hS1 hl
/-! arrays -/
theorem wp_iald {o n : Nat} (hd : decode M.2.1 pc = .ok (.iaload, 1)) (ho : o < 74) (hk : sr_kind o = 9) (hn : n < sr_len o) (hb : n < 2 ^ 31) (kk : WP g M (pc + 1) lv (.int (D.1 o n) :: st) D Q) : WP g M pc lv (.int (nI n) :: .ref o :: st) D Q := by
  intro p e s m args below meth c H locs ls C hP hS hl
  refine va_iald (D := (g.2.1, g.2.2.1)) C.1 C.2.1 C.2.2.2.2.2.2.2.1 hP o 1 (by rw [sr_W_get ho, sr_cell_I hk]) rfl (i := nI n) ?_ hd ?_
  · unfold vp_in
    rw [nI_clamp hb]
    exact fun q => q.elim (nI_pos hb) (fun q => absurd hn (Nat.not_lt.mpr q))
  · rw [nI_clamp hb]
    exact kk p e s m args below meth c H locs ls C hP hS hl
theorem wp_bald {o n : Nat} (hd : decode M.2.1 pc = .ok (.baload, 1)) (ho : o < 74) (hk : sr_kind o = 8) (hn : n < sr_len o) (hb : n < 2 ^ 31) (kk : WP g M (pc + 1) lv (.int (D.1 o n) :: st) D Q) : WP g M pc lv (.int (nI n) :: .ref o :: st) D Q := by
  intro p e s m args below meth c H locs ls C hP hS hl
  refine va_bald (D := (g.2.1, g.2.2.1)) C.1 C.2.1 C.2.2.2.2.2.2.2.1 hP o 0 (by rw [sr_W_get ho, sr_cell_B hk]) rfl (i := nI n) ?_ hd ?_
  · unfold vp_in
    rw [nI_clamp hb]
    exact fun q => q.elim (nI_pos hb) (fun q => absurd hn (Nat.not_lt.mpr q))
  · rw [nI_clamp hb]
    exact kk p e s m args below meth c H locs ls C hP hS hl
theorem wp_zald {o n : Nat} (hd : decode M.2.1 pc = .ok (.baload, 1)) (ho : o < 74) (hk : sr_kind o = 11) (hn : n < sr_len o) (hb : n < 2 ^ 31) (kk : WP g M (pc + 1) lv (.int (D.1 o n) :: st) D Q) : WP g M pc lv (.int (nI n) :: .ref o :: st) D Q := by
  intro p e s m args below meth c H locs ls C hP hS hl
  refine va_zald (D := (g.2.1, g.2.2.1)) C.1 C.2.1 C.2.2.2.2.2.2.2.1 hP o 3 (by rw [sr_W_get ho, sr_cell_Z hk]) rfl (i := nI n) ?_ hd ?_
  · unfold vp_in
    rw [nI_clamp hb]
    exact fun q => q.elim (nI_pos hb) (fun q => absurd hn (Nat.not_lt.mpr q))
  · rw [nI_clamp hb]
    exact kk p e s m args below meth c H locs ls C hP hS hl
theorem wp_lald {o n : Nat} (hd : decode M.2.1 pc = .ok (.laload, 1)) (ho : o < 74) (hk : sr_kind o = 10) (hn : n < sr_len o) (hb : n < 2 ^ 31) (kk : WP g M (pc + 1) lv (.long (D.2 o n) :: st) D Q) : WP g M pc lv (.int (nI n) :: .ref o :: st) D Q := by
  intro p e s m args below meth c H locs ls C hP hS hl
  refine va_lald (D := (g.2.1, g.2.2.1)) C.1 C.2.1 C.2.2.2.2.2.2.2.1 hP o 2 (by rw [sr_W_get ho, sr_cell_J hk]) rfl (i := nI n) ?_ hd ?_
  · unfold vp_in
    rw [nI_clamp hb]
    exact fun q => q.elim (nI_pos hb) (fun q => absurd hn (Nat.not_lt.mpr q))
  · rw [nI_clamp hb]
    exact kk p e s m args below meth c H locs ls C hP hS hl
theorem wp_iast {o n : Nat} {v : Int32} (hd : decode M.2.1 pc = .ok (.iastore, 1)) (ho : o < 74) (hk : sr_kind o = 9) (hn : n < sr_len o) (hb : n < 2 ^ 31) (kk : WP g M (pc + 1) lv st (sr_sI D o n v) Q) : WP g M pc lv (.int v :: .int (nI n) :: .ref o :: st) D Q := by
  intro p e s m args below meth c H locs ls C hP hS hl
  refine va_iast (D := (g.2.1, g.2.2.1)) C.1 C.2.1 C.2.2.2.2.2.2.2.1 hP (sr_W_D C.2.2.2.2.2.2.2.2) hS o 1 (by rw [sr_W_get ho, sr_cell_I hk]) rfl (i := nI n) ?_ hd (fun H1 locs1 hP1 hD1 hS1 => ?_)
  · unfold vp_in
    rw [nI_clamp hb]
    exact fun q => q.elim (nI_pos hb) (fun q => absurd hn (Nat.not_lt.mpr q))
  · rw [nI_clamp hb, sr_astI hk (Or.inr (Or.inl rfl))] at hP1
    exact kk p e s m args below meth c H1 locs1 ls C hP1 hS1 hl
theorem wp_bast {o n : Nat} {v : Int32} (hd : decode M.2.1 pc = .ok (.bastore, 1)) (ho : o < 74) (hk : sr_kind o = 8) (hn : n < sr_len o) (hb : n < 2 ^ 31) (kk : WP g M (pc + 1) lv st (sr_sI D o n (vp_nar .byte v)) Q) : WP g M pc lv (.int v :: .int (nI n) :: .ref o :: st) D Q := by
  intro p e s m args below meth c H locs ls C hP hS hl
  refine va_bast (D := (g.2.1, g.2.2.1)) C.1 C.2.1 C.2.2.2.2.2.2.2.1 hP (sr_W_D C.2.2.2.2.2.2.2.2) hS o 0 (by rw [sr_W_get ho, sr_cell_B hk]) rfl (i := nI n) ?_ hd (fun H1 locs1 hP1 hD1 hS1 => ?_)
  · unfold vp_in
    rw [nI_clamp hb]
    exact fun q => q.elim (nI_pos hb) (fun q => absurd hn (Nat.not_lt.mpr q))
  · rw [nI_clamp hb, sr_astI hk (Or.inl rfl)] at hP1
    exact kk p e s m args below meth c H1 locs1 ls C hP1 hS1 hl
theorem wp_zast {o n : Nat} {v : Int32} (hd : decode M.2.1 pc = .ok (.bastore, 1)) (ho : o < 74) (hk : sr_kind o = 11) (hn : n < sr_len o) (hb : n < 2 ^ 31) (kk : WP g M (pc + 1) lv st (sr_sI D o n (vp_nar .boolean v)) Q) : WP g M pc lv (.int v :: .int (nI n) :: .ref o :: st) D Q := by
  intro p e s m args below meth c H locs ls C hP hS hl
  refine va_zast (D := (g.2.1, g.2.2.1)) C.1 C.2.1 C.2.2.2.2.2.2.2.1 hP (sr_W_D C.2.2.2.2.2.2.2.2) hS o 3 (by rw [sr_W_get ho, sr_cell_Z hk]) rfl (i := nI n) ?_ hd (fun H1 locs1 hP1 hD1 hS1 => ?_)
  · unfold vp_in
    rw [nI_clamp hb]
    exact fun q => q.elim (nI_pos hb) (fun q => absurd hn (Nat.not_lt.mpr q))
  · rw [nI_clamp hb, sr_astI hk (Or.inr (Or.inr rfl))] at hP1
    exact kk p e s m args below meth c H1 locs1 ls C hP1 hS1 hl
theorem wp_last {o n : Nat} {v : Int64} (hd : decode M.2.1 pc = .ok (.lastore, 1)) (ho : o < 74) (hk : sr_kind o = 10) (hn : n < sr_len o) (hb : n < 2 ^ 31) (kk : WP g M (pc + 1) lv st (sr_sJ D o n v) Q) : WP g M pc lv (.long v :: .int (nI n) :: .ref o :: st) D Q := by
  intro p e s m args below meth c H locs ls C hP hS hl
  refine va_last (D := (g.2.1, g.2.2.1)) C.1 C.2.1 C.2.2.2.2.2.2.2.1 hP (sr_W_D C.2.2.2.2.2.2.2.2) hS o 2 (by rw [sr_W_get ho, sr_cell_J hk]) rfl (i := nI n) ?_ hd (fun H1 locs1 hP1 hD1 hS1 => ?_)
  · unfold vp_in
    rw [nI_clamp hb]
    exact fun q => q.elim (nI_pos hb) (fun q => absurd hn (Nat.not_lt.mpr q))
  · rw [nI_clamp hb, sr_astJ hk] at hP1
    exact kk p e s m args below meth c H1 locs1 ls C hP1 hS1 hl
theorem wp_aald {o n : Nat} (hd : decode M.2.1 pc = .ok (.aaload, 1)) (ho : o < 74) (hk : sr_kind o = 12) (hn : n < sr_len o) (hb : n < 2 ^ 31) (kk : WP g M (pc + 1) lv (.ref (o + 1 + n) :: st) D Q) : WP g M pc lv (.int (nI n) :: .ref o :: st) D Q := by
  intro p e s m args below meth c H locs ls C hP hS hl
  have ha : (sr_W g.2.2.2.1 g.2.2.2.2 D)[o]? = some (g.2.2.2.1 o, .inl (g.2.2.2.2 12, sr_len o, .inr (.inr (.inr (.inr (fun i => some (g.2.2.2.1 (o + 1 + i)))))))) := by rw [sr_W_get ho, sr_cell_Q hk]
  refine W.aald (v := .ref (g.2.2.2.1 (o + 1 + n))) (ty := .array .long) (j := nI n) C.1 C.2.1 (hP o _ ha) ((C.2.2.2.2.2.2.2.1.2 4 (g.2.2.2.2 12, .array .long) rfl).1 (sr_len o) (fun j => va_rf ((fun i => some (g.2.2.2.1 (o + 1 + i))) j))) rfl (fun q => by cases q) ?_ ?_ rfl rfl hd (kk p e s m args below meth c H locs ls C hP hS hl)
  · show ¬ (nI n < 0 ∨ (arrV _ _ _).slots.size ≤ _)
    rw [arrV_size, nI_clamp hb]
    exact fun q => q.elim (nI_pos hb) (fun q => absurd hn (Nat.not_lt.mpr q))
  · show (arrV _ _ _).slots[_]? = _
    rw [nI_clamp hb, arrV_read _ _ hn]
    rfl
/-! the end of a method -/
theorem wp_iret {v : Int32} (hd : decode M.2.1 pc = .ok (.ireturn, 1)) (hr : M.2.2.2.1 = some .int) (hq : Q (some (.int v)) D) : WP g M pc lv [.int v] D Q := by
  intro p e s m args below meth c H locs ls C hP hS hl
  have hlocks := C.2.2.2.2.2.1
  exact W.iret (v := v) C.1 C.2.1 (C.2.2.1.trans hr) (fun t ht hW => ⟨⟨some (.int v), D, rfl, hq, by rw [ht]; exact hP, va_K.moved hW.alike C.2.2.2.2.2.2.2.1⟩, hS.F ht⟩) hS.2.2 hd
theorem wp_zret {v : Int32} (hd : decode M.2.1 pc = .ok (.ireturn, 1)) (hr : M.2.2.2.1 = some .boolean) (hv : v = 0 ∨ v = 1) (hq : Q (some (.int v)) D) : WP g M pc lv [.int v] D Q := by
  intro p e s m args below meth c H locs ls C hP hS hl
  have hlocks := C.2.2.2.2.2.1
  exact W.zret (v := v) (ty := .boolean) C.1 C.2.1 (C.2.2.1.trans hr) (by rcases hv with h | h <;> subst h <;> rfl) (fun t ht hW => ⟨⟨some (.int v), D, rfl, hq, by rw [ht]; exact hP, va_K.moved hW.alike C.2.2.2.2.2.2.2.1⟩, hS.F ht⟩) hS.2.2 hd
theorem wp_lret {v : Int64} (hd : decode M.2.1 pc = .ok (.lreturn, 1)) (hr : M.2.2.2.1 = some .long) (hq : Q (some (.long v)) D) : WP g M pc lv [.long v] D Q := by
  intro p e s m args below meth c H locs ls C hP hS hl
  have hlocks := C.2.2.2.2.2.1
  exact W.lret (v := v) C.1 C.2.1 (C.2.2.1.trans hr) (fun t ht hW => ⟨⟨some (.long v), D, rfl, hq, by rw [ht]; exact hP, va_K.moved hW.alike C.2.2.2.2.2.2.2.1⟩, hS.F ht⟩) hS.2.2 hd
theorem wp_vret (hd : decode M.2.1 pc = .ok (.return_, 1)) (hr : M.2.2.2.1 = none) (hq : Q none D) : WP g M pc lv [] D Q := by
  intro p e s m args below meth c H locs ls C hP hS hl
  have hlocks := C.2.2.2.2.2.1
  exact W.vret C.1 C.2.1 (C.2.2.1.trans hr) (fun t ht hW => ⟨⟨none, D, rfl, hq, by rw [ht]; exact hP, va_K.moved hW.alike C.2.2.2.2.2.2.2.1⟩, hS.F ht⟩) hS.2.2 hd
/-! calls -/
theorem sr_call {p : Program} {e : Env} {R : Room} {s : State} {m : MethodId} {args : Array Value} {below : List Frame} {meth : Method} {c : Code} {H : Heap} {locs : List Loc} {cells slots : Nat} {Qf : State → Prop} {ls : Array Slot} {st0 rest : List Value} {a : Array Value} {Q' : Option Value → sr_St → Prop}
    (hr : va_Run p g.1 e R s m args below meth c H locs cells slots 0 0 (F0 m pc ls st0) rest (sr_QC g Q' a) (sr_A g.2.2.2.1)) (hS : va_S (sr_A g.2.2.2.1) s.heap H locs)
    (kk : ∀ (r : Option Value) (D' : sr_St) (H1 : Heap) (locs1 : List Loc), Q' r D' → sr_P g D' H1 → va_S (sr_A g.2.2.2.1) s.heap H1 locs1 → W p g.1 e R s m args below meth c H1 locs1 cells slots Qf (F0 m (pc + 3) ls ((r.map (sr_cv g.2.2.2.1)).toList ++ rest))) : W p g.1 e R s m args below meth c H locs cells slots Qf (F0 m pc ls st0) := by
  intro T hT X
  obtain ⟨v, st₀, t, T', L, h0, X', hL, e1, e2, ⟨⟨r, D', hv, hq, hp, hk⟩, hz, hkk⟩, st⟩ := hr T hT X
  cases hv
  rw [h0] at hz hkk
  obtain ⟨t2, a1, b1⟩ := kk r D' T'.heap (locs ++ L) hq (by rw [e1]; exact hp)
    ⟨Nat.le_trans hS.1 (by rw [e1]; exact hz), fun q h1 h2 => by rw [e1, hkk q (Nat.lt_of_lt_of_le h1 hS.1) h2]; exact hS.2.1 q h1 h2, fun q hq => by
      rcases List.mem_append.mp hq with h | h
      · exact hS.2.2 q h
      · exact hL q h⟩ T' rfl X'
  exact ⟨t2, st t2 a1, b1⟩
/-- the words of a call of M2 by own's constant pool -/
def sr_CW (own : String) (idx : Nat) (M2 : sr_Md) : Prop := Cond.methodLink own idx M2.1 ∈ sr_ws ∧ Cond.initialized M2.1.cls ∈ sr_ws ∧ Cond.code M2.1 M2.2.1 M2.2.2.1 M2.2.2.2.1 ∈ sr_ws
def sr_CV (own : String) (idx : Nat) (M2 : sr_Md) : Prop := sr_CW own idx M2 ∧ Cond.instanceMethod M2.1 ∈ sr_ws ∧ Cond.selects M2.1.cls M2.1 M2.1 ∈ sr_ws
def sr_CS (own : String) (idx : Nat) (M2 : sr_Md) : Prop := sr_CW own idx M2 ∧ Cond.static M2.1 ∈ sr_ws
/-- what can be seen of a method's name, and of the room -/
def sr_fit (M M2 : sr_Md) (n : Nat) : Prop := (M2.1.cls ≠ "java/lang/invoke/MethodHandle" ∧ M2.1.cls ≠ "java/lang/invoke/VarHandle" ∧ (parseMethodDescriptor M2.1.desc).map (fun d => d.parameters.length) = some n) ∧ M2.2.2.2.2.1 + 1 ≤ M.2.2.2.2.1 ∧ 8 + (M2.2.2.1 + 11) + M2.2.2.2.2.2 ≤ M.2.2.2.2.2
theorem sr_callB {M2 : sr_Md} {s : State} {args : Array Value} {own : String} {idx n : Nat} {R : Room} (hts : ∀ w ∈ sr_ws, w.before args s = true) (hw : sr_CW own idx M2) (hd : M2.1.cls ≠ "java/lang/invoke/MethodHandle" ∧ M2.1.cls ≠ "java/lang/invoke/VarHandle" ∧ (parseMethodDescriptor M2.1.desc).map (fun d => d.parameters.length) = some n) (hR : M2.2.2.2.2.1 + 1 ≤ R.frames ∧ 8 + (M2.2.2.1 + 11) + M2.2.2.2.2.2 ≤ R.locals) :
    CallB R s args own idx M2.1 M2.2.1 M2.2.2.1 M2.2.2.2.1 (.code M2.1 M2.2.1 M2.2.2.1 M2.2.2.2.1 :: sr_ws) (sr_rm M2) 0 0 n := by
  refine callB_of n hts (fun w h => ?_) rfl rfl rfl (hts _ hw.2.1) (hts _ hw.1) hd hR
  rcases List.mem_cons.mp h with h | h
  · rw [h]; exact sr_goodIn _ hw.2.2
  · exact sr_goodIn _ h
theorem sr_blind {av : List Value} : FrameBlind (va_Pc (av.map (sr_cv g.2.2.2.1)) (fun U => sr_P g D U.heap ∧ sr_K g U ∧ sr_inj g.2.2.2.1)) := fun a U gf mk q => ⟨q.1, q.2.1, va_K.moved (u := U) (U := U.calling gf mk a) (Vm.Alike.refl U.vm) q.2.2.1, q.2.2.2⟩
theorem sr_mapapp {ad : Nat → Nat} {As : List Value} : (As.reverse ++ st).map (sr_cv ad) = (As.map (sr_cv ad)).reverse ++ st.map (sr_cv ad) := by simp
theorem sr_catsum {ad : Nat → Nat} : ((st.map (sr_cv ad)).map fun v => v.category) = st.map (fun v => v.category) := by simp [sr_cv_cat]
theorem wp_callV {M2 : sr_Md} {idx n o kd : Nat} {As st0 : List Value} {Q' : Option Value → sr_St → Prop} (hd : decode M.2.1 pc = .ok (.invokevirtual idx, 3)) (hM : Con g M2 (.ref o :: As) D Q') (hw : sr_CV M.1.cls idx M2) (hf : sr_fit M M2 n) (hn : As.length = n) (ho : o < 74) (hk : sr_kind o = kd) (hc : (vwCl[kd]?).map (fun q => q.1) = some M2.1.cls) (h0 : st0 = As.reverse ++ .ref o :: st) (hW : (st.map fun v => v.category).sum ≤ 8)
    (kk : ∀ (r : Option Value) (D' : sr_St), Q' r D' → WP g M (pc + 3) lv (r.toList ++ st) D' Q) : WP g M pc lv st0 D Q := by
  intro p e s m args below meth c H locs ls C hP hS hl
  subst h0
  obtain ⟨q, hq, hqc⟩ : ∃ q, vwCl[kd]? = some q ∧ q.1 = M2.1.cls := by
    cases h : vwCl[kd]? with
    | none => rw [h] at hc; cases hc
    | some q => rw [h] at hc; exact ⟨q, rfl, Option.some.inj hc⟩
  have h8 := sr_vw_lt hq
  have hrec := va_recv C.2.2.2.2.2.2.2.1 hP hq (sr_obj (ad := g.2.2.2.1) (cy := g.2.2.2.2) (D := D) ho hk h8)
  rw [hqc] at hrec
  have hts := C.2.2.2.2.2.2.1
  refine sr_call (va_runV (As := As.map (sr_cv g.2.2.2.1)) (rest := st.map (sr_cv g.2.2.2.1)) (n := n) ⟨C.1, C.2.1, C.2.2.2.1, C.2.2.2.2.1, hts⟩ hM ⟨sr_callB hts hw.1 hf.1 hf.2, hts _ hw.2.1, hts _ hw.2.2⟩ ⟨sr_blind, hrec, fun U hU hW => ⟨rfl, by rw [hU]; exact hP, va_K.moved hW.alike C.2.2.2.2.2.2.2.1, C.2.2.2.2.2.2.2.2⟩⟩ rfl (by rw [List.length_map]; exact hn) hl.1 ?_ ?_ hd ⟨Nat.zero_le _, Nat.zero_le _⟩) hS (fun r D' H1 locs1 hQ hP1 hS1 => ?_)
  · exact (sr_mapapp (st := .ref o :: st)).trans rfl
  · rw [sr_catsum]; simpa [JFrame.monitorRoom] using hW
  · have h := kk r D' hQ p e s m args below meth c H1 locs1 ls C hP1 hS1 hl
    rw [List.map_append] at h
    cases r <;> exact h
theorem wp_callS {M2 : sr_Md} {idx n : Nat} {As st0 : List Value} {Q' : Option Value → sr_St → Prop} (hd : decode M.2.1 pc = .ok (.invokestatic idx, 3)) (hM : Con g M2 As D Q') (hw : sr_CS M.1.cls idx M2) (hf : sr_fit M M2 n) (hn : As.length = n) (h0 : st0 = As.reverse ++ st) (hW : (st.map fun v => v.category).sum ≤ 8)
    (kk : ∀ (r : Option Value) (D' : sr_St), Q' r D' → WP g M (pc + 3) lv (r.toList ++ st) D' Q) : WP g M pc lv st0 D Q := by
  intro p e s m args below meth c H locs ls C hP hS hl
  subst h0
  have hts := C.2.2.2.2.2.2.1
  refine sr_call (va_runS (As := As.map (sr_cv g.2.2.2.1)) (rest := st.map (sr_cv g.2.2.2.1)) (n := n) ⟨C.1, C.2.1, C.2.2.2.1, C.2.2.2.2.1, hts⟩ hM ⟨sr_callB hts hw.1 hf.1 hf.2, hts _ hw.2⟩ ⟨sr_blind, fun U hU hW => ⟨rfl, by rw [hU]; exact hP, va_K.moved hW.alike C.2.2.2.2.2.2.2.1, C.2.2.2.2.2.2.2.2⟩⟩ rfl (by rw [List.length_map]; exact hn) hl.1 ?_ ?_ hd ⟨Nat.zero_le _, Nat.zero_le _⟩) hS (fun r D' H1 locs1 hQ hP1 hS1 => ?_)
  · exact sr_mapapp
  · rw [sr_catsum]; simpa [JFrame.monitorRoom] using hW
  · have h := kk r D' hQ p e s m args below meth c H1 locs1 ls C hP1 hS1 hl
    rw [List.map_append] at h
    cases r <;> exact h
/-! switches -/
theorem wp_lookup {dflt : Int} {ps : Array (Int × Int)} {len : Nat} {x : Int32} {off : Int} {tgt : Nat} (hd : decode M.2.1 pc = .ok (.lookupswitch dflt ps, len)) (hp : (ps.toList.zip (ps.toList.drop 1)).all (fun (a, next) => a.1 < next.1) = true) (ho : Op.lookupswitch.offset ps.toList dflt x.toInt = off) (ht : (pc : Int) + off = (tgt : Int)) (k : WP g M tgt lv st D Q) : WP g M pc lv (.int x :: st) D Q := by
  intro p e s m args below meth c H locs ls C hP hS hl
  exact lv_lookup C.1 C.2.1 hd hp ho ht (k p e s m args below meth c H locs ls C hP hS hl)
theorem wp_tableOut {dflt lo hi : Int} {offs : Array Int} {len : Nat} {x : Int32} {tgt : Nat} (hd : decode M.2.1 pc = .ok (.tableswitch dflt lo hi offs, len)) (h : x.toInt < lo ∨ hi < x.toInt) (ht : (pc : Int) + dflt = (tgt : Int)) (k : WP g M tgt lv st D Q) : WP g M pc lv (.int x :: st) D Q := by
  intro p e s m args below meth c H locs ls C hP hS hl
  exact lv_tableOut C.1 C.2.1 hd h ht (k p e s m args below meth c H locs ls C hP hS hl)
theorem wp_tableIn {dflt lo hi : Int} {offs : Array Int} {len : Nat} {x : Int32} {off : Int} {tgt : Nat} (hd : decode M.2.1 pc = .ok (.tableswitch dflt lo hi offs, len)) (h1 : ¬ x.toInt < lo) (h2 : ¬ hi < x.toInt) (ho : offs[(x.toInt - lo).toNat]? = some off) (ht : (pc : Int) + off = (tgt : Int)) (k : WP g M tgt lv st D Q) : WP g M pc lv (.int x :: st) D Q := by
  intro p e s m args below meth c H locs ls C hP hS hl
  exact lv_tableIn C.1 C.2.1 hd h1 h2 ho ht (k p e s m args below meth c H locs ls C hP hS hl)
end WPr
end
section
/-! methods, and the words of their constant pools -/
abbrev M_X1_clear : sr_Md := (yX1_clear, cX1_clear, 3, none, 0, 0)
abbrev M_X1_copyMargins : sr_Md := (yX1_copyMargins, cX1_copyMargins, 3, none, 0, 0)
abbrev M_X1_load : sr_Md := (yX1_load, cX1_load, 6, none, 0, 0)
abbrev M_X1_include : sr_Md := (yX1_include, cX1_include, 4, none, 0, 0)
abbrev M_X1_sweep : sr_Md := (yX1_sweep, cX1_sweep, 8, none, 0, 0)
abbrev M_X1_scaledSum : sr_Md := (yX1_scaledSum, cX1_scaledSum, 1, (some .long), 0, 0)
abbrev M_X1_sweptTimes : sr_Md := (yX1_sweptTimes, cX1_sweptTimes, 5, (some .long), 0, 0)
abbrev M_X2_copyFrom : sr_Md := (yX2_copyFrom, cX2_copyFrom, 2, none, 0, 0)
abbrev M_X2_isBelow : sr_Md := (yX2_isBelow, cX2_isBelow, 10, (some .boolean), 0, 0)
abbrev M_X2_commonDivisor : sr_Md := (yX2_commonDivisor, cX2_commonDivisor, 11, (some .long), 0, 0)
abbrev M_X3_isRowerCount : sr_Md := (yX3_isRowerCount, cX3_isRowerCount, 1, (some .boolean), 0, 0)
abbrev M_X3_isBound : sr_Md := (yX3_isBound, cX3_isBound, 1, (some .boolean), 0, 0)
abbrev M_X3_begin : sr_Md := (yX3_begin, cX3_begin, 2, none, 0, 0)
abbrev M_X3_copyFrom : sr_Md := (yX3_copyFrom, cX3_copyFrom, 3, none, 0, 0)
abbrev M_X3_hasRower : sr_Md := (yX3_hasRower, cX3_hasRower, 2, (some .boolean), 0, 0)
abbrev M_X3_hasRace : sr_Md := (yX3_hasRace, cX3_hasRace, 2, (some .boolean), 0, 0)
abbrev M_X3_isFull : sr_Md := (yX3_isFull, cX3_isFull, 1, (some .boolean), 0, 0)
abbrev M_X3_isSwap : sr_Md := (yX3_isSwap, cX3_isSwap, 6, (some .boolean), 0, 0)
abbrev M_X4_append : sr_Md := (yX4_append, cX4_append, 3, none, 0, 0)
abbrev M_X4_rewind : sr_Md := (yX4_rewind, cX4_rewind, 1, none, 0, 0)
abbrev M_X4_isLetter : sr_Md := (yX4_isLetter, cX4_isLetter, 1, (some .boolean), 0, 0)
abbrev M_X4_isDigit : sr_Md := (yX4_isDigit, cX4_isDigit, 1, (some .boolean), 0, 0)
abbrev M_X5_refuse : sr_Md := (yX5_refuse, cX5_refuse, 2, (some .boolean), 0, 0)
abbrev M_X6_end : sr_Md := (yX6_end, cX6_end, 2, (some .boolean), 0, 0)
abbrev M_X6_fault : sr_Md := (yX6_fault, cX6_fault, 2, (some .int), 0, 0)
abbrev M_X7_thrown : sr_Md := (yX7_thrown, cX7_thrown, 1, (some .int), 0, 0)
abbrev M_X7_isIn : sr_Md := (yX7_isIn, cX7_isIn, 3, (some .boolean), 0, 0)
abbrev M_X7_has : sr_Md := (yX7_has, cX7_has, 2, (some .boolean), 0, 0)
abbrev M_X7_bits : sr_Md := (yX7_bits, cX7_bits, 3, (some .int), 0, 0)
abbrev M_X7_size : sr_Md := (yX7_size, cX7_size, 2, (some .long), 0, 0)
abbrev M_X7_n : sr_Md := (yX7_n, cX7_n, 1, (some .int), 0, 0)
abbrev M_X7_races : sr_Md := (yX7_races, cX7_races, 1, (some .int), 0, 0)
abbrev M_X7_of : sr_Md := (yX7_of, cX7_of, 3, (some .int), 0, 0)
abbrev M_X7_put : sr_Md := (yX7_put, cX7_put, 3, none, 0, 0)
abbrev M_X7_here : sr_Md := (yX7_here, cX7_here, 1, (some .int), 0, 0)
abbrev M_X7_fails : sr_Md := (yX7_fails, cX7_fails, 3, none, 0, 0)
abbrev M_X7_letters : sr_Md := (yX7_letters, cX7_letters, 5, (some .int), 0, 0)
abbrev M_X7_fault : sr_Md := (yX7_fault, cX7_fault, 2, (some .int), 0, 0)
abbrev M_X7_clearsForm : sr_Md := (yX7_clearsForm, cX7_clearsForm, 2, none, 0, 0)
abbrev M_X7_comes : sr_Md := (yX7_comes, cX7_comes, 4, none, 0, 0)
abbrev M_X7_rowAt : sr_Md := (yX7_rowAt, cX7_rowAt, 3, (some .long), 0, 0)
abbrev M_X7_swaps : sr_Md := (yX7_swaps, cX7_swaps, 6, none, 0, 0)
abbrev M_X7_value : sr_Md := (yX7_value, cX7_value, 4, (some .long), 0, 0)
abbrev M_X7_doubt : sr_Md := (yX7_doubt, cX7_doubt, 4, (some .long), 0, 0)
abbrev M_X7_compared : sr_Md := (yX7_compared, cX7_compared, 21, (some .int), 0, 0)
abbrev M_J6_bitCount_0f7a4 : sr_Md := (yJ6_bitCount_0f7a4, cJ6_bitCount_0f7a4, 1, (some .int), 0, 0)
abbrev M_J9_abs_067f4 : sr_Md := (yJ9_abs_067f4, cJ9_abs_067f4, 2, (some .long), 0, 0)
abbrev M_J0_coder_7d493 : sr_Md := (yJ0_coder_7d493, cJ0_coder_7d493, 1, (some .byte), 0, 0)
abbrev M_J0_isLatin1_aae02 : sr_Md := (yJ0_isLatin1_aae02, cJ0_isLatin1_aae02, 1, (some .boolean), 0, 0)
abbrev M_J2_length_9d52b : sr_Md := (yJ2_length_9d52b, cJ2_length_9d52b, 1, (some .int), 0, 0)
abbrev M_J3_checkIndex_8e157 : sr_Md := (yJ3_checkIndex_8e157, cJ3_checkIndex_8e157, 3, (some .int), 0, 0)
abbrev M_X3_canRow : sr_Md := (yX3_canRow, cX3_canRow, 6, (some .boolean), 1, 20)
abbrev M_X3_append : sr_Md := (yX3_append, cX3_append, 5, none, 1, 20)
abbrev M_X4_readNumber : sr_Md := (yX4_readNumber, cX4_readNumber, 5, none, 1, 20)
abbrev M_X6_limit : sr_Md := (yX6_limit, cX6_limit, 2, (some .boolean), 1, 20)
abbrev M_X7_more : sr_Md := (yX7_more, cX7_more, 6, none, 1, 20)
abbrev M_X7_goes : sr_Md := (yX7_goes, cX7_goes, 3, none, 1, 20)
abbrev M_J0_length_8abf5 : sr_Md := (yJ0_length_8abf5, cJ0_length_8abf5, 1, (some .int), 1, 20)
abbrev M_J2_getChar_3b067 : sr_Md := (yJ2_getChar_3b067, cJ2_getChar_3b067, 2, (some .char), 1, 20)
abbrev M_X3_remove : sr_Md := (yX3_remove, cX3_remove, 3, none, 1, 21)
abbrev M_X6_raced : sr_Md := (yX6_raced, cX6_raced, 3, (some .int), 1, 21)
abbrev M_X6_areTwo : sr_Md := (yX6_areTwo, cX6_areTwo, 3, (some .boolean), 1, 21)
abbrev M_X7_formOf : sr_Md := (yX7_formOf, cX7_formOf, 5, none, 1, 21)
abbrev M_X7_difference : sr_Md := (yX7_difference, cX7_difference, 3, none, 1, 21)
abbrev M_X7_common : sr_Md := (yX7_common, cX7_common, 10, (some .long), 1, 21)
abbrev M_X1_copyForms : sr_Md := (yX1_copyForms, cX1_copyForms, 4, none, 1, 22)
abbrev M_X6_feed : sr_Md := (yX6_feed, cX6_feed, 7, (some .int), 1, 22)
abbrev M_X7_isRower : sr_Md := (yX7_isRower, cX7_isRower, 2, (some .boolean), 1, 22)
abbrev M_X7_areCrews : sr_Md := (yX7_areCrews, cX7_areCrews, 3, (some .boolean), 1, 22)
abbrev M_X7_crew : sr_Md := (yX7_crew, cX7_crew, 2, (some .boolean), 1, 22)
abbrev M_X7_limit : sr_Md := (yX7_limit, cX7_limit, 2, (some .boolean), 1, 22)
abbrev M_X7_raced : sr_Md := (yX7_raced, cX7_raced, 3, (some .int), 1, 22)
abbrev M_X7_feed : sr_Md := (yX7_feed, cX7_feed, 6, (some .int), 1, 22)
abbrev M_X7_end : sr_Md := (yX7_end, cX7_end, 2, (some .boolean), 1, 22)
abbrev M_X7_isDigitAt : sr_Md := (yX7_isDigitAt, cX7_isDigitAt, 2, (some .boolean), 1, 22)
abbrev M_X7_word : sr_Md := (yX7_word, cX7_word, 2, (some .int), 1, 22)
abbrev M_X7_isSwap : sr_Md := (yX7_isSwap, cX7_isSwap, 5, (some .boolean), 1, 22)
abbrev M_X7_isMatch : sr_Md := (yX7_isMatch, cX7_isMatch, 4, (some .boolean), 1, 22)
abbrev M_J0_checkIndex_df160 : sr_Md := (yJ0_checkIndex_df160, cJ0_checkIndex_df160, 2, none, 1, 22)
abbrev M_X1_isKnown : sr_Md := (yX1_isKnown, cX1_isKnown, 2, (some .boolean), 1, 24)
abbrev M_X1_scaledValue : sr_Md := (yX1_scaledValue, cX1_scaledValue, 1, (some .long), 1, 24)
abbrev M_X1_scaledDoubt : sr_Md := (yX1_scaledDoubt, cX1_scaledDoubt, 4, (some .long), 1, 24)
abbrev M_X7_solves : sr_Md := (yX7_solves, cX7_solves, 9, (some .boolean), 1, 25)
abbrev M_X1_solve : sr_Md := (yX1_solve, cX1_solve, 3, none, 1, 27)
abbrev M_X2_set : sr_Md := (yX2_set, cX2_set, 7, none, 1, 30)
abbrev M_X7_strike : sr_Md := (yX7_strike, cX7_strike, 2, (some .int), 2, 42)
abbrev M_X7_isNumber : sr_Md := (yX7_isNumber, cX7_isNumber, 2, (some .boolean), 2, 43)
abbrev M_J1_charAt_3b067 : sr_Md := (yJ1_charAt_3b067, cJ1_charAt_3b067, 2, (some .char), 2, 43)
abbrev M_J2_checkIndex_2214a : sr_Md := (yJ2_checkIndex_2214a, cJ2_checkIndex_2214a, 2, none, 2, 43)
abbrev M_X6_scaledRest : sr_Md := (yX6_scaledRest, cX6_scaledRest, 2, (some .long), 2, 44)
abbrev M_X1_couplesKnown : sr_Md := (yX1_couplesKnown, cX1_couplesKnown, 5, (some .int), 2, 45)
abbrev M_X6_groupOf : sr_Md := (yX6_groupOf, cX6_groupOf, 4, (some .int), 2, 45)
abbrev M_X6_isMatch : sr_Md := (yX6_isMatch, cX6_isMatch, 3, (some .boolean), 2, 45)
abbrev M_X7_race : sr_Md := (yX7_race, cX7_race, 5, (some .int), 2, 45)
abbrev M_X7_lays : sr_Md := (yX7_lays, cX7_lays, 2, none, 2, 45)
abbrev M_X1_scaledDoubts : sr_Md := (yX1_scaledDoubts, cX1_scaledDoubts, 6, (some .long), 2, 47)
abbrev M_X6_isAhead : sr_Md := (yX6_isAhead, cX6_isAhead, 4, (some .boolean), 2, 47)
abbrev M_X6_judge : sr_Md := (yX6_judge, cX6_judge, 2, none, 2, 49)
abbrev M_X7_told_ : sr_Md := (yX7_told_, cX7_told_, 5, (some .long), 2, 50)
abbrev M_X7_isKnown : sr_Md := (yX7_isKnown, cX7_isKnown, 3, (some .boolean), 2, 53)
abbrev M_X6_odd : sr_Md := (yX6_odd, cX6_odd, 4, (some .long), 2, 56)
abbrev M_X6_tellFraction : sr_Md := (yX6_tellFraction, cX6_tellFraction, 6, (some .long), 2, 56)
abbrev M_X7_number : sr_Md := (yX7_number, cX7_number, 5, (some .int), 3, 64)
abbrev M_J2_charAt_3b067 : sr_Md := (yJ2_charAt_3b067, cJ2_charAt_3b067, 2, (some .char), 3, 64)
abbrev M_X7_sumsUp : sr_Md := (yX7_sumsUp, cX7_sumsUp, 5, none, 3, 66)
abbrev M_X6_listMatches : sr_Md := (yX6_listMatches, cX6_listMatches, 6, (some .int), 3, 67)
abbrev M_X6_countGroups : sr_Md := (yX6_countGroups, cX6_countGroups, 4, (some .int), 3, 68)
abbrev M_X6_crew : sr_Md := (yX6_crew, cX6_crew, 2, (some .boolean), 3, 70)
abbrev M_X6_race : sr_Md := (yX6_race, cX6_race, 5, (some .int), 3, 70)
abbrev M_X6_strike : sr_Md := (yX6_strike, cX6_strike, 2, (some .int), 3, 70)
abbrev M_X6_thoseAheadOf : sr_Md := (yX6_thoseAheadOf, cX6_thoseAheadOf, 5, (some .int), 3, 70)
abbrev M_X6_countSurelyBehind : sr_Md := (yX6_countSurelyBehind, cX6_countSurelyBehind, 4, (some .int), 3, 70)
abbrev M_X7_swaps_ : sr_Md := (yX7_swaps_, cX7_swaps_, 9, (some .long), 3, 74)
abbrev M_X7_difference_ : sr_Md := (yX7_difference_, cX7_difference_, 4, (some .long), 3, 75)
abbrev M_X7_doubt_ : sr_Md := (yX7_doubt_, cX7_doubt_, 4, (some .long), 3, 75)
abbrev M_X7_drift : sr_Md := (yX7_drift, cX7_drift, 2, (some .long), 3, 75)
abbrev M_X7_restOf : sr_Md := (yX7_restOf, cX7_restOf, 3, (some .long), 3, 75)
abbrev M_X7_guess : sr_Md := (yX7_guess, cX7_guess, 6, (some .long), 3, 75)
abbrev M_X7_isAhead : sr_Md := (yX7_isAhead, cX7_isAhead, 3, (some .int), 3, 75)
abbrev M_X7_groupOf : sr_Md := (yX7_groupOf, cX7_groupOf, 4, (some .int), 3, 75)
abbrev M_X7_couples : sr_Md := (yX7_couples, cX7_couples, 5, (some .int), 3, 75)
abbrev M_X7_rankNow : sr_Md := (yX7_rankNow, cX7_rankNow, 2, (some .int), 3, 75)
abbrev M_X7_even : sr_Md := (yX7_even, cX7_even, 9, (some .int), 3, 75)
abbrev M_X6_rest : sr_Md := (yX6_rest, cX6_rest, 3, (some .long), 3, 81)
abbrev M_X6_sum : sr_Md := (yX6_sum, cX6_sum, 2, (some .long), 3, 81)
abbrev M_X6_suit : sr_Md := (yX6_suit, cX6_suit, 8, (some .long), 3, 81)
abbrev M_X6_swaps : sr_Md := (yX6_swaps, cX6_swaps, 8, (some .long), 3, 81)
abbrev M_X6_tellForm : sr_Md := (yX6_tellForm, cX6_tellForm, 6, (some .long), 3, 81)
abbrev M_J0_charAt_5068e : sr_Md := (yJ0_charAt_5068e, cJ0_charAt_5068e, 2, (some .char), 4, 85)
abbrev M_X7_numberIn : sr_Md := (yX7_numberIn, cX7_numberIn, 4, (some .int), 4, 88)
abbrev M_X7_rower : sr_Md := (yX7_rower, cX7_rower, 5, (some .int), 4, 88)
abbrev M_X7_sum : sr_Md := (yX7_sum, cX7_sum, 2, (some .long), 4, 90)
abbrev M_X7_odd : sr_Md := (yX7_odd, cX7_odd, 10, (some .long), 4, 90)
abbrev M_X6_count : sr_Md := (yX6_count, cX6_count, 2, (some .int), 4, 91)
abbrev M_X6_fewest : sr_Md := (yX6_fewest, cX6_fewest, 5, (some .int), 4, 92)
abbrev M_X6_chooseNext : sr_Md := (yX6_chooseNext, cX6_chooseNext, 5, (some .boolean), 4, 92)
abbrev M_X6_chooseEven : sr_Md := (yX6_chooseEven, cX6_chooseEven, 9, (some .boolean), 4, 92)
abbrev M_X6_rank : sr_Md := (yX6_rank, cX6_rank, 3, (some .int), 4, 94)
abbrev M_X7_fewest : sr_Md := (yX7_fewest, cX7_fewest, 6, (some .int), 4, 96)
abbrev M_X7_rest : sr_Md := (yX7_rest, cX7_rest, 5, (some .long), 4, 97)
abbrev M_X7_suit : sr_Md := (yX7_suit, cX7_suit, 9, (some .long), 4, 97)
abbrev M_X7_rank : sr_Md := (yX7_rank, cX7_rank, 6, (some .int), 4, 98)
abbrev M_X7_groups : sr_Md := (yX7_groups, cX7_groups, 3, (some .int), 4, 98)
abbrev M_X7_matched : sr_Md := (yX7_matched, cX7_matched, 5, none, 4, 99)
abbrev M_X6_difference : sr_Md := (yX6_difference, cX6_difference, 4, (some .long), 4, 106)
abbrev M_X6_doubt : sr_Md := (yX6_doubt, cX6_doubt, 4, (some .long), 4, 106)
abbrev M_X6_drift : sr_Md := (yX6_drift, cX6_drift, 2, (some .long), 4, 106)
abbrev M_X6_guess : sr_Md := (yX6_guess, cX6_guess, 6, (some .long), 4, 106)
abbrev M_X4_isWord : sr_Md := (yX4_isWord, cX4_isWord, 3, (some .boolean), 5, 106)
abbrev M_X7_crewTold : sr_Md := (yX7_crewTold, cX7_crewTold, 4, (some .int), 5, 112)
abbrev M_X6_next : sr_Md := (yX6_next, cX6_next, 3, (some .long), 5, 116)
abbrev M_X6_even : sr_Md := (yX6_even, cX6_even, 3, (some .int), 5, 120)
abbrev M_X7_count : sr_Md := (yX7_count, cX7_count, 2, (some .int), 5, 120)
abbrev M_X7_next : sr_Md := (yX7_next, cX7_next, 5, (some .long), 5, 123)
abbrev M_X4_readWord : sr_Md := (yX4_readWord, cX4_readWord, 1, none, 6, 128)
abbrev M_X7_raceTold : sr_Md := (yX7_raceTold, cX7_raceTold, 6, none, 6, 135)
abbrev M_X4_step : sr_Md := (yX4_step, cX4_step, 1, none, 7, 148)
abbrev M_X7_told : sr_Md := (yX7_told, cX7_told, 3, none, 7, 160)
abbrev M_X5_readRowers : sr_Md := (yX5_readRowers, cX5_readRowers, 1, (some .boolean), 8, 168)
abbrev M_X5_readBound : sr_Md := (yX5_readBound, cX5_readBound, 1, (some .boolean), 8, 168)
abbrev M_X5_readCrew : sr_Md := (yX5_readCrew, cX5_readCrew, 5, (some .boolean), 8, 168)
abbrev M_X5_readMargin : sr_Md := (yX5_readMargin, cX5_readMargin, 3, (some .boolean), 8, 168)
abbrev M_X7_tell : sr_Md := (yX7_tell, cX7_tell, 3, (some .int), 8, 182)
abbrev M_X5_readRace : sr_Md := (yX5_readRace, cX5_readRace, 1, (some .boolean), 9, 192)
abbrev M_X5_readAll : sr_Md := (yX5_readAll, cX5_readAll, 2, (some .boolean), 10, 212)
abbrev M_X6_tell : sr_Md := (yX6_tell, cX6_tell, 2, (some .int), 11, 233)
theorem fl_X0_9 : sr_FL RX0 9 0 0 := ⟨_, rfl, by decide, (sr_mt1 (List.mem_of_getElem? (i := 179) rfl) rfl)⟩
theorem fl_X0_15 : sr_FL RX0 15 0 1 := ⟨_, rfl, by decide, (sr_mt1 (List.mem_of_getElem? (i := 181) rfl) rfl)⟩
theorem fl_X0_18 : sr_FL RX0 18 0 2 := ⟨_, rfl, by decide, (sr_mt1 (List.mem_of_getElem? (i := 183) rfl) rfl)⟩
theorem fl_X0_24 : sr_FL RX0 24 0 3 := ⟨_, rfl, by decide, (sr_mt1 (List.mem_of_getElem? (i := 185) rfl) rfl)⟩
theorem fl_X1_11 : sr_FL RX1 11 1 0 := ⟨_, rfl, by decide, (sr_mt1 (List.mem_of_getElem? (i := 133) rfl) rfl)⟩
theorem fl_X1_15 : sr_FL RX1 15 1 1 := ⟨_, rfl, by decide, (sr_mt1 (List.mem_of_getElem? (i := 135) rfl) rfl)⟩
theorem fl_X1_21 : sr_FL RX1 21 1 2 := ⟨_, rfl, by decide, (sr_mt1 (List.mem_of_getElem? (i := 137) rfl) rfl)⟩
theorem fl_X1_24 : sr_FL RX1 24 1 3 := ⟨_, rfl, by decide, (sr_mt1 (List.mem_of_getElem? (i := 138) rfl) rfl)⟩
theorem fl_X1_27 : sr_FL RX1 27 1 4 := ⟨_, rfl, by decide, (sr_mt1 (List.mem_of_getElem? (i := 139) rfl) rfl)⟩
theorem fl_X1_31 : sr_FL RX1 31 1 5 := ⟨_, rfl, by decide, (sr_mt1 (List.mem_of_getElem? (i := 140) rfl) rfl)⟩
theorem fl_X2_7 : sr_FL RX2 7 2 0 := ⟨_, rfl, by decide, (sr_mt1 (List.mem_of_getElem? (i := 162) rfl) rfl)⟩
theorem fl_X2_13 : sr_FL RX2 13 2 1 := ⟨_, rfl, by decide, (sr_mt1 (List.mem_of_getElem? (i := 164) rfl) rfl)⟩
theorem fl_X3_9 : sr_FL RX3 9 3 0 := ⟨_, rfl, by decide, (sr_mt1 (List.mem_of_getElem? (i := 33) rfl) rfl)⟩
theorem fl_X3_15 : sr_FL RX3 15 3 1 := ⟨_, rfl, by decide, (sr_mt1 (List.mem_of_getElem? (i := 35) rfl) rfl)⟩
theorem fl_X3_18 : sr_FL RX3 18 3 2 := ⟨_, rfl, by decide, (sr_mt1 (List.mem_of_getElem? (i := 38) rfl) rfl)⟩
theorem fl_X3_21 : sr_FL RX3 21 3 3 := ⟨_, rfl, by decide, (sr_mt1 (List.mem_of_getElem? (i := 40) rfl) rfl)⟩
theorem fl_X3_25 : sr_FL RX3 25 3 4 := ⟨_, rfl, by decide, (sr_mt1 (List.mem_of_getElem? (i := 42) rfl) rfl)⟩
theorem fl_X3_28 : sr_FL RX3 28 3 5 := ⟨_, rfl, by decide, (sr_mt1 (List.mem_of_getElem? (i := 44) rfl) rfl)⟩
theorem fl_X3_31 : sr_FL RX3 31 3 6 := ⟨_, rfl, by decide, (sr_mt1 (List.mem_of_getElem? (i := 46) rfl) rfl)⟩
theorem fl_X4_9 : sr_FL RX4 9 4 0 := ⟨_, rfl, by decide, (sr_mt1 (List.mem_of_getElem? (i := 76) rfl) rfl)⟩
theorem fl_X4_15 : sr_FL RX4 15 4 1 := ⟨_, rfl, by decide, (sr_mt1 (List.mem_of_getElem? (i := 78) rfl) rfl)⟩
theorem fl_X4_18 : sr_FL RX4 18 4 2 := ⟨_, rfl, by decide, (sr_mt1 (List.mem_of_getElem? (i := 80) rfl) rfl)⟩
theorem fl_X4_21 : sr_FL RX4 21 4 3 := ⟨_, rfl, by decide, (sr_mt1 (List.mem_of_getElem? (i := 82) rfl) rfl)⟩
theorem fl_X4_24 : sr_FL RX4 24 4 4 := ⟨_, rfl, by decide, (sr_mt1 (List.mem_of_getElem? (i := 84) rfl) rfl)⟩
theorem fl_X4_27 : sr_FL RX4 27 4 5 := ⟨_, rfl, by decide, (sr_mt1 (List.mem_of_getElem? (i := 85) rfl) rfl)⟩
theorem fl_X5_9 : sr_FL RX5 9 5 0 := ⟨_, rfl, by decide, (sr_mt1 (List.mem_of_getElem? (i := 102) rfl) rfl)⟩
theorem fl_X5_15 : sr_FL RX5 15 5 1 := ⟨_, rfl, by decide, (sr_mt1 (List.mem_of_getElem? (i := 104) rfl) rfl)⟩
theorem fl_X5_21 : sr_FL RX5 21 5 2 := ⟨_, rfl, by decide, (sr_mt1 (List.mem_of_getElem? (i := 106) rfl) rfl)⟩
theorem fl_X5_28 : sr_FL RX5 28 5 3 := ⟨_, rfl, by decide, (sr_mt1 (List.mem_of_getElem? (i := 108) rfl) rfl)⟩
theorem fl_X5_32 : sr_FL RX5 32 5 4 := ⟨_, rfl, by decide, (sr_mt1 (List.mem_of_getElem? (i := 110) rfl) rfl)⟩
theorem fl_X5_35 : sr_FL RX5 35 5 5 := ⟨_, rfl, by decide, (sr_mt1 (List.mem_of_getElem? (i := 111) rfl) rfl)⟩
theorem fl_X5_44 : sr_FL RX5 44 4 1 := ⟨_, rfl, by decide, (sr_mt1 (List.mem_of_getElem? (i := 79) rfl) rfl)⟩
theorem fl_X5_61 : sr_FL RX5 61 4 2 := ⟨_, rfl, by decide, (sr_mt1 (List.mem_of_getElem? (i := 81) rfl) rfl)⟩
theorem fl_X5_64 : sr_FL RX5 64 4 3 := ⟨_, rfl, by decide, (sr_mt1 (List.mem_of_getElem? (i := 83) rfl) rfl)⟩
theorem fl_X5_77 : sr_FL RX5 77 3 1 := ⟨_, rfl, by decide, (sr_mt1 (List.mem_of_getElem? (i := 36) rfl) rfl)⟩
theorem fl_X6_10 : sr_FL RX6 10 6 0 := ⟨_, rfl, by decide, (sr_mt1 (List.mem_of_getElem? (i := 196) rfl) rfl)⟩
theorem fl_X6_19 : sr_FL RX6 19 6 1 := ⟨_, rfl, by decide, (sr_mt1 (List.mem_of_getElem? (i := 197) rfl) rfl)⟩
theorem fl_X6_26 : sr_FL RX6 26 6 2 := ⟨_, rfl, by decide, (sr_mt1 (List.mem_of_getElem? (i := 198) rfl) rfl)⟩
theorem fl_X6_30 : sr_FL RX6 30 6 3 := ⟨_, rfl, by decide, (sr_mt1 (List.mem_of_getElem? (i := 199) rfl) rfl)⟩
theorem fl_X6_36 : sr_FL RX6 36 6 4 := ⟨_, rfl, by decide, (sr_mt1 (List.mem_of_getElem? (i := 200) rfl) rfl)⟩
theorem fl_X6_40 : sr_FL RX6 40 6 5 := ⟨_, rfl, by decide, (sr_mt1 (List.mem_of_getElem? (i := 201) rfl) rfl)⟩
theorem fl_X6_43 : sr_FL RX6 43 6 6 := ⟨_, rfl, by decide, (sr_mt1 (List.mem_of_getElem? (i := 202) rfl) rfl)⟩
theorem fl_X6_49 : sr_FL RX6 49 6 7 := ⟨_, rfl, by decide, (sr_mt1 (List.mem_of_getElem? (i := 203) rfl) rfl)⟩
theorem fl_X6_53 : sr_FL RX6 53 6 8 := ⟨_, rfl, by decide, (sr_mt1 (List.mem_of_getElem? (i := 204) rfl) rfl)⟩
theorem fl_X6_57 : sr_FL RX6 57 6 9 := ⟨_, rfl, by decide, (sr_mt1 (List.mem_of_getElem? (i := 205) rfl) rfl)⟩
theorem fl_X6_60 : sr_FL RX6 60 6 10 := ⟨_, rfl, by decide, (sr_mt1 (List.mem_of_getElem? (i := 206) rfl) rfl)⟩
theorem fl_X6_64 : sr_FL RX6 64 6 11 := ⟨_, rfl, by decide, (sr_mt1 (List.mem_of_getElem? (i := 207) rfl) rfl)⟩
theorem fl_X6_67 : sr_FL RX6 67 5 2 := ⟨_, rfl, by decide, (sr_mt1 (List.mem_of_getElem? (i := 107) rfl) rfl)⟩
theorem fl_X6_71 : sr_FL RX6 71 4 0 := ⟨_, rfl, by decide, (sr_mt1 (List.mem_of_getElem? (i := 77) rfl) rfl)⟩
theorem fl_X6_80 : sr_FL RX6 80 5 3 := ⟨_, rfl, by decide, (sr_mt1 (List.mem_of_getElem? (i := 109) rfl) rfl)⟩
theorem fl_X6_91 : sr_FL RX6 91 5 1 := ⟨_, rfl, by decide, (sr_mt1 (List.mem_of_getElem? (i := 105) rfl) rfl)⟩
theorem fl_X6_94 : sr_FL RX6 94 5 0 := ⟨_, rfl, by decide, (sr_mt1 (List.mem_of_getElem? (i := 103) rfl) rfl)⟩
theorem fl_X6_110 : sr_FL RX6 110 3 1 := ⟨_, rfl, by decide, (sr_mt1 (List.mem_of_getElem? (i := 37) rfl) rfl)⟩
theorem fl_X6_123 : sr_FL RX6 123 3 2 := ⟨_, rfl, by decide, (sr_mt1 (List.mem_of_getElem? (i := 39) rfl) rfl)⟩
theorem fl_X6_132 : sr_FL RX6 132 3 0 := ⟨_, rfl, by decide, (sr_mt1 (List.mem_of_getElem? (i := 34) rfl) rfl)⟩
theorem fl_X6_143 : sr_FL RX6 143 1 1 := ⟨_, rfl, by decide, (sr_mt1 (List.mem_of_getElem? (i := 136) rfl) rfl)⟩
theorem fl_X6_153 : sr_FL RX6 153 3 3 := ⟨_, rfl, by decide, (sr_mt1 (List.mem_of_getElem? (i := 41) rfl) rfl)⟩
theorem fl_X6_156 : sr_FL RX6 156 3 4 := ⟨_, rfl, by decide, (sr_mt1 (List.mem_of_getElem? (i := 43) rfl) rfl)⟩
theorem fl_X6_159 : sr_FL RX6 159 3 5 := ⟨_, rfl, by decide, (sr_mt1 (List.mem_of_getElem? (i := 45) rfl) rfl)⟩
theorem fl_X6_162 : sr_FL RX6 162 3 6 := ⟨_, rfl, by decide, (sr_mt1 (List.mem_of_getElem? (i := 47) rfl) rfl)⟩
theorem fl_X6_180 : sr_FL RX6 180 1 0 := ⟨_, rfl, by decide, (sr_mt1 (List.mem_of_getElem? (i := 134) rfl) rfl)⟩
theorem fl_X6_222 : sr_FL RX6 222 0 0 := ⟨_, rfl, by decide, (sr_mt1 (List.mem_of_getElem? (i := 180) rfl) rfl)⟩
theorem fl_X6_225 : sr_FL RX6 225 0 1 := ⟨_, rfl, by decide, (sr_mt1 (List.mem_of_getElem? (i := 182) rfl) rfl)⟩
theorem fl_X6_228 : sr_FL RX6 228 0 2 := ⟨_, rfl, by decide, (sr_mt1 (List.mem_of_getElem? (i := 184) rfl) rfl)⟩
theorem fl_X6_231 : sr_FL RX6 231 0 3 := ⟨_, rfl, by decide, (sr_mt1 (List.mem_of_getElem? (i := 186) rfl) rfl)⟩
theorem fl_X6_234 : sr_FL RX6 234 2 0 := ⟨_, rfl, by decide, (sr_mt1 (List.mem_of_getElem? (i := 163) rfl) rfl)⟩
theorem fl_X6_237 : sr_FL RX6 237 2 1 := ⟨_, rfl, by decide, (sr_mt1 (List.mem_of_getElem? (i := 165) rfl) rfl)⟩
theorem fl_X7_7 : sr_FL RX7 7 7 1 := ⟨_, rfl, by decide, (sr_mt3 (List.mem_of_getElem? (i := 230) rfl) rfl)⟩
theorem fl_X7_13 : sr_FL RX7 13 7 2 := ⟨_, rfl, by decide, (sr_mt3 (List.mem_of_getElem? (i := 231) rfl) rfl)⟩
theorem fl_X7_16 : sr_FL RX7 16 7 3 := ⟨_, rfl, by decide, (sr_mt3 (List.mem_of_getElem? (i := 232) rfl) rfl)⟩
theorem fl_X7_20 : sr_FL RX7 20 7 6 := ⟨_, rfl, by decide, (sr_mt3 (List.mem_of_getElem? (i := 235) rfl) rfl)⟩
theorem fl_X7_24 : sr_FL RX7 24 7 10 := ⟨_, rfl, by decide, (sr_mt3 (List.mem_of_getElem? (i := 239) rfl) rfl)⟩
theorem fl_X7_27 : sr_FL RX7 27 7 11 := ⟨_, rfl, by decide, (sr_mt4 (List.mem_of_getElem? (i := 0) rfl) rfl)⟩
theorem fl_X7_31 : sr_FL RX7 31 7 12 := ⟨_, rfl, by decide, (sr_mt4 (List.mem_of_getElem? (i := 1) rfl) rfl)⟩
theorem fl_X7_34 : sr_FL RX7 34 7 13 := ⟨_, rfl, by decide, (sr_mt4 (List.mem_of_getElem? (i := 2) rfl) rfl)⟩
theorem fl_X7_37 : sr_FL RX7 37 7 14 := ⟨_, rfl, by decide, (sr_mt4 (List.mem_of_getElem? (i := 3) rfl) rfl)⟩
theorem fl_X7_40 : sr_FL RX7 40 7 15 := ⟨_, rfl, by decide, (sr_mt4 (List.mem_of_getElem? (i := 4) rfl) rfl)⟩
theorem fl_X7_43 : sr_FL RX7 43 7 0 := ⟨_, rfl, by decide, (sr_mt3 (List.mem_of_getElem? (i := 229) rfl) rfl)⟩
theorem fl_X7_77 : sr_FL RX7 77 7 4 := ⟨_, rfl, by decide, (sr_mt3 (List.mem_of_getElem? (i := 233) rfl) rfl)⟩
theorem fl_X7_83 : sr_FL RX7 83 7 8 := ⟨_, rfl, by decide, (sr_mt3 (List.mem_of_getElem? (i := 237) rfl) rfl)⟩
theorem fl_X7_86 : sr_FL RX7 86 7 7 := ⟨_, rfl, by decide, (sr_mt3 (List.mem_of_getElem? (i := 236) rfl) rfl)⟩
theorem fl_X7_89 : sr_FL RX7 89 7 5 := ⟨_, rfl, by decide, (sr_mt3 (List.mem_of_getElem? (i := 234) rfl) rfl)⟩
theorem fl_X7_103 : sr_FL RX7 103 7 9 := ⟨_, rfl, by decide, (sr_mt3 (List.mem_of_getElem? (i := 238) rfl) rfl)⟩
theorem fl_X7_146 : sr_FL RX7 146 7 18 := ⟨_, rfl, by decide, (sr_mt4 (List.mem_of_getElem? (i := 7) rfl) rfl)⟩
theorem fl_X7_156 : sr_FL RX7 156 7 16 := ⟨_, rfl, by decide, (sr_mt4 (List.mem_of_getElem? (i := 5) rfl) rfl)⟩
theorem fl_X7_159 : sr_FL RX7 159 7 17 := ⟨_, rfl, by decide, (sr_mt4 (List.mem_of_getElem? (i := 6) rfl) rfl)⟩
theorem fl_X7_206 : sr_FL RX7 206 7 19 := ⟨_, rfl, by decide, (sr_mt4 (List.mem_of_getElem? (i := 8) rfl) rfl)⟩
theorem fl_X7_218 : sr_FL RX7 218 7 20 := ⟨_, rfl, by decide, (sr_mt4 (List.mem_of_getElem? (i := 9) rfl) rfl)⟩
theorem fl_X7_236 : sr_FL RX7 236 7 21 := ⟨_, rfl, by decide, (sr_mt4 (List.mem_of_getElem? (i := 10) rfl) rfl)⟩
theorem fl_X7_239 : sr_FL RX7 239 7 23 := ⟨_, rfl, by decide, (sr_mt4 (List.mem_of_getElem? (i := 12) rfl) rfl)⟩
theorem fl_X7_242 : sr_FL RX7 242 7 24 := ⟨_, rfl, by decide, (sr_mt4 (List.mem_of_getElem? (i := 13) rfl) rfl)⟩
theorem fl_X7_245 : sr_FL RX7 245 7 25 := ⟨_, rfl, by decide, (sr_mt4 (List.mem_of_getElem? (i := 14) rfl) rfl)⟩
theorem fl_X7_252 : sr_FL RX7 252 7 22 := ⟨_, rfl, by decide, (sr_mt4 (List.mem_of_getElem? (i := 11) rfl) rfl)⟩
theorem ct_J6_265 : Cond.constant RJ6 265 (1431655765) ∈ sr_ws := (sr_mt2 (List.mem_of_getElem? (i := 134) rfl) rfl)
theorem ct_J6_266 : Cond.constant RJ6 266 (858993459) ∈ sr_ws := (sr_mt2 (List.mem_of_getElem? (i := 135) rfl) rfl)
theorem ct_J6_267 : Cond.constant RJ6 267 (252645135) ∈ sr_ws := (sr_mt2 (List.mem_of_getElem? (i := 136) rfl) rfl)
theorem ct_X6_170 : Cond.constantLong RX6 170 (-1000000000000000000) ∈ sr_ws := (sr_mt3 (List.mem_of_getElem? (i := 4) rfl) rfl)
theorem ct_X6_215 : Cond.constantLong RX6 215 (2) ∈ sr_ws := (sr_mt3 (List.mem_of_getElem? (i := 92) rfl) rfl)
theorem ct_X6_220 : Cond.constantLong RX6 220 (-1) ∈ sr_ws := (sr_mt3 (List.mem_of_getElem? (i := 127) rfl) rfl)
theorem ct_X7_181 : Cond.constantLong RX7 181 (-1000000000000000000) ∈ sr_ws := (sr_mt4 (List.mem_of_getElem? (i := 200) rfl) rfl)
theorem ct_X7_234 : Cond.constantLong RX7 234 (2) ∈ sr_ws := (sr_mt5 (List.mem_of_getElem? (i := 82) rfl) rfl)
theorem ct_X7_255 : Cond.constantLong RX7 255 (-1) ∈ sr_ws := (sr_mt5 (List.mem_of_getElem? (i := 87) rfl) rfl)
theorem ca_X1_35 : sr_CV RX1 35 M_X1_clear := ⟨⟨(sr_mt3 (List.mem_of_getElem? (i := 113) rfl) rfl), (sr_mt1 (List.mem_of_getElem? (i := 5) rfl) rfl), (sr_mt2 (List.mem_of_getElem? (i := 157) rfl) rfl)⟩, (sr_mt2 (List.mem_of_getElem? (i := 155) rfl) rfl), (sr_mt2 (List.mem_of_getElem? (i := 156) rfl) rfl)⟩
theorem ca_X1_38 : sr_CV RX1 38 M_X1_sweep := ⟨⟨(sr_mt2 (List.mem_of_getElem? (i := 170) rfl) rfl), (sr_mt1 (List.mem_of_getElem? (i := 5) rfl) rfl), (sr_mt2 (List.mem_of_getElem? (i := 173) rfl) rfl)⟩, (sr_mt2 (List.mem_of_getElem? (i := 172) rfl) rfl), (sr_mp1 (List.mem_of_getElem? (i := 10) rfl) rfl)⟩
theorem ca_X1_42 : sr_CV RX1 42 M_X1_sweptTimes := ⟨⟨(sr_mt2 (List.mem_of_getElem? (i := 226) rfl) rfl), (sr_mt1 (List.mem_of_getElem? (i := 5) rfl) rfl), (sr_mt2 (List.mem_of_getElem? (i := 229) rfl) rfl)⟩, (sr_mt2 (List.mem_of_getElem? (i := 228) rfl) rfl), (sr_mp1 (List.mem_of_getElem? (i := 11) rfl) rfl)⟩
theorem ca_X1_46 : sr_CV RX1 46 M_X1_load := ⟨⟨(sr_mt2 (List.mem_of_getElem? (i := 221) rfl) rfl), (sr_mt1 (List.mem_of_getElem? (i := 5) rfl) rfl), (sr_mt2 (List.mem_of_getElem? (i := 161) rfl) rfl)⟩, (sr_mt2 (List.mem_of_getElem? (i := 159) rfl) rfl), (sr_mt2 (List.mem_of_getElem? (i := 160) rfl) rfl)⟩
theorem ca_X1_50 : sr_CV RX1 50 M_X1_isKnown := ⟨⟨(sr_mt2 (List.mem_of_getElem? (i := 222) rfl) rfl), (sr_mt1 (List.mem_of_getElem? (i := 5) rfl) rfl), (sr_mt2 (List.mem_of_getElem? (i := 225) rfl) rfl)⟩, (sr_mt2 (List.mem_of_getElem? (i := 223) rfl) rfl), (sr_mt2 (List.mem_of_getElem? (i := 224) rfl) rfl)⟩
theorem ca_X1_54 : sr_CV RX1 54 M_X1_scaledDoubt := ⟨⟨(sr_mt3 (List.mem_of_getElem? (i := 118) rfl) rfl), (sr_mt1 (List.mem_of_getElem? (i := 5) rfl) rfl), (sr_mt3 (List.mem_of_getElem? (i := 12) rfl) rfl)⟩, (sr_mt3 (List.mem_of_getElem? (i := 10) rfl) rfl), (sr_mt3 (List.mem_of_getElem? (i := 11) rfl) rfl)⟩
theorem ca_X2_16 : sr_CS RX2 16 M_J9_abs_067f4 := ⟨⟨(sr_mt3 (List.mem_of_getElem? (i := 25) rfl) rfl), (sr_mt1 (List.mem_of_getElem? (i := 18) rfl) rfl), (sr_mt3 (List.mem_of_getElem? (i := 27) rfl) rfl)⟩, (sr_mt3 (List.mem_of_getElem? (i := 26) rfl) rfl)⟩
theorem ca_X2_22 : sr_CS RX2 22 M_X2_commonDivisor := ⟨⟨(sr_mt3 (List.mem_of_getElem? (i := 28) rfl) rfl), (sr_mt1 (List.mem_of_getElem? (i := 6) rfl) rfl), (sr_mt3 (List.mem_of_getElem? (i := 30) rfl) rfl)⟩, (sr_mt3 (List.mem_of_getElem? (i := 29) rfl) rfl)⟩
theorem ca_X3_34 : sr_CS RX3 34 M_J6_bitCount_0f7a4 := ⟨⟨(sr_mt2 (List.mem_of_getElem? (i := 197) rfl) rfl), (sr_mt1 (List.mem_of_getElem? (i := 13) rfl) rfl), (sr_mt2 (List.mem_of_getElem? (i := 133) rfl) rfl)⟩, (sr_mt2 (List.mem_of_getElem? (i := 132) rfl) rfl)⟩
theorem ca_X3_40 : sr_CV RX3 40 M_X3_isFull := ⟨⟨(sr_mt2 (List.mem_of_getElem? (i := 149) rfl) rfl), (sr_mt1 (List.mem_of_getElem? (i := 2) rfl) rfl), (sr_mt2 (List.mem_of_getElem? (i := 126) rfl) rfl)⟩, (sr_mt2 (List.mem_of_getElem? (i := 124) rfl) rfl), (sr_mt2 (List.mem_of_getElem? (i := 125) rfl) rfl)⟩
theorem ca_X3_44 : sr_CV RX3 44 M_X3_hasRace := ⟨⟨(sr_mt2 (List.mem_of_getElem? (i := 212) rfl) rfl), (sr_mt1 (List.mem_of_getElem? (i := 2) rfl) rfl), (sr_mt2 (List.mem_of_getElem? (i := 207) rfl) rfl)⟩, (sr_mt2 (List.mem_of_getElem? (i := 205) rfl) rfl), (sr_mt2 (List.mem_of_getElem? (i := 206) rfl) rfl)⟩
theorem ca_X4_31 : sr_CS RX4 31 M_X4_isLetter := ⟨⟨(sr_mt2 (List.mem_of_getElem? (i := 25) rfl) rfl), (sr_mt1 (List.mem_of_getElem? (i := 4) rfl) rfl), (sr_mt2 (List.mem_of_getElem? (i := 27) rfl) rfl)⟩, (sr_mt2 (List.mem_of_getElem? (i := 26) rfl) rfl)⟩
theorem ca_X4_35 : sr_CV RX4 35 M_X4_readWord := ⟨⟨(sr_mt2 (List.mem_of_getElem? (i := 28) rfl) rfl), (sr_mt1 (List.mem_of_getElem? (i := 4) rfl) rfl), (sr_mt2 (List.mem_of_getElem? (i := 31) rfl) rfl)⟩, (sr_mt2 (List.mem_of_getElem? (i := 30) rfl) rfl), (sr_mp1 (List.mem_of_getElem? (i := 0) rfl) rfl)⟩
theorem ca_X4_38 : sr_CS RX4 38 M_X4_isDigit := ⟨⟨(sr_mt2 (List.mem_of_getElem? (i := 90) rfl) rfl), (sr_mt1 (List.mem_of_getElem? (i := 4) rfl) rfl), (sr_mt2 (List.mem_of_getElem? (i := 92) rfl) rfl)⟩, (sr_mt2 (List.mem_of_getElem? (i := 91) rfl) rfl)⟩
theorem ca_X4_41 : sr_CV RX4 41 M_X4_readNumber := ⟨⟨(sr_mt2 (List.mem_of_getElem? (i := 93) rfl) rfl), (sr_mt1 (List.mem_of_getElem? (i := 4) rfl) rfl), (sr_mt2 (List.mem_of_getElem? (i := 96) rfl) rfl)⟩, (sr_mt2 (List.mem_of_getElem? (i := 95) rfl) rfl), (sr_mp1 (List.mem_of_getElem? (i := 2) rfl) rfl)⟩
theorem ca_X4_46 : sr_CV RX4 46 M_X4_isWord := ⟨⟨(sr_mt2 (List.mem_of_getElem? (i := 33) rfl) rfl), (sr_mt1 (List.mem_of_getElem? (i := 4) rfl) rfl), (sr_mt2 (List.mem_of_getElem? (i := 36) rfl) rfl)⟩, (sr_mt2 (List.mem_of_getElem? (i := 35) rfl) rfl), (sr_mp1 (List.mem_of_getElem? (i := 1) rfl) rfl)⟩
theorem ca_X4_60 : sr_CV RX4 60 M_J0_length_8abf5 := ⟨⟨(sr_mt2 (List.mem_of_getElem? (i := 37) rfl) rfl), (sr_mt1 (List.mem_of_getElem? (i := 9) rfl) rfl), (sr_mt2 (List.mem_of_getElem? (i := 40) rfl) rfl)⟩, (sr_mt2 (List.mem_of_getElem? (i := 38) rfl) rfl), (sr_mt2 (List.mem_of_getElem? (i := 39) rfl) rfl)⟩
theorem ca_X4_65 : sr_CV RX4 65 M_J0_charAt_5068e := ⟨⟨(sr_mt2 (List.mem_of_getElem? (i := 47) rfl) rfl), (sr_mt1 (List.mem_of_getElem? (i := 9) rfl) rfl), (sr_mt2 (List.mem_of_getElem? (i := 50) rfl) rfl)⟩, (sr_mt2 (List.mem_of_getElem? (i := 48) rfl) rfl), (sr_mt2 (List.mem_of_getElem? (i := 49) rfl) rfl)⟩
theorem ca_X5_38 : sr_CV RX5 38 M_X4_rewind := ⟨⟨(sr_mt2 (List.mem_of_getElem? (i := 17) rfl) rfl), (sr_mt1 (List.mem_of_getElem? (i := 4) rfl) rfl), (sr_mt2 (List.mem_of_getElem? (i := 20) rfl) rfl)⟩, (sr_mt2 (List.mem_of_getElem? (i := 18) rfl) rfl), (sr_mt2 (List.mem_of_getElem? (i := 19) rfl) rfl)⟩
theorem ca_X5_41 : sr_CV RX5 41 M_X4_step := ⟨⟨(sr_mt2 (List.mem_of_getElem? (i := 21) rfl) rfl), (sr_mt1 (List.mem_of_getElem? (i := 4) rfl) rfl), (sr_mt2 (List.mem_of_getElem? (i := 24) rfl) rfl)⟩, (sr_mt2 (List.mem_of_getElem? (i := 22) rfl) rfl), (sr_mt2 (List.mem_of_getElem? (i := 23) rfl) rfl)⟩
theorem ca_X5_47 : sr_CV RX5 47 M_X5_readRowers := ⟨⟨(sr_mt2 (List.mem_of_getElem? (i := 97) rfl) rfl), (sr_mt1 (List.mem_of_getElem? (i := 3) rfl) rfl), (sr_mt2 (List.mem_of_getElem? (i := 100) rfl) rfl)⟩, (sr_mt2 (List.mem_of_getElem? (i := 99) rfl) rfl), (sr_mp1 (List.mem_of_getElem? (i := 3) rfl) rfl)⟩
theorem ca_X5_51 : sr_CV RX5 51 M_X5_readBound := ⟨⟨(sr_mt2 (List.mem_of_getElem? (i := 112) rfl) rfl), (sr_mt1 (List.mem_of_getElem? (i := 3) rfl) rfl), (sr_mt2 (List.mem_of_getElem? (i := 115) rfl) rfl)⟩, (sr_mt2 (List.mem_of_getElem? (i := 114) rfl) rfl), (sr_mp1 (List.mem_of_getElem? (i := 5) rfl) rfl)⟩
theorem ca_X5_54 : sr_CV RX5 54 M_X5_readRace := ⟨⟨(sr_mt2 (List.mem_of_getElem? (i := 119) rfl) rfl), (sr_mt1 (List.mem_of_getElem? (i := 3) rfl) rfl), (sr_mt2 (List.mem_of_getElem? (i := 122) rfl) rfl)⟩, (sr_mt2 (List.mem_of_getElem? (i := 121) rfl) rfl), (sr_mp1 (List.mem_of_getElem? (i := 6) rfl) rfl)⟩
theorem ca_X5_57 : sr_CV RX5 57 M_X5_refuse := ⟨⟨(sr_mt2 (List.mem_of_getElem? (i := 101) rfl) rfl), (sr_mt1 (List.mem_of_getElem? (i := 3) rfl) rfl), (sr_mt2 (List.mem_of_getElem? (i := 104) rfl) rfl)⟩, (sr_mt2 (List.mem_of_getElem? (i := 103) rfl) rfl), (sr_mp1 (List.mem_of_getElem? (i := 4) rfl) rfl)⟩
theorem ca_X5_67 : sr_CS RX5 67 M_X3_isRowerCount := ⟨⟨(sr_mt2 (List.mem_of_getElem? (i := 105) rfl) rfl), (sr_mt1 (List.mem_of_getElem? (i := 2) rfl) rfl), (sr_mt2 (List.mem_of_getElem? (i := 107) rfl) rfl)⟩, (sr_mt2 (List.mem_of_getElem? (i := 106) rfl) rfl)⟩
theorem ca_X5_70 : sr_CV RX5 70 M_X3_begin := ⟨⟨(sr_mt2 (List.mem_of_getElem? (i := 108) rfl) rfl), (sr_mt1 (List.mem_of_getElem? (i := 2) rfl) rfl), (sr_mt2 (List.mem_of_getElem? (i := 111) rfl) rfl)⟩, (sr_mt2 (List.mem_of_getElem? (i := 109) rfl) rfl), (sr_mt2 (List.mem_of_getElem? (i := 110) rfl) rfl)⟩
theorem ca_X5_74 : sr_CS RX5 74 M_X3_isBound := ⟨⟨(sr_mt2 (List.mem_of_getElem? (i := 116) rfl) rfl), (sr_mt1 (List.mem_of_getElem? (i := 2) rfl) rfl), (sr_mt2 (List.mem_of_getElem? (i := 118) rfl) rfl)⟩, (sr_mt2 (List.mem_of_getElem? (i := 117) rfl) rfl)⟩
theorem ca_X5_80 : sr_CV RX5 80 M_X3_isFull := ⟨⟨(sr_mt2 (List.mem_of_getElem? (i := 123) rfl) rfl), (sr_mt1 (List.mem_of_getElem? (i := 2) rfl) rfl), (sr_mt2 (List.mem_of_getElem? (i := 126) rfl) rfl)⟩, (sr_mt2 (List.mem_of_getElem? (i := 124) rfl) rfl), (sr_mt2 (List.mem_of_getElem? (i := 125) rfl) rfl)⟩
theorem ca_X5_83 : sr_CV RX5 83 M_X5_readCrew := ⟨⟨(sr_mt2 (List.mem_of_getElem? (i := 127) rfl) rfl), (sr_mt1 (List.mem_of_getElem? (i := 3) rfl) rfl), (sr_mt2 (List.mem_of_getElem? (i := 130) rfl) rfl)⟩, (sr_mt2 (List.mem_of_getElem? (i := 129) rfl) rfl), (sr_mp1 (List.mem_of_getElem? (i := 7) rfl) rfl)⟩
theorem ca_X5_87 : sr_CS RX5 87 M_J6_bitCount_0f7a4 := ⟨⟨(sr_mt2 (List.mem_of_getElem? (i := 131) rfl) rfl), (sr_mt1 (List.mem_of_getElem? (i := 13) rfl) rfl), (sr_mt2 (List.mem_of_getElem? (i := 133) rfl) rfl)⟩, (sr_mt2 (List.mem_of_getElem? (i := 132) rfl) rfl)⟩
theorem ca_X5_93 : sr_CV RX5 93 M_X5_readMargin := ⟨⟨(sr_mt2 (List.mem_of_getElem? (i := 141) rfl) rfl), (sr_mt1 (List.mem_of_getElem? (i := 3) rfl) rfl), (sr_mt2 (List.mem_of_getElem? (i := 144) rfl) rfl)⟩, (sr_mt2 (List.mem_of_getElem? (i := 143) rfl) rfl), (sr_mp1 (List.mem_of_getElem? (i := 8) rfl) rfl)⟩
theorem ca_X5_96 : sr_CV RX5 96 M_X3_hasRower := ⟨⟨(sr_mt2 (List.mem_of_getElem? (i := 137) rfl) rfl), (sr_mt1 (List.mem_of_getElem? (i := 2) rfl) rfl), (sr_mt2 (List.mem_of_getElem? (i := 140) rfl) rfl)⟩, (sr_mt2 (List.mem_of_getElem? (i := 138) rfl) rfl), (sr_mt2 (List.mem_of_getElem? (i := 139) rfl) rfl)⟩
theorem ca_X5_99 : sr_CV RX5 99 M_X3_append := ⟨⟨(sr_mt2 (List.mem_of_getElem? (i := 145) rfl) rfl), (sr_mt1 (List.mem_of_getElem? (i := 2) rfl) rfl), (sr_mt2 (List.mem_of_getElem? (i := 148) rfl) rfl)⟩, (sr_mt2 (List.mem_of_getElem? (i := 146) rfl) rfl), (sr_mt2 (List.mem_of_getElem? (i := 147) rfl) rfl)⟩
theorem ca_X6_76 : sr_CV RX6 76 M_X4_append := ⟨⟨(sr_mt1 (List.mem_of_getElem? (i := 237) rfl) rfl), (sr_mt1 (List.mem_of_getElem? (i := 4) rfl) rfl), (sr_mt2 (List.mem_of_getElem? (i := 0) rfl) rfl)⟩, (sr_mt1 (List.mem_of_getElem? (i := 238) rfl) rfl), (sr_mt1 (List.mem_of_getElem? (i := 239) rfl) rfl)⟩
theorem ca_X6_83 : sr_CV RX6 83 M_X3_copyFrom := ⟨⟨(sr_mt2 (List.mem_of_getElem? (i := 9) rfl) rfl), (sr_mt1 (List.mem_of_getElem? (i := 2) rfl) rfl), (sr_mt2 (List.mem_of_getElem? (i := 12) rfl) rfl)⟩, (sr_mt2 (List.mem_of_getElem? (i := 10) rfl) rfl), (sr_mt2 (List.mem_of_getElem? (i := 11) rfl) rfl)⟩
theorem ca_X6_87 : sr_CV RX6 87 M_X5_readAll := ⟨⟨(sr_mt2 (List.mem_of_getElem? (i := 13) rfl) rfl), (sr_mt1 (List.mem_of_getElem? (i := 3) rfl) rfl), (sr_mt2 (List.mem_of_getElem? (i := 16) rfl) rfl)⟩, (sr_mt2 (List.mem_of_getElem? (i := 14) rfl) rfl), (sr_mt2 (List.mem_of_getElem? (i := 15) rfl) rfl)⟩
theorem ca_X6_97 : sr_CV RX6 97 M_X6_judge := ⟨⟨(sr_mt2 (List.mem_of_getElem? (i := 150) rfl) rfl), (sr_mt1 (List.mem_of_getElem? (i := 1) rfl) rfl), (sr_mt2 (List.mem_of_getElem? (i := 153) rfl) rfl)⟩, (sr_mt2 (List.mem_of_getElem? (i := 152) rfl) rfl), (sr_mp1 (List.mem_of_getElem? (i := 9) rfl) rfl)⟩
theorem ca_X6_100 : sr_CS RX6 100 M_X3_isRowerCount := ⟨⟨(sr_mt2 (List.mem_of_getElem? (i := 182) rfl) rfl), (sr_mt1 (List.mem_of_getElem? (i := 2) rfl) rfl), (sr_mt2 (List.mem_of_getElem? (i := 107) rfl) rfl)⟩, (sr_mt2 (List.mem_of_getElem? (i := 106) rfl) rfl)⟩
theorem ca_X6_104 : sr_CV RX6 104 M_X3_begin := ⟨⟨(sr_mt2 (List.mem_of_getElem? (i := 183) rfl) rfl), (sr_mt1 (List.mem_of_getElem? (i := 2) rfl) rfl), (sr_mt2 (List.mem_of_getElem? (i := 111) rfl) rfl)⟩, (sr_mt2 (List.mem_of_getElem? (i := 109) rfl) rfl), (sr_mt2 (List.mem_of_getElem? (i := 110) rfl) rfl)⟩
theorem ca_X6_107 : sr_CS RX6 107 M_X3_isBound := ⟨⟨(sr_mt2 (List.mem_of_getElem? (i := 188) rfl) rfl), (sr_mt1 (List.mem_of_getElem? (i := 2) rfl) rfl), (sr_mt2 (List.mem_of_getElem? (i := 118) rfl) rfl)⟩, (sr_mt2 (List.mem_of_getElem? (i := 117) rfl) rfl)⟩
theorem ca_X6_113 : sr_CV RX6 113 M_X3_canRow := ⟨⟨(sr_mt2 (List.mem_of_getElem? (i := 193) rfl) rfl), (sr_mt1 (List.mem_of_getElem? (i := 2) rfl) rfl), (sr_mt2 (List.mem_of_getElem? (i := 196) rfl) rfl)⟩, (sr_mt2 (List.mem_of_getElem? (i := 194) rfl) rfl), (sr_mt2 (List.mem_of_getElem? (i := 195) rfl) rfl)⟩
theorem ca_X6_117 : sr_CV RX6 117 M_X3_isFull := ⟨⟨(sr_mt2 (List.mem_of_getElem? (i := 198) rfl) rfl), (sr_mt1 (List.mem_of_getElem? (i := 2) rfl) rfl), (sr_mt2 (List.mem_of_getElem? (i := 126) rfl) rfl)⟩, (sr_mt2 (List.mem_of_getElem? (i := 124) rfl) rfl), (sr_mt2 (List.mem_of_getElem? (i := 125) rfl) rfl)⟩
theorem ca_X6_120 : sr_CV RX6 120 M_X3_append := ⟨⟨(sr_mt2 (List.mem_of_getElem? (i := 199) rfl) rfl), (sr_mt1 (List.mem_of_getElem? (i := 2) rfl) rfl), (sr_mt2 (List.mem_of_getElem? (i := 148) rfl) rfl)⟩, (sr_mt2 (List.mem_of_getElem? (i := 146) rfl) rfl), (sr_mt2 (List.mem_of_getElem? (i := 147) rfl) rfl)⟩
theorem ca_X6_126 : sr_CV RX6 126 M_X3_hasRace := ⟨⟨(sr_mt2 (List.mem_of_getElem? (i := 204) rfl) rfl), (sr_mt1 (List.mem_of_getElem? (i := 2) rfl) rfl), (sr_mt2 (List.mem_of_getElem? (i := 207) rfl) rfl)⟩, (sr_mt2 (List.mem_of_getElem? (i := 205) rfl) rfl), (sr_mt2 (List.mem_of_getElem? (i := 206) rfl) rfl)⟩
theorem ca_X6_129 : sr_CV RX6 129 M_X3_remove := ⟨⟨(sr_mt2 (List.mem_of_getElem? (i := 208) rfl) rfl), (sr_mt1 (List.mem_of_getElem? (i := 2) rfl) rfl), (sr_mt2 (List.mem_of_getElem? (i := 211) rfl) rfl)⟩, (sr_mt2 (List.mem_of_getElem? (i := 209) rfl) rfl), (sr_mt2 (List.mem_of_getElem? (i := 210) rfl) rfl)⟩
theorem ca_X6_135 : sr_CV RX6 135 M_X1_couplesKnown := ⟨⟨(sr_mt2 (List.mem_of_getElem? (i := 217) rfl) rfl), (sr_mt1 (List.mem_of_getElem? (i := 5) rfl) rfl), (sr_mt2 (List.mem_of_getElem? (i := 220) rfl) rfl)⟩, (sr_mt2 (List.mem_of_getElem? (i := 218) rfl) rfl), (sr_mt2 (List.mem_of_getElem? (i := 219) rfl) rfl)⟩
theorem ca_X6_139 : sr_CV RX6 139 M_X6_countGroups := ⟨⟨(sr_mt2 (List.mem_of_getElem? (i := 230) rfl) rfl), (sr_mt1 (List.mem_of_getElem? (i := 1) rfl) rfl), (sr_mt2 (List.mem_of_getElem? (i := 233) rfl) rfl)⟩, (sr_mt2 (List.mem_of_getElem? (i := 232) rfl) rfl), (sr_mp1 (List.mem_of_getElem? (i := 12) rfl) rfl)⟩
theorem ca_X6_167 : sr_CV RX6 167 M_X3_hasRower := ⟨⟨(sr_mt3 (List.mem_of_getElem? (i := 3) rfl) rfl), (sr_mt1 (List.mem_of_getElem? (i := 2) rfl) rfl), (sr_mt2 (List.mem_of_getElem? (i := 140) rfl) rfl)⟩, (sr_mt2 (List.mem_of_getElem? (i := 138) rfl) rfl), (sr_mt2 (List.mem_of_getElem? (i := 139) rfl) rfl)⟩
theorem ca_X6_172 : sr_CV RX6 172 M_X6_tellForm := ⟨⟨(sr_mt3 (List.mem_of_getElem? (i := 5) rfl) rfl), (sr_mt1 (List.mem_of_getElem? (i := 1) rfl) rfl), (sr_mt3 (List.mem_of_getElem? (i := 8) rfl) rfl)⟩, (sr_mt3 (List.mem_of_getElem? (i := 7) rfl) rfl), (sr_mp1 (List.mem_of_getElem? (i := 14) rfl) rfl)⟩
theorem ca_X6_176 : sr_CV RX6 176 M_X6_scaledRest := ⟨⟨(sr_mt3 (List.mem_of_getElem? (i := 43) rfl) rfl), (sr_mt1 (List.mem_of_getElem? (i := 1) rfl) rfl), (sr_mt3 (List.mem_of_getElem? (i := 46) rfl) rfl)⟩, (sr_mt3 (List.mem_of_getElem? (i := 45) rfl) rfl), (sr_mp2 (List.mem_of_getElem? (i := 0) rfl) rfl)⟩
theorem ca_X6_184 : sr_CV RX6 184 M_X6_tellFraction := ⟨⟨(sr_mt3 (List.mem_of_getElem? (i := 17) rfl) rfl), (sr_mt1 (List.mem_of_getElem? (i := 1) rfl) rfl), (sr_mt3 (List.mem_of_getElem? (i := 20) rfl) rfl)⟩, (sr_mt3 (List.mem_of_getElem? (i := 19) rfl) rfl), (sr_mp1 (List.mem_of_getElem? (i := 15) rfl) rfl)⟩
theorem ca_X6_188 : sr_CV RX6 188 M_X1_scaledSum := ⟨⟨(sr_mt3 (List.mem_of_getElem? (i := 51) rfl) rfl), (sr_mt1 (List.mem_of_getElem? (i := 5) rfl) rfl), (sr_mt3 (List.mem_of_getElem? (i := 54) rfl) rfl)⟩, (sr_mt3 (List.mem_of_getElem? (i := 52) rfl) rfl), (sr_mt3 (List.mem_of_getElem? (i := 53) rfl) rfl)⟩
theorem ca_X6_192 : sr_CV RX6 192 M_X6_thoseAheadOf := ⟨⟨(sr_mt3 (List.mem_of_getElem? (i := 63) rfl) rfl), (sr_mt1 (List.mem_of_getElem? (i := 1) rfl) rfl), (sr_mt3 (List.mem_of_getElem? (i := 66) rfl) rfl)⟩, (sr_mt3 (List.mem_of_getElem? (i := 65) rfl) rfl), (sr_mp2 (List.mem_of_getElem? (i := 1) rfl) rfl)⟩
theorem ca_X6_196 : sr_CS RX6 196 M_J6_bitCount_0f7a4 := ⟨⟨(sr_mt3 (List.mem_of_getElem? (i := 71) rfl) rfl), (sr_mt1 (List.mem_of_getElem? (i := 13) rfl) rfl), (sr_mt2 (List.mem_of_getElem? (i := 133) rfl) rfl)⟩, (sr_mt2 (List.mem_of_getElem? (i := 132) rfl) rfl)⟩
theorem ca_X6_201 : sr_CV RX6 201 M_X6_countSurelyBehind := ⟨⟨(sr_mt3 (List.mem_of_getElem? (i := 72) rfl) rfl), (sr_mt1 (List.mem_of_getElem? (i := 1) rfl) rfl), (sr_mt3 (List.mem_of_getElem? (i := 75) rfl) rfl)⟩, (sr_mt3 (List.mem_of_getElem? (i := 74) rfl) rfl), (sr_mp2 (List.mem_of_getElem? (i := 3) rfl) rfl)⟩
theorem ca_X6_204 : sr_CV RX6 204 M_X6_groupOf := ⟨⟨(sr_mt2 (List.mem_of_getElem? (i := 234) rfl) rfl), (sr_mt1 (List.mem_of_getElem? (i := 1) rfl) rfl), (sr_mt2 (List.mem_of_getElem? (i := 237) rfl) rfl)⟩, (sr_mt2 (List.mem_of_getElem? (i := 236) rfl) rfl), (sr_mp1 (List.mem_of_getElem? (i := 13) rfl) rfl)⟩
theorem ca_X6_207 : sr_CV RX6 207 M_X6_areTwo := ⟨⟨(sr_mt3 (List.mem_of_getElem? (i := 80) rfl) rfl), (sr_mt1 (List.mem_of_getElem? (i := 1) rfl) rfl), (sr_mt3 (List.mem_of_getElem? (i := 83) rfl) rfl)⟩, (sr_mt3 (List.mem_of_getElem? (i := 82) rfl) rfl), (sr_mp2 (List.mem_of_getElem? (i := 4) rfl) rfl)⟩
theorem ca_X6_211 : sr_CV RX6 211 M_X3_isSwap := ⟨⟨(sr_mt3 (List.mem_of_getElem? (i := 88) rfl) rfl), (sr_mt1 (List.mem_of_getElem? (i := 2) rfl) rfl), (sr_mt3 (List.mem_of_getElem? (i := 91) rfl) rfl)⟩, (sr_mt3 (List.mem_of_getElem? (i := 89) rfl) rfl), (sr_mt3 (List.mem_of_getElem? (i := 90) rfl) rfl)⟩
theorem ca_X6_217 : sr_CV RX6 217 M_X6_chooseNext := ⟨⟨(sr_mt3 (List.mem_of_getElem? (i := 97) rfl) rfl), (sr_mt1 (List.mem_of_getElem? (i := 1) rfl) rfl), (sr_mt3 (List.mem_of_getElem? (i := 100) rfl) rfl)⟩, (sr_mt3 (List.mem_of_getElem? (i := 99) rfl) rfl), (sr_mp2 (List.mem_of_getElem? (i := 5) rfl) rfl)⟩
theorem ca_X6_240 : sr_CV RX6 240 M_X1_copyForms := ⟨⟨(sr_mt3 (List.mem_of_getElem? (i := 109) rfl) rfl), (sr_mt1 (List.mem_of_getElem? (i := 5) rfl) rfl), (sr_mt3 (List.mem_of_getElem? (i := 112) rfl) rfl)⟩, (sr_mt3 (List.mem_of_getElem? (i := 110) rfl) rfl), (sr_mt3 (List.mem_of_getElem? (i := 111) rfl) rfl)⟩
theorem ca_X6_244 : sr_CV RX6 244 M_X1_solve := ⟨⟨(sr_mt2 (List.mem_of_getElem? (i := 166) rfl) rfl), (sr_mt1 (List.mem_of_getElem? (i := 5) rfl) rfl), (sr_mt2 (List.mem_of_getElem? (i := 169) rfl) rfl)⟩, (sr_mt2 (List.mem_of_getElem? (i := 167) rfl) rfl), (sr_mt2 (List.mem_of_getElem? (i := 168) rfl) rfl)⟩
theorem ca_X6_247 : sr_CV RX6 247 M_X6_listMatches := ⟨⟨(sr_mt3 (List.mem_of_getElem? (i := 101) rfl) rfl), (sr_mt1 (List.mem_of_getElem? (i := 1) rfl) rfl), (sr_mt3 (List.mem_of_getElem? (i := 104) rfl) rfl)⟩, (sr_mt3 (List.mem_of_getElem? (i := 103) rfl) rfl), (sr_mp2 (List.mem_of_getElem? (i := 6) rfl) rfl)⟩
theorem ca_X6_250 : sr_CV RX6 250 M_X1_load := ⟨⟨(sr_mt2 (List.mem_of_getElem? (i := 158) rfl) rfl), (sr_mt1 (List.mem_of_getElem? (i := 5) rfl) rfl), (sr_mt2 (List.mem_of_getElem? (i := 161) rfl) rfl)⟩, (sr_mt2 (List.mem_of_getElem? (i := 159) rfl) rfl), (sr_mt2 (List.mem_of_getElem? (i := 160) rfl) rfl)⟩
theorem ca_X6_253 : sr_CV RX6 253 M_X1_isKnown := ⟨⟨(sr_mt2 (List.mem_of_getElem? (i := 238) rfl) rfl), (sr_mt1 (List.mem_of_getElem? (i := 5) rfl) rfl), (sr_mt2 (List.mem_of_getElem? (i := 225) rfl) rfl)⟩, (sr_mt2 (List.mem_of_getElem? (i := 223) rfl) rfl), (sr_mt2 (List.mem_of_getElem? (i := 224) rfl) rfl)⟩
theorem ca_X6_256 : sr_CV RX6 256 M_X1_include := ⟨⟨(sr_mt2 (List.mem_of_getElem? (i := 162) rfl) rfl), (sr_mt1 (List.mem_of_getElem? (i := 5) rfl) rfl), (sr_mt2 (List.mem_of_getElem? (i := 165) rfl) rfl)⟩, (sr_mt2 (List.mem_of_getElem? (i := 163) rfl) rfl), (sr_mt2 (List.mem_of_getElem? (i := 164) rfl) rfl)⟩
theorem ca_X6_259 : sr_CV RX6 259 M_X1_copyMargins := ⟨⟨(sr_mt3 (List.mem_of_getElem? (i := 136) rfl) rfl), (sr_mt1 (List.mem_of_getElem? (i := 5) rfl) rfl), (sr_mt3 (List.mem_of_getElem? (i := 139) rfl) rfl)⟩, (sr_mt3 (List.mem_of_getElem? (i := 137) rfl) rfl), (sr_mt3 (List.mem_of_getElem? (i := 138) rfl) rfl)⟩
theorem ca_X6_262 : sr_CV RX6 262 M_X2_set := ⟨⟨(sr_mt3 (List.mem_of_getElem? (i := 21) rfl) rfl), (sr_mt1 (List.mem_of_getElem? (i := 6) rfl) rfl), (sr_mt3 (List.mem_of_getElem? (i := 24) rfl) rfl)⟩, (sr_mt3 (List.mem_of_getElem? (i := 22) rfl) rfl), (sr_mt3 (List.mem_of_getElem? (i := 23) rfl) rfl)⟩
theorem ca_X6_266 : sr_CV RX6 266 M_X2_isBelow := ⟨⟨(sr_mt3 (List.mem_of_getElem? (i := 119) rfl) rfl), (sr_mt1 (List.mem_of_getElem? (i := 6) rfl) rfl), (sr_mt3 (List.mem_of_getElem? (i := 122) rfl) rfl)⟩, (sr_mt3 (List.mem_of_getElem? (i := 120) rfl) rfl), (sr_mt3 (List.mem_of_getElem? (i := 121) rfl) rfl)⟩
theorem ca_X6_270 : sr_CV RX6 270 M_X2_copyFrom := ⟨⟨(sr_mt3 (List.mem_of_getElem? (i := 123) rfl) rfl), (sr_mt1 (List.mem_of_getElem? (i := 6) rfl) rfl), (sr_mt3 (List.mem_of_getElem? (i := 126) rfl) rfl)⟩, (sr_mt3 (List.mem_of_getElem? (i := 124) rfl) rfl), (sr_mt3 (List.mem_of_getElem? (i := 125) rfl) rfl)⟩
theorem ca_X6_273 : sr_CV RX6 273 M_X6_chooseEven := ⟨⟨(sr_mt3 (List.mem_of_getElem? (i := 144) rfl) rfl), (sr_mt1 (List.mem_of_getElem? (i := 1) rfl) rfl), (sr_mt3 (List.mem_of_getElem? (i := 147) rfl) rfl)⟩, (sr_mt3 (List.mem_of_getElem? (i := 146) rfl) rfl), (sr_mp2 (List.mem_of_getElem? (i := 8) rfl) rfl)⟩
theorem ca_X6_276 : sr_CV RX6 276 M_X1_clear := ⟨⟨(sr_mt2 (List.mem_of_getElem? (i := 154) rfl) rfl), (sr_mt1 (List.mem_of_getElem? (i := 5) rfl) rfl), (sr_mt2 (List.mem_of_getElem? (i := 157) rfl) rfl)⟩, (sr_mt2 (List.mem_of_getElem? (i := 155) rfl) rfl), (sr_mt2 (List.mem_of_getElem? (i := 156) rfl) rfl)⟩
theorem ca_X6_279 : sr_CV RX6 279 M_X1_scaledDoubt := ⟨⟨(sr_mt3 (List.mem_of_getElem? (i := 9) rfl) rfl), (sr_mt1 (List.mem_of_getElem? (i := 5) rfl) rfl), (sr_mt3 (List.mem_of_getElem? (i := 12) rfl) rfl)⟩, (sr_mt3 (List.mem_of_getElem? (i := 10) rfl) rfl), (sr_mt3 (List.mem_of_getElem? (i := 11) rfl) rfl)⟩
theorem ca_X6_282 : sr_CV RX6 282 M_X1_scaledValue := ⟨⟨(sr_mt3 (List.mem_of_getElem? (i := 13) rfl) rfl), (sr_mt1 (List.mem_of_getElem? (i := 5) rfl) rfl), (sr_mt3 (List.mem_of_getElem? (i := 16) rfl) rfl)⟩, (sr_mt3 (List.mem_of_getElem? (i := 14) rfl) rfl), (sr_mt3 (List.mem_of_getElem? (i := 15) rfl) rfl)⟩
theorem ca_X6_285 : sr_CV RX6 285 M_X6_isAhead := ⟨⟨(sr_mt3 (List.mem_of_getElem? (i := 67) rfl) rfl), (sr_mt1 (List.mem_of_getElem? (i := 1) rfl) rfl), (sr_mt3 (List.mem_of_getElem? (i := 70) rfl) rfl)⟩, (sr_mt3 (List.mem_of_getElem? (i := 69) rfl) rfl), (sr_mp2 (List.mem_of_getElem? (i := 2) rfl) rfl)⟩
theorem ca_X6_288 : sr_CV RX6 288 M_X6_isMatch := ⟨⟨(sr_mt3 (List.mem_of_getElem? (i := 105) rfl) rfl), (sr_mt1 (List.mem_of_getElem? (i := 1) rfl) rfl), (sr_mt3 (List.mem_of_getElem? (i := 108) rfl) rfl)⟩, (sr_mt3 (List.mem_of_getElem? (i := 107) rfl) rfl), (sr_mp2 (List.mem_of_getElem? (i := 7) rfl) rfl)⟩
theorem ca_X6_291 : sr_CV RX6 291 M_X1_scaledDoubts := ⟨⟨(sr_mt3 (List.mem_of_getElem? (i := 114) rfl) rfl), (sr_mt1 (List.mem_of_getElem? (i := 5) rfl) rfl), (sr_mt3 (List.mem_of_getElem? (i := 117) rfl) rfl)⟩, (sr_mt3 (List.mem_of_getElem? (i := 115) rfl) rfl), (sr_mt3 (List.mem_of_getElem? (i := 116) rfl) rfl)⟩
theorem ca_X6_294 : sr_CS RX6 294 M_J9_abs_067f4 := ⟨⟨(sr_mt3 (List.mem_of_getElem? (i := 148) rfl) rfl), (sr_mt1 (List.mem_of_getElem? (i := 18) rfl) rfl), (sr_mt3 (List.mem_of_getElem? (i := 27) rfl) rfl)⟩, (sr_mt3 (List.mem_of_getElem? (i := 26) rfl) rfl)⟩
theorem ca_X7_46 : sr_CV RX7 46 M_X7_n := ⟨⟨(sr_mt4 (List.mem_of_getElem? (i := 91) rfl) rfl), (sr_mt1 (List.mem_of_getElem? (i := 8) rfl) rfl), (sr_mt4 (List.mem_of_getElem? (i := 94) rfl) rfl)⟩, (sr_mt4 (List.mem_of_getElem? (i := 93) rfl) rfl), (sr_mp2 (List.mem_of_getElem? (i := 11) rfl) rfl)⟩
theorem ca_X7_50 : sr_CS RX7 50 M_X7_isIn := ⟨⟨(sr_mt4 (List.mem_of_getElem? (i := 76) rfl) rfl), (sr_mt1 (List.mem_of_getElem? (i := 8) rfl) rfl), (sr_mt4 (List.mem_of_getElem? (i := 78) rfl) rfl)⟩, (sr_mt4 (List.mem_of_getElem? (i := 77) rfl) rfl)⟩
theorem ca_X7_54 : sr_CS RX7 54 M_X7_bits := ⟨⟨(sr_mt4 (List.mem_of_getElem? (i := 95) rfl) rfl), (sr_mt1 (List.mem_of_getElem? (i := 8) rfl) rfl), (sr_mt4 (List.mem_of_getElem? (i := 97) rfl) rfl)⟩, (sr_mt4 (List.mem_of_getElem? (i := 96) rfl) rfl)⟩
theorem ca_X7_58 : sr_CV RX7 58 M_X7_races := ⟨⟨(sr_mt4 (List.mem_of_getElem? (i := 98) rfl) rfl), (sr_mt1 (List.mem_of_getElem? (i := 8) rfl) rfl), (sr_mt4 (List.mem_of_getElem? (i := 101) rfl) rfl)⟩, (sr_mt4 (List.mem_of_getElem? (i := 100) rfl) rfl), (sr_mp2 (List.mem_of_getElem? (i := 12) rfl) rfl)⟩
theorem ca_X7_61 : sr_CV RX7 61 M_X7_areCrews := ⟨⟨(sr_mt4 (List.mem_of_getElem? (i := 87) rfl) rfl), (sr_mt1 (List.mem_of_getElem? (i := 8) rfl) rfl), (sr_mt4 (List.mem_of_getElem? (i := 90) rfl) rfl)⟩, (sr_mt4 (List.mem_of_getElem? (i := 89) rfl) rfl), (sr_mp2 (List.mem_of_getElem? (i := 10) rfl) rfl)⟩
theorem ca_X7_65 : sr_CV RX7 65 M_X7_more := ⟨⟨(sr_mt4 (List.mem_of_getElem? (i := 102) rfl) rfl), (sr_mt1 (List.mem_of_getElem? (i := 8) rfl) rfl), (sr_mt4 (List.mem_of_getElem? (i := 105) rfl) rfl)⟩, (sr_mt4 (List.mem_of_getElem? (i := 104) rfl) rfl), (sr_mp2 (List.mem_of_getElem? (i := 13) rfl) rfl)⟩
theorem ca_X7_69 : sr_CV RX7 69 M_X7_goes := ⟨⟨(sr_mt4 (List.mem_of_getElem? (i := 110) rfl) rfl), (sr_mt1 (List.mem_of_getElem? (i := 8) rfl) rfl), (sr_mt4 (List.mem_of_getElem? (i := 113) rfl) rfl)⟩, (sr_mt4 (List.mem_of_getElem? (i := 112) rfl) rfl), (sr_mp2 (List.mem_of_getElem? (i := 14) rfl) rfl)⟩
theorem ca_X7_73 : sr_CV RX7 73 M_X7_of := ⟨⟨(sr_mt4 (List.mem_of_getElem? (i := 118) rfl) rfl), (sr_mt1 (List.mem_of_getElem? (i := 8) rfl) rfl), (sr_mt4 (List.mem_of_getElem? (i := 121) rfl) rfl)⟩, (sr_mt4 (List.mem_of_getElem? (i := 120) rfl) rfl), (sr_mp2 (List.mem_of_getElem? (i := 15) rfl) rfl)⟩
theorem ca_X7_80 : sr_CV RX7 80 M_X7_put := ⟨⟨(sr_mt4 (List.mem_of_getElem? (i := 126) rfl) rfl), (sr_mt1 (List.mem_of_getElem? (i := 8) rfl) rfl), (sr_mt4 (List.mem_of_getElem? (i := 129) rfl) rfl)⟩, (sr_mt4 (List.mem_of_getElem? (i := 128) rfl) rfl), (sr_mp3 (List.mem_of_getElem? (i := 0) rfl) rfl)⟩
theorem ca_X7_92 : sr_CV RX7 92 M_X7_here := ⟨⟨(sr_mt4 (List.mem_of_getElem? (i := 138) rfl) rfl), (sr_mt1 (List.mem_of_getElem? (i := 8) rfl) rfl), (sr_mt4 (List.mem_of_getElem? (i := 141) rfl) rfl)⟩, (sr_mt4 (List.mem_of_getElem? (i := 140) rfl) rfl), (sr_mp3 (List.mem_of_getElem? (i := 1) rfl) rfl)⟩
theorem ca_X7_95 : sr_CV RX7 95 M_X7_isDigitAt := ⟨⟨(sr_mt4 (List.mem_of_getElem? (i := 165) rfl) rfl), (sr_mt1 (List.mem_of_getElem? (i := 8) rfl) rfl), (sr_mt4 (List.mem_of_getElem? (i := 168) rfl) rfl)⟩, (sr_mt4 (List.mem_of_getElem? (i := 167) rfl) rfl), (sr_mp3 (List.mem_of_getElem? (i := 7) rfl) rfl)⟩
theorem ca_X7_99 : sr_CV RX7 99 M_X7_isNumber := ⟨⟨(sr_mt4 (List.mem_of_getElem? (i := 161) rfl) rfl), (sr_mt1 (List.mem_of_getElem? (i := 8) rfl) rfl), (sr_mt4 (List.mem_of_getElem? (i := 164) rfl) rfl)⟩, (sr_mt4 (List.mem_of_getElem? (i := 163) rfl) rfl), (sr_mp3 (List.mem_of_getElem? (i := 6) rfl) rfl)⟩
theorem ca_X7_106 : sr_CV RX7 106 M_X7_fails := ⟨⟨(sr_mt4 (List.mem_of_getElem? (i := 169) rfl) rfl), (sr_mt1 (List.mem_of_getElem? (i := 8) rfl) rfl), (sr_mt4 (List.mem_of_getElem? (i := 172) rfl) rfl)⟩, (sr_mt4 (List.mem_of_getElem? (i := 171) rfl) rfl), (sr_mp3 (List.mem_of_getElem? (i := 8) rfl) rfl)⟩
theorem ca_X7_110 : sr_CV RX7 110 M_X7_number := ⟨⟨(sr_mt4 (List.mem_of_getElem? (i := 157) rfl) rfl), (sr_mt1 (List.mem_of_getElem? (i := 8) rfl) rfl), (sr_mt4 (List.mem_of_getElem? (i := 160) rfl) rfl)⟩, (sr_mt4 (List.mem_of_getElem? (i := 159) rfl) rfl), (sr_mp3 (List.mem_of_getElem? (i := 5) rfl) rfl)⟩
theorem ca_X7_113 : sr_CV RX7 113 M_X7_isRower := ⟨⟨(sr_mt4 (List.mem_of_getElem? (i := 185) rfl) rfl), (sr_mt1 (List.mem_of_getElem? (i := 8) rfl) rfl), (sr_mt4 (List.mem_of_getElem? (i := 188) rfl) rfl)⟩, (sr_mt4 (List.mem_of_getElem? (i := 187) rfl) rfl), (sr_mp3 (List.mem_of_getElem? (i := 12) rfl) rfl)⟩
theorem ca_X7_116 : sr_CS RX7 116 M_X7_has := ⟨⟨(sr_mt4 (List.mem_of_getElem? (i := 189) rfl) rfl), (sr_mt1 (List.mem_of_getElem? (i := 8) rfl) rfl), (sr_mt4 (List.mem_of_getElem? (i := 191) rfl) rfl)⟩, (sr_mt4 (List.mem_of_getElem? (i := 190) rfl) rfl)⟩
theorem ca_X7_119 : sr_CV RX7 119 M_X7_rower := ⟨⟨(sr_mt4 (List.mem_of_getElem? (i := 181) rfl) rfl), (sr_mt1 (List.mem_of_getElem? (i := 8) rfl) rfl), (sr_mt4 (List.mem_of_getElem? (i := 184) rfl) rfl)⟩, (sr_mt4 (List.mem_of_getElem? (i := 183) rfl) rfl), (sr_mp3 (List.mem_of_getElem? (i := 11) rfl) rfl)⟩
theorem ca_X7_123 : sr_CV RX7 123 M_X7_crewTold := ⟨⟨(sr_mt4 (List.mem_of_getElem? (i := 177) rfl) rfl), (sr_mt1 (List.mem_of_getElem? (i := 8) rfl) rfl), (sr_mt4 (List.mem_of_getElem? (i := 180) rfl) rfl)⟩, (sr_mt4 (List.mem_of_getElem? (i := 179) rfl) rfl), (sr_mp3 (List.mem_of_getElem? (i := 10) rfl) rfl)⟩
theorem ca_X7_127 : sr_CV RX7 127 M_X7_word := ⟨⟨(sr_mt4 (List.mem_of_getElem? (i := 146) rfl) rfl), (sr_mt1 (List.mem_of_getElem? (i := 8) rfl) rfl), (sr_mt4 (List.mem_of_getElem? (i := 149) rfl) rfl)⟩, (sr_mt4 (List.mem_of_getElem? (i := 148) rfl) rfl), (sr_mp3 (List.mem_of_getElem? (i := 3) rfl) rfl)⟩
theorem ca_X7_130 : sr_CS RX7 130 M_X7_letters := ⟨⟨(sr_mt4 (List.mem_of_getElem? (i := 150) rfl) rfl), (sr_mt1 (List.mem_of_getElem? (i := 8) rfl) rfl), (sr_mt4 (List.mem_of_getElem? (i := 152) rfl) rfl)⟩, (sr_mt4 (List.mem_of_getElem? (i := 151) rfl) rfl)⟩
theorem ca_X7_134 : sr_CV RX7 134 M_X7_numberIn := ⟨⟨(sr_mt4 (List.mem_of_getElem? (i := 153) rfl) rfl), (sr_mt1 (List.mem_of_getElem? (i := 8) rfl) rfl), (sr_mt4 (List.mem_of_getElem? (i := 156) rfl) rfl)⟩, (sr_mt4 (List.mem_of_getElem? (i := 155) rfl) rfl), (sr_mp3 (List.mem_of_getElem? (i := 4) rfl) rfl)⟩
theorem ca_X7_137 : sr_CV RX7 137 M_X7_raceTold := ⟨⟨(sr_mt4 (List.mem_of_getElem? (i := 173) rfl) rfl), (sr_mt1 (List.mem_of_getElem? (i := 8) rfl) rfl), (sr_mt4 (List.mem_of_getElem? (i := 176) rfl) rfl)⟩, (sr_mt4 (List.mem_of_getElem? (i := 175) rfl) rfl), (sr_mp3 (List.mem_of_getElem? (i := 9) rfl) rfl)⟩
theorem ca_X7_140 : sr_CV RX7 140 M_X7_told := ⟨⟨(sr_mt4 (List.mem_of_getElem? (i := 142) rfl) rfl), (sr_mt1 (List.mem_of_getElem? (i := 8) rfl) rfl), (sr_mt4 (List.mem_of_getElem? (i := 145) rfl) rfl)⟩, (sr_mt4 (List.mem_of_getElem? (i := 144) rfl) rfl), (sr_mp3 (List.mem_of_getElem? (i := 2) rfl) rfl)⟩
theorem ca_X7_143 : sr_CV RX7 143 M_X7_clearsForm := ⟨⟨(sr_mt4 (List.mem_of_getElem? (i := 209) rfl) rfl), (sr_mt1 (List.mem_of_getElem? (i := 8) rfl) rfl), (sr_mt4 (List.mem_of_getElem? (i := 212) rfl) rfl)⟩, (sr_mt4 (List.mem_of_getElem? (i := 211) rfl) rfl), (sr_mp3 (List.mem_of_getElem? (i := 15) rfl) rfl)⟩
theorem ca_X7_149 : sr_CV RX7 149 M_X7_formOf := ⟨⟨(sr_mt4 (List.mem_of_getElem? (i := 205) rfl) rfl), (sr_mt1 (List.mem_of_getElem? (i := 8) rfl) rfl), (sr_mt4 (List.mem_of_getElem? (i := 208) rfl) rfl)⟩, (sr_mt4 (List.mem_of_getElem? (i := 207) rfl) rfl), (sr_mp3 (List.mem_of_getElem? (i := 14) rfl) rfl)⟩
theorem ca_X7_153 : sr_CV RX7 153 M_X7_comes := ⟨⟨(sr_mt4 (List.mem_of_getElem? (i := 213) rfl) rfl), (sr_mt1 (List.mem_of_getElem? (i := 8) rfl) rfl), (sr_mt4 (List.mem_of_getElem? (i := 216) rfl) rfl)⟩, (sr_mt4 (List.mem_of_getElem? (i := 215) rfl) rfl), (sr_mp4 (List.mem_of_getElem? (i := 0) rfl) rfl)⟩
theorem ca_X7_163 : sr_CV RX7 163 M_X7_rowAt := ⟨⟨(sr_mt4 (List.mem_of_getElem? (i := 229) rfl) rfl), (sr_mt1 (List.mem_of_getElem? (i := 8) rfl) rfl), (sr_mt4 (List.mem_of_getElem? (i := 232) rfl) rfl)⟩, (sr_mt4 (List.mem_of_getElem? (i := 231) rfl) rfl), (sr_mp4 (List.mem_of_getElem? (i := 4) rfl) rfl)⟩
theorem ca_X7_167 : sr_CV RX7 167 M_X7_swaps := ⟨⟨(sr_mt4 (List.mem_of_getElem? (i := 233) rfl) rfl), (sr_mt1 (List.mem_of_getElem? (i := 8) rfl) rfl), (sr_mt4 (List.mem_of_getElem? (i := 236) rfl) rfl)⟩, (sr_mt4 (List.mem_of_getElem? (i := 235) rfl) rfl), (sr_mp4 (List.mem_of_getElem? (i := 5) rfl) rfl)⟩
theorem ca_X7_170 : sr_CV RX7 170 M_X7_solves := ⟨⟨(sr_mt4 (List.mem_of_getElem? (i := 225) rfl) rfl), (sr_mt1 (List.mem_of_getElem? (i := 8) rfl) rfl), (sr_mt4 (List.mem_of_getElem? (i := 228) rfl) rfl)⟩, (sr_mt4 (List.mem_of_getElem? (i := 227) rfl) rfl), (sr_mp4 (List.mem_of_getElem? (i := 3) rfl) rfl)⟩
theorem ca_X7_173 : sr_CS RX7 173 M_X7_size := ⟨⟨(sr_mt5 (List.mem_of_getElem? (i := 7) rfl) rfl), (sr_mt1 (List.mem_of_getElem? (i := 8) rfl) rfl), (sr_mt5 (List.mem_of_getElem? (i := 9) rfl) rfl)⟩, (sr_mt5 (List.mem_of_getElem? (i := 8) rfl) rfl)⟩
theorem ca_X7_177 : sr_CS RX7 177 M_X7_common := ⟨⟨(sr_mt5 (List.mem_of_getElem? (i := 4) rfl) rfl), (sr_mt1 (List.mem_of_getElem? (i := 8) rfl) rfl), (sr_mt5 (List.mem_of_getElem? (i := 6) rfl) rfl)⟩, (sr_mt5 (List.mem_of_getElem? (i := 5) rfl) rfl)⟩
theorem ca_X7_183 : sr_CV RX7 183 M_X7_lays := ⟨⟨(sr_mt4 (List.mem_of_getElem? (i := 201) rfl) rfl), (sr_mt1 (List.mem_of_getElem? (i := 8) rfl) rfl), (sr_mt4 (List.mem_of_getElem? (i := 204) rfl) rfl)⟩, (sr_mt4 (List.mem_of_getElem? (i := 203) rfl) rfl), (sr_mp3 (List.mem_of_getElem? (i := 13) rfl) rfl)⟩
theorem ca_X7_186 : sr_CV RX7 186 M_X7_difference := ⟨⟨(sr_mt4 (List.mem_of_getElem? (i := 217) rfl) rfl), (sr_mt1 (List.mem_of_getElem? (i := 8) rfl) rfl), (sr_mt4 (List.mem_of_getElem? (i := 220) rfl) rfl)⟩, (sr_mt4 (List.mem_of_getElem? (i := 219) rfl) rfl), (sr_mp4 (List.mem_of_getElem? (i := 1) rfl) rfl)⟩
theorem ca_X7_189 : sr_CV RX7 189 M_X7_isKnown := ⟨⟨(sr_mt4 (List.mem_of_getElem? (i := 221) rfl) rfl), (sr_mt1 (List.mem_of_getElem? (i := 8) rfl) rfl), (sr_mt4 (List.mem_of_getElem? (i := 224) rfl) rfl)⟩, (sr_mt4 (List.mem_of_getElem? (i := 223) rfl) rfl), (sr_mp4 (List.mem_of_getElem? (i := 2) rfl) rfl)⟩
theorem ca_X7_192 : sr_CV RX7 192 M_X7_value := ⟨⟨(sr_mt4 (List.mem_of_getElem? (i := 237) rfl) rfl), (sr_mt1 (List.mem_of_getElem? (i := 8) rfl) rfl), (sr_mt5 (List.mem_of_getElem? (i := 0) rfl) rfl)⟩, (sr_mt4 (List.mem_of_getElem? (i := 239) rfl) rfl), (sr_mp4 (List.mem_of_getElem? (i := 6) rfl) rfl)⟩
theorem ca_X7_196 : sr_CS RX7 196 M_X7_told_ := ⟨⟨(sr_mt5 (List.mem_of_getElem? (i := 1) rfl) rfl), (sr_mt1 (List.mem_of_getElem? (i := 8) rfl) rfl), (sr_mt5 (List.mem_of_getElem? (i := 3) rfl) rfl)⟩, (sr_mt5 (List.mem_of_getElem? (i := 2) rfl) rfl)⟩
theorem ca_X7_199 : sr_CV RX7 199 M_X7_doubt := ⟨⟨(sr_mt5 (List.mem_of_getElem? (i := 14) rfl) rfl), (sr_mt1 (List.mem_of_getElem? (i := 8) rfl) rfl), (sr_mt5 (List.mem_of_getElem? (i := 17) rfl) rfl)⟩, (sr_mt5 (List.mem_of_getElem? (i := 16) rfl) rfl), (sr_mp4 (List.mem_of_getElem? (i := 7) rfl) rfl)⟩
theorem ca_X7_202 : sr_CV RX7 202 M_X7_restOf := ⟨⟨(sr_mt5 (List.mem_of_getElem? (i := 26) rfl) rfl), (sr_mt1 (List.mem_of_getElem? (i := 8) rfl) rfl), (sr_mt5 (List.mem_of_getElem? (i := 29) rfl) rfl)⟩, (sr_mt5 (List.mem_of_getElem? (i := 28) rfl) rfl), (sr_mp4 (List.mem_of_getElem? (i := 8) rfl) rfl)⟩
theorem ca_X7_209 : sr_CV RX7 209 M_X7_sumsUp := ⟨⟨(sr_mt5 (List.mem_of_getElem? (i := 34) rfl) rfl), (sr_mt1 (List.mem_of_getElem? (i := 8) rfl) rfl), (sr_mt5 (List.mem_of_getElem? (i := 37) rfl) rfl)⟩, (sr_mt5 (List.mem_of_getElem? (i := 36) rfl) rfl), (sr_mp4 (List.mem_of_getElem? (i := 9) rfl) rfl)⟩
theorem ca_X7_212 : sr_CV RX7 212 M_X7_groupOf := ⟨⟨(sr_mt5 (List.mem_of_getElem? (i := 46) rfl) rfl), (sr_mt1 (List.mem_of_getElem? (i := 8) rfl) rfl), (sr_mt5 (List.mem_of_getElem? (i := 49) rfl) rfl)⟩, (sr_mt5 (List.mem_of_getElem? (i := 48) rfl) rfl), (sr_mp4 (List.mem_of_getElem? (i := 10) rfl) rfl)⟩
theorem ca_X7_215 : sr_CV RX7 215 M_X7_isAhead := ⟨⟨(sr_mt5 (List.mem_of_getElem? (i := 50) rfl) rfl), (sr_mt1 (List.mem_of_getElem? (i := 8) rfl) rfl), (sr_mt5 (List.mem_of_getElem? (i := 53) rfl) rfl)⟩, (sr_mt5 (List.mem_of_getElem? (i := 52) rfl) rfl), (sr_mp4 (List.mem_of_getElem? (i := 11) rfl) rfl)⟩
theorem ca_X7_221 : sr_CV RX7 221 M_X7_couples := ⟨⟨(sr_mt5 (List.mem_of_getElem? (i := 58) rfl) rfl), (sr_mt1 (List.mem_of_getElem? (i := 8) rfl) rfl), (sr_mt5 (List.mem_of_getElem? (i := 61) rfl) rfl)⟩, (sr_mt5 (List.mem_of_getElem? (i := 60) rfl) rfl), (sr_mp4 (List.mem_of_getElem? (i := 12) rfl) rfl)⟩
theorem ca_X7_224 : sr_CV RX7 224 M_X7_groups := ⟨⟨(sr_mt5 (List.mem_of_getElem? (i := 62) rfl) rfl), (sr_mt1 (List.mem_of_getElem? (i := 8) rfl) rfl), (sr_mt5 (List.mem_of_getElem? (i := 65) rfl) rfl)⟩, (sr_mt5 (List.mem_of_getElem? (i := 64) rfl) rfl), (sr_mp4 (List.mem_of_getElem? (i := 13) rfl) rfl)⟩
theorem ca_X7_227 : sr_CV RX7 227 M_X7_rankNow := ⟨⟨(sr_mt5 (List.mem_of_getElem? (i := 66) rfl) rfl), (sr_mt1 (List.mem_of_getElem? (i := 8) rfl) rfl), (sr_mt5 (List.mem_of_getElem? (i := 69) rfl) rfl)⟩, (sr_mt5 (List.mem_of_getElem? (i := 68) rfl) rfl), (sr_mp4 (List.mem_of_getElem? (i := 14) rfl) rfl)⟩
theorem ca_X7_230 : sr_CV RX7 230 M_X7_isSwap := ⟨⟨(sr_mt5 (List.mem_of_getElem? (i := 78) rfl) rfl), (sr_mt1 (List.mem_of_getElem? (i := 8) rfl) rfl), (sr_mt5 (List.mem_of_getElem? (i := 81) rfl) rfl)⟩, (sr_mt5 (List.mem_of_getElem? (i := 80) rfl) rfl), (sr_mp4 (List.mem_of_getElem? (i := 15) rfl) rfl)⟩
theorem ca_X7_248 : sr_CS RX7 248 M_X7_compared := ⟨⟨(sr_mt5 (List.mem_of_getElem? (i := 96) rfl) rfl), (sr_mt1 (List.mem_of_getElem? (i := 8) rfl) rfl), (sr_mt5 (List.mem_of_getElem? (i := 98) rfl) rfl)⟩, (sr_mt5 (List.mem_of_getElem? (i := 97) rfl) rfl)⟩
theorem ca_X7_257 : sr_CV RX7 257 M_X7_isMatch := ⟨⟨(sr_mt5 (List.mem_of_getElem? (i := 88) rfl) rfl), (sr_mt1 (List.mem_of_getElem? (i := 8) rfl) rfl), (sr_mt5 (List.mem_of_getElem? (i := 91) rfl) rfl)⟩, (sr_mt5 (List.mem_of_getElem? (i := 90) rfl) rfl), (sr_mp5 (List.mem_of_getElem? (i := 0) rfl) rfl)⟩
theorem ca_X7_260 : sr_CV RX7 260 M_X7_matched := ⟨⟨(sr_mt5 (List.mem_of_getElem? (i := 92) rfl) rfl), (sr_mt1 (List.mem_of_getElem? (i := 8) rfl) rfl), (sr_mt5 (List.mem_of_getElem? (i := 95) rfl) rfl)⟩, (sr_mt5 (List.mem_of_getElem? (i := 94) rfl) rfl), (sr_mp5 (List.mem_of_getElem? (i := 1) rfl) rfl)⟩
theorem ca_J0_335 : sr_CV RJ0 335 M_J0_coder_7d493 := ⟨⟨(sr_mt2 (List.mem_of_getElem? (i := 41) rfl) rfl), (sr_mt1 (List.mem_of_getElem? (i := 9) rfl) rfl), (sr_mt2 (List.mem_of_getElem? (i := 44) rfl) rfl)⟩, (sr_mt2 (List.mem_of_getElem? (i := 42) rfl) rfl), (sr_mt2 (List.mem_of_getElem? (i := 43) rfl) rfl)⟩
theorem ca_J0_492 : sr_CV RJ0 492 M_J0_isLatin1_aae02 := ⟨⟨(sr_mt2 (List.mem_of_getElem? (i := 51) rfl) rfl), (sr_mt1 (List.mem_of_getElem? (i := 9) rfl) rfl), (sr_mt2 (List.mem_of_getElem? (i := 54) rfl) rfl)⟩, (sr_mt2 (List.mem_of_getElem? (i := 52) rfl) rfl), (sr_mt2 (List.mem_of_getElem? (i := 53) rfl) rfl)⟩
theorem ca_J0_495 : sr_CS RJ0 495 M_J1_charAt_3b067 := ⟨⟨(sr_mt2 (List.mem_of_getElem? (i := 55) rfl) rfl), (sr_mt1 (List.mem_of_getElem? (i := 10) rfl) rfl), (sr_mt2 (List.mem_of_getElem? (i := 57) rfl) rfl)⟩, (sr_mt2 (List.mem_of_getElem? (i := 56) rfl) rfl)⟩
theorem ca_J0_498 : sr_CS RJ0 498 M_J2_charAt_3b067 := ⟨⟨(sr_mt2 (List.mem_of_getElem? (i := 66) rfl) rfl), (sr_mt1 (List.mem_of_getElem? (i := 12) rfl) rfl), (sr_mt2 (List.mem_of_getElem? (i := 68) rfl) rfl)⟩, (sr_mt2 (List.mem_of_getElem? (i := 67) rfl) rfl)⟩
theorem ca_J0_1059 : sr_CS RJ0 1059 M_J3_checkIndex_8e157 := ⟨⟨(sr_mt2 (List.mem_of_getElem? (i := 63) rfl) rfl), (sr_mt1 (List.mem_of_getElem? (i := 11) rfl) rfl), (sr_mt2 (List.mem_of_getElem? (i := 65) rfl) rfl)⟩, (sr_mt2 (List.mem_of_getElem? (i := 64) rfl) rfl)⟩
theorem ca_J1_9 : sr_CS RJ1 9 M_J0_checkIndex_df160 := ⟨⟨(sr_mt2 (List.mem_of_getElem? (i := 58) rfl) rfl), (sr_mt1 (List.mem_of_getElem? (i := 9) rfl) rfl), (sr_mt2 (List.mem_of_getElem? (i := 60) rfl) rfl)⟩, (sr_mt2 (List.mem_of_getElem? (i := 59) rfl) rfl)⟩
theorem ca_J2_48 : sr_CS RJ2 48 M_J2_length_9d52b := ⟨⟨(sr_mt2 (List.mem_of_getElem? (i := 72) rfl) rfl), (sr_mt1 (List.mem_of_getElem? (i := 12) rfl) rfl), (sr_mt2 (List.mem_of_getElem? (i := 74) rfl) rfl)⟩, (sr_mt2 (List.mem_of_getElem? (i := 73) rfl) rfl)⟩
theorem ca_J2_67 : sr_CS RJ2 67 M_J2_checkIndex_2214a := ⟨⟨(sr_mt2 (List.mem_of_getElem? (i := 69) rfl) rfl), (sr_mt1 (List.mem_of_getElem? (i := 12) rfl) rfl), (sr_mt2 (List.mem_of_getElem? (i := 71) rfl) rfl)⟩, (sr_mt2 (List.mem_of_getElem? (i := 70) rfl) rfl)⟩
theorem ca_J2_71 : sr_CS RJ2 71 M_J2_getChar_3b067 := ⟨⟨(sr_mt2 (List.mem_of_getElem? (i := 76) rfl) rfl), (sr_mt1 (List.mem_of_getElem? (i := 12) rfl) rfl), (sr_mt2 (List.mem_of_getElem? (i := 78) rfl) rfl)⟩, (sr_mt2 (List.mem_of_getElem? (i := 77) rfl) rfl)⟩
theorem ca_J2_414 : sr_CS RJ2 414 M_J0_checkIndex_df160 := ⟨⟨(sr_mt2 (List.mem_of_getElem? (i := 75) rfl) rfl), (sr_mt1 (List.mem_of_getElem? (i := 9) rfl) rfl), (sr_mt2 (List.mem_of_getElem? (i := 60) rfl) rfl)⟩, (sr_mt2 (List.mem_of_getElem? (i := 59) rfl) rfl)⟩
theorem nm_J0_charAt_5068e : M_J0_charAt_5068e.1.cls ≠ "java/lang/invoke/MethodHandle" ∧ M_J0_charAt_5068e.1.cls ≠ "java/lang/invoke/VarHandle" ∧ (parseMethodDescriptor M_J0_charAt_5068e.1.desc).map (fun d => d.parameters.length) = some 1 := by decide +kernel
theorem pn_J0_charAt_5068e : plainName M_J0_charAt_5068e.1.cls = true := by decide +kernel
theorem nm_J0_checkIndex_df160 : M_J0_checkIndex_df160.1.cls ≠ "java/lang/invoke/MethodHandle" ∧ M_J0_checkIndex_df160.1.cls ≠ "java/lang/invoke/VarHandle" ∧ (parseMethodDescriptor M_J0_checkIndex_df160.1.desc).map (fun d => d.parameters.length) = some 2 := by decide +kernel
theorem pn_J0_checkIndex_df160 : plainName M_J0_checkIndex_df160.1.cls = true := by decide +kernel
theorem nm_J0_coder_7d493 : M_J0_coder_7d493.1.cls ≠ "java/lang/invoke/MethodHandle" ∧ M_J0_coder_7d493.1.cls ≠ "java/lang/invoke/VarHandle" ∧ (parseMethodDescriptor M_J0_coder_7d493.1.desc).map (fun d => d.parameters.length) = some 0 := by decide +kernel
theorem pn_J0_coder_7d493 : plainName M_J0_coder_7d493.1.cls = true := by decide +kernel
theorem nm_J0_isLatin1_aae02 : M_J0_isLatin1_aae02.1.cls ≠ "java/lang/invoke/MethodHandle" ∧ M_J0_isLatin1_aae02.1.cls ≠ "java/lang/invoke/VarHandle" ∧ (parseMethodDescriptor M_J0_isLatin1_aae02.1.desc).map (fun d => d.parameters.length) = some 0 := by decide +kernel
theorem pn_J0_isLatin1_aae02 : plainName M_J0_isLatin1_aae02.1.cls = true := by decide +kernel
theorem nm_J0_length_8abf5 : M_J0_length_8abf5.1.cls ≠ "java/lang/invoke/MethodHandle" ∧ M_J0_length_8abf5.1.cls ≠ "java/lang/invoke/VarHandle" ∧ (parseMethodDescriptor M_J0_length_8abf5.1.desc).map (fun d => d.parameters.length) = some 0 := by decide +kernel
theorem pn_J0_length_8abf5 : plainName M_J0_length_8abf5.1.cls = true := by decide +kernel
theorem nm_J1_charAt_3b067 : M_J1_charAt_3b067.1.cls ≠ "java/lang/invoke/MethodHandle" ∧ M_J1_charAt_3b067.1.cls ≠ "java/lang/invoke/VarHandle" ∧ (parseMethodDescriptor M_J1_charAt_3b067.1.desc).map (fun d => d.parameters.length) = some 2 := by decide +kernel
theorem pn_J1_charAt_3b067 : plainName M_J1_charAt_3b067.1.cls = true := by decide +kernel
theorem nm_J2_charAt_3b067 : M_J2_charAt_3b067.1.cls ≠ "java/lang/invoke/MethodHandle" ∧ M_J2_charAt_3b067.1.cls ≠ "java/lang/invoke/VarHandle" ∧ (parseMethodDescriptor M_J2_charAt_3b067.1.desc).map (fun d => d.parameters.length) = some 2 := by decide +kernel
theorem pn_J2_charAt_3b067 : plainName M_J2_charAt_3b067.1.cls = true := by decide +kernel
theorem nm_J2_checkIndex_2214a : M_J2_checkIndex_2214a.1.cls ≠ "java/lang/invoke/MethodHandle" ∧ M_J2_checkIndex_2214a.1.cls ≠ "java/lang/invoke/VarHandle" ∧ (parseMethodDescriptor M_J2_checkIndex_2214a.1.desc).map (fun d => d.parameters.length) = some 2 := by decide +kernel
theorem pn_J2_checkIndex_2214a : plainName M_J2_checkIndex_2214a.1.cls = true := by decide +kernel
theorem nm_J2_getChar_3b067 : M_J2_getChar_3b067.1.cls ≠ "java/lang/invoke/MethodHandle" ∧ M_J2_getChar_3b067.1.cls ≠ "java/lang/invoke/VarHandle" ∧ (parseMethodDescriptor M_J2_getChar_3b067.1.desc).map (fun d => d.parameters.length) = some 2 := by decide +kernel
theorem pn_J2_getChar_3b067 : plainName M_J2_getChar_3b067.1.cls = true := by decide +kernel
theorem nm_J2_length_9d52b : M_J2_length_9d52b.1.cls ≠ "java/lang/invoke/MethodHandle" ∧ M_J2_length_9d52b.1.cls ≠ "java/lang/invoke/VarHandle" ∧ (parseMethodDescriptor M_J2_length_9d52b.1.desc).map (fun d => d.parameters.length) = some 1 := by decide +kernel
theorem pn_J2_length_9d52b : plainName M_J2_length_9d52b.1.cls = true := by decide +kernel
theorem nm_J3_checkIndex_8e157 : M_J3_checkIndex_8e157.1.cls ≠ "java/lang/invoke/MethodHandle" ∧ M_J3_checkIndex_8e157.1.cls ≠ "java/lang/invoke/VarHandle" ∧ (parseMethodDescriptor M_J3_checkIndex_8e157.1.desc).map (fun d => d.parameters.length) = some 3 := by decide +kernel
theorem pn_J3_checkIndex_8e157 : plainName M_J3_checkIndex_8e157.1.cls = true := by decide +kernel
theorem nm_J6_bitCount_0f7a4 : M_J6_bitCount_0f7a4.1.cls ≠ "java/lang/invoke/MethodHandle" ∧ M_J6_bitCount_0f7a4.1.cls ≠ "java/lang/invoke/VarHandle" ∧ (parseMethodDescriptor M_J6_bitCount_0f7a4.1.desc).map (fun d => d.parameters.length) = some 1 := by decide +kernel
theorem pn_J6_bitCount_0f7a4 : plainName M_J6_bitCount_0f7a4.1.cls = true := by decide +kernel
theorem nm_J9_abs_067f4 : M_J9_abs_067f4.1.cls ≠ "java/lang/invoke/MethodHandle" ∧ M_J9_abs_067f4.1.cls ≠ "java/lang/invoke/VarHandle" ∧ (parseMethodDescriptor M_J9_abs_067f4.1.desc).map (fun d => d.parameters.length) = some 1 := by decide +kernel
theorem nm_X1_clear : M_X1_clear.1.cls ≠ "java/lang/invoke/MethodHandle" ∧ M_X1_clear.1.cls ≠ "java/lang/invoke/VarHandle" ∧ (parseMethodDescriptor M_X1_clear.1.desc).map (fun d => d.parameters.length) = some 0 := by decide +kernel
theorem pn_X1_clear : plainName M_X1_clear.1.cls = true := by decide +kernel
theorem nm_X1_copyForms : M_X1_copyForms.1.cls ≠ "java/lang/invoke/MethodHandle" ∧ M_X1_copyForms.1.cls ≠ "java/lang/invoke/VarHandle" ∧ (parseMethodDescriptor M_X1_copyForms.1.desc).map (fun d => d.parameters.length) = some 1 := by decide +kernel
theorem pn_X1_copyForms : plainName M_X1_copyForms.1.cls = true := by decide +kernel
theorem nm_X1_copyMargins : M_X1_copyMargins.1.cls ≠ "java/lang/invoke/MethodHandle" ∧ M_X1_copyMargins.1.cls ≠ "java/lang/invoke/VarHandle" ∧ (parseMethodDescriptor M_X1_copyMargins.1.desc).map (fun d => d.parameters.length) = some 1 := by decide +kernel
theorem pn_X1_copyMargins : plainName M_X1_copyMargins.1.cls = true := by decide +kernel
theorem nm_X1_couplesKnown : M_X1_couplesKnown.1.cls ≠ "java/lang/invoke/MethodHandle" ∧ M_X1_couplesKnown.1.cls ≠ "java/lang/invoke/VarHandle" ∧ (parseMethodDescriptor M_X1_couplesKnown.1.desc).map (fun d => d.parameters.length) = some 1 := by decide +kernel
theorem pn_X1_couplesKnown : plainName M_X1_couplesKnown.1.cls = true := by decide +kernel
theorem nm_X1_include : M_X1_include.1.cls ≠ "java/lang/invoke/MethodHandle" ∧ M_X1_include.1.cls ≠ "java/lang/invoke/VarHandle" ∧ (parseMethodDescriptor M_X1_include.1.desc).map (fun d => d.parameters.length) = some 1 := by decide +kernel
theorem pn_X1_include : plainName M_X1_include.1.cls = true := by decide +kernel
theorem nm_X1_isKnown : M_X1_isKnown.1.cls ≠ "java/lang/invoke/MethodHandle" ∧ M_X1_isKnown.1.cls ≠ "java/lang/invoke/VarHandle" ∧ (parseMethodDescriptor M_X1_isKnown.1.desc).map (fun d => d.parameters.length) = some 0 := by decide +kernel
theorem pn_X1_isKnown : plainName M_X1_isKnown.1.cls = true := by decide +kernel
theorem nm_X1_load : M_X1_load.1.cls ≠ "java/lang/invoke/MethodHandle" ∧ M_X1_load.1.cls ≠ "java/lang/invoke/VarHandle" ∧ (parseMethodDescriptor M_X1_load.1.desc).map (fun d => d.parameters.length) = some 4 := by decide +kernel
theorem pn_X1_load : plainName M_X1_load.1.cls = true := by decide +kernel
theorem nm_X1_scaledDoubt : M_X1_scaledDoubt.1.cls ≠ "java/lang/invoke/MethodHandle" ∧ M_X1_scaledDoubt.1.cls ≠ "java/lang/invoke/VarHandle" ∧ (parseMethodDescriptor M_X1_scaledDoubt.1.desc).map (fun d => d.parameters.length) = some 0 := by decide +kernel
theorem pn_X1_scaledDoubt : plainName M_X1_scaledDoubt.1.cls = true := by decide +kernel
theorem nm_X1_scaledDoubts : M_X1_scaledDoubts.1.cls ≠ "java/lang/invoke/MethodHandle" ∧ M_X1_scaledDoubts.1.cls ≠ "java/lang/invoke/VarHandle" ∧ (parseMethodDescriptor M_X1_scaledDoubts.1.desc).map (fun d => d.parameters.length) = some 1 := by decide +kernel
theorem pn_X1_scaledDoubts : plainName M_X1_scaledDoubts.1.cls = true := by decide +kernel
theorem nm_X1_scaledSum : M_X1_scaledSum.1.cls ≠ "java/lang/invoke/MethodHandle" ∧ M_X1_scaledSum.1.cls ≠ "java/lang/invoke/VarHandle" ∧ (parseMethodDescriptor M_X1_scaledSum.1.desc).map (fun d => d.parameters.length) = some 0 := by decide +kernel
theorem pn_X1_scaledSum : plainName M_X1_scaledSum.1.cls = true := by decide +kernel
theorem nm_X1_scaledValue : M_X1_scaledValue.1.cls ≠ "java/lang/invoke/MethodHandle" ∧ M_X1_scaledValue.1.cls ≠ "java/lang/invoke/VarHandle" ∧ (parseMethodDescriptor M_X1_scaledValue.1.desc).map (fun d => d.parameters.length) = some 0 := by decide +kernel
theorem pn_X1_scaledValue : plainName M_X1_scaledValue.1.cls = true := by decide +kernel
theorem nm_X1_solve : M_X1_solve.1.cls ≠ "java/lang/invoke/MethodHandle" ∧ M_X1_solve.1.cls ≠ "java/lang/invoke/VarHandle" ∧ (parseMethodDescriptor M_X1_solve.1.desc).map (fun d => d.parameters.length) = some 0 := by decide +kernel
theorem pn_X1_solve : plainName M_X1_solve.1.cls = true := by decide +kernel
theorem nm_X1_sweep : M_X1_sweep.1.cls ≠ "java/lang/invoke/MethodHandle" ∧ M_X1_sweep.1.cls ≠ "java/lang/invoke/VarHandle" ∧ (parseMethodDescriptor M_X1_sweep.1.desc).map (fun d => d.parameters.length) = some 1 := by decide +kernel
theorem pn_X1_sweep : plainName M_X1_sweep.1.cls = true := by decide +kernel
theorem nm_X1_sweptTimes : M_X1_sweptTimes.1.cls ≠ "java/lang/invoke/MethodHandle" ∧ M_X1_sweptTimes.1.cls ≠ "java/lang/invoke/VarHandle" ∧ (parseMethodDescriptor M_X1_sweptTimes.1.desc).map (fun d => d.parameters.length) = some 1 := by decide +kernel
theorem pn_X1_sweptTimes : plainName M_X1_sweptTimes.1.cls = true := by decide +kernel
theorem nm_X2_commonDivisor : M_X2_commonDivisor.1.cls ≠ "java/lang/invoke/MethodHandle" ∧ M_X2_commonDivisor.1.cls ≠ "java/lang/invoke/VarHandle" ∧ (parseMethodDescriptor M_X2_commonDivisor.1.desc).map (fun d => d.parameters.length) = some 2 := by decide +kernel
theorem pn_X2_commonDivisor : plainName M_X2_commonDivisor.1.cls = true := by decide +kernel
theorem nm_X2_copyFrom : M_X2_copyFrom.1.cls ≠ "java/lang/invoke/MethodHandle" ∧ M_X2_copyFrom.1.cls ≠ "java/lang/invoke/VarHandle" ∧ (parseMethodDescriptor M_X2_copyFrom.1.desc).map (fun d => d.parameters.length) = some 1 := by decide +kernel
theorem pn_X2_copyFrom : plainName M_X2_copyFrom.1.cls = true := by decide +kernel
theorem nm_X2_isBelow : M_X2_isBelow.1.cls ≠ "java/lang/invoke/MethodHandle" ∧ M_X2_isBelow.1.cls ≠ "java/lang/invoke/VarHandle" ∧ (parseMethodDescriptor M_X2_isBelow.1.desc).map (fun d => d.parameters.length) = some 1 := by decide +kernel
theorem pn_X2_isBelow : plainName M_X2_isBelow.1.cls = true := by decide +kernel
theorem nm_X2_set : M_X2_set.1.cls ≠ "java/lang/invoke/MethodHandle" ∧ M_X2_set.1.cls ≠ "java/lang/invoke/VarHandle" ∧ (parseMethodDescriptor M_X2_set.1.desc).map (fun d => d.parameters.length) = some 2 := by decide +kernel
theorem pn_X2_set : plainName M_X2_set.1.cls = true := by decide +kernel
theorem nm_X3_append : M_X3_append.1.cls ≠ "java/lang/invoke/MethodHandle" ∧ M_X3_append.1.cls ≠ "java/lang/invoke/VarHandle" ∧ (parseMethodDescriptor M_X3_append.1.desc).map (fun d => d.parameters.length) = some 4 := by decide +kernel
theorem pn_X3_append : plainName M_X3_append.1.cls = true := by decide +kernel
theorem nm_X3_begin : M_X3_begin.1.cls ≠ "java/lang/invoke/MethodHandle" ∧ M_X3_begin.1.cls ≠ "java/lang/invoke/VarHandle" ∧ (parseMethodDescriptor M_X3_begin.1.desc).map (fun d => d.parameters.length) = some 1 := by decide +kernel
theorem pn_X3_begin : plainName M_X3_begin.1.cls = true := by decide +kernel
theorem nm_X3_canRow : M_X3_canRow.1.cls ≠ "java/lang/invoke/MethodHandle" ∧ M_X3_canRow.1.cls ≠ "java/lang/invoke/VarHandle" ∧ (parseMethodDescriptor M_X3_canRow.1.desc).map (fun d => d.parameters.length) = some 3 := by decide +kernel
theorem pn_X3_canRow : plainName M_X3_canRow.1.cls = true := by decide +kernel
theorem nm_X3_copyFrom : M_X3_copyFrom.1.cls ≠ "java/lang/invoke/MethodHandle" ∧ M_X3_copyFrom.1.cls ≠ "java/lang/invoke/VarHandle" ∧ (parseMethodDescriptor M_X3_copyFrom.1.desc).map (fun d => d.parameters.length) = some 1 := by decide +kernel
theorem pn_X3_copyFrom : plainName M_X3_copyFrom.1.cls = true := by decide +kernel
theorem nm_X3_hasRace : M_X3_hasRace.1.cls ≠ "java/lang/invoke/MethodHandle" ∧ M_X3_hasRace.1.cls ≠ "java/lang/invoke/VarHandle" ∧ (parseMethodDescriptor M_X3_hasRace.1.desc).map (fun d => d.parameters.length) = some 1 := by decide +kernel
theorem pn_X3_hasRace : plainName M_X3_hasRace.1.cls = true := by decide +kernel
theorem nm_X3_hasRower : M_X3_hasRower.1.cls ≠ "java/lang/invoke/MethodHandle" ∧ M_X3_hasRower.1.cls ≠ "java/lang/invoke/VarHandle" ∧ (parseMethodDescriptor M_X3_hasRower.1.desc).map (fun d => d.parameters.length) = some 1 := by decide +kernel
theorem pn_X3_hasRower : plainName M_X3_hasRower.1.cls = true := by decide +kernel
theorem nm_X3_isBound : M_X3_isBound.1.cls ≠ "java/lang/invoke/MethodHandle" ∧ M_X3_isBound.1.cls ≠ "java/lang/invoke/VarHandle" ∧ (parseMethodDescriptor M_X3_isBound.1.desc).map (fun d => d.parameters.length) = some 1 := by decide +kernel
theorem pn_X3_isBound : plainName M_X3_isBound.1.cls = true := by decide +kernel
theorem nm_X3_isFull : M_X3_isFull.1.cls ≠ "java/lang/invoke/MethodHandle" ∧ M_X3_isFull.1.cls ≠ "java/lang/invoke/VarHandle" ∧ (parseMethodDescriptor M_X3_isFull.1.desc).map (fun d => d.parameters.length) = some 0 := by decide +kernel
theorem pn_X3_isFull : plainName M_X3_isFull.1.cls = true := by decide +kernel
theorem nm_X3_isRowerCount : M_X3_isRowerCount.1.cls ≠ "java/lang/invoke/MethodHandle" ∧ M_X3_isRowerCount.1.cls ≠ "java/lang/invoke/VarHandle" ∧ (parseMethodDescriptor M_X3_isRowerCount.1.desc).map (fun d => d.parameters.length) = some 1 := by decide +kernel
theorem pn_X3_isRowerCount : plainName M_X3_isRowerCount.1.cls = true := by decide +kernel
theorem nm_X3_isSwap : M_X3_isSwap.1.cls ≠ "java/lang/invoke/MethodHandle" ∧ M_X3_isSwap.1.cls ≠ "java/lang/invoke/VarHandle" ∧ (parseMethodDescriptor M_X3_isSwap.1.desc).map (fun d => d.parameters.length) = some 4 := by decide +kernel
theorem pn_X3_isSwap : plainName M_X3_isSwap.1.cls = true := by decide +kernel
theorem nm_X3_remove : M_X3_remove.1.cls ≠ "java/lang/invoke/MethodHandle" ∧ M_X3_remove.1.cls ≠ "java/lang/invoke/VarHandle" ∧ (parseMethodDescriptor M_X3_remove.1.desc).map (fun d => d.parameters.length) = some 1 := by decide +kernel
theorem pn_X3_remove : plainName M_X3_remove.1.cls = true := by decide +kernel
theorem nm_X4_append : M_X4_append.1.cls ≠ "java/lang/invoke/MethodHandle" ∧ M_X4_append.1.cls ≠ "java/lang/invoke/VarHandle" ∧ (parseMethodDescriptor M_X4_append.1.desc).map (fun d => d.parameters.length) = some 1 := by decide +kernel
theorem pn_X4_append : plainName M_X4_append.1.cls = true := by decide +kernel
theorem nm_X4_isDigit : M_X4_isDigit.1.cls ≠ "java/lang/invoke/MethodHandle" ∧ M_X4_isDigit.1.cls ≠ "java/lang/invoke/VarHandle" ∧ (parseMethodDescriptor M_X4_isDigit.1.desc).map (fun d => d.parameters.length) = some 1 := by decide +kernel
theorem pn_X4_isDigit : plainName M_X4_isDigit.1.cls = true := by decide +kernel
theorem nm_X4_isLetter : M_X4_isLetter.1.cls ≠ "java/lang/invoke/MethodHandle" ∧ M_X4_isLetter.1.cls ≠ "java/lang/invoke/VarHandle" ∧ (parseMethodDescriptor M_X4_isLetter.1.desc).map (fun d => d.parameters.length) = some 1 := by decide +kernel
theorem pn_X4_isLetter : plainName M_X4_isLetter.1.cls = true := by decide +kernel
theorem nm_X4_isWord : M_X4_isWord.1.cls ≠ "java/lang/invoke/MethodHandle" ∧ M_X4_isWord.1.cls ≠ "java/lang/invoke/VarHandle" ∧ (parseMethodDescriptor M_X4_isWord.1.desc).map (fun d => d.parameters.length) = some 1 := by decide +kernel
theorem pn_X4_isWord : plainName M_X4_isWord.1.cls = true := by decide +kernel
theorem nm_X4_readNumber : M_X4_readNumber.1.cls ≠ "java/lang/invoke/MethodHandle" ∧ M_X4_readNumber.1.cls ≠ "java/lang/invoke/VarHandle" ∧ (parseMethodDescriptor M_X4_readNumber.1.desc).map (fun d => d.parameters.length) = some 0 := by decide +kernel
theorem pn_X4_readNumber : plainName M_X4_readNumber.1.cls = true := by decide +kernel
theorem nm_X4_readWord : M_X4_readWord.1.cls ≠ "java/lang/invoke/MethodHandle" ∧ M_X4_readWord.1.cls ≠ "java/lang/invoke/VarHandle" ∧ (parseMethodDescriptor M_X4_readWord.1.desc).map (fun d => d.parameters.length) = some 0 := by decide +kernel
theorem pn_X4_readWord : plainName M_X4_readWord.1.cls = true := by decide +kernel
theorem nm_X4_rewind : M_X4_rewind.1.cls ≠ "java/lang/invoke/MethodHandle" ∧ M_X4_rewind.1.cls ≠ "java/lang/invoke/VarHandle" ∧ (parseMethodDescriptor M_X4_rewind.1.desc).map (fun d => d.parameters.length) = some 0 := by decide +kernel
theorem pn_X4_rewind : plainName M_X4_rewind.1.cls = true := by decide +kernel
theorem nm_X4_step : M_X4_step.1.cls ≠ "java/lang/invoke/MethodHandle" ∧ M_X4_step.1.cls ≠ "java/lang/invoke/VarHandle" ∧ (parseMethodDescriptor M_X4_step.1.desc).map (fun d => d.parameters.length) = some 0 := by decide +kernel
theorem pn_X4_step : plainName M_X4_step.1.cls = true := by decide +kernel
theorem nm_X5_readAll : M_X5_readAll.1.cls ≠ "java/lang/invoke/MethodHandle" ∧ M_X5_readAll.1.cls ≠ "java/lang/invoke/VarHandle" ∧ (parseMethodDescriptor M_X5_readAll.1.desc).map (fun d => d.parameters.length) = some 0 := by decide +kernel
theorem pn_X5_readAll : plainName M_X5_readAll.1.cls = true := by decide +kernel
theorem nm_X5_readBound : M_X5_readBound.1.cls ≠ "java/lang/invoke/MethodHandle" ∧ M_X5_readBound.1.cls ≠ "java/lang/invoke/VarHandle" ∧ (parseMethodDescriptor M_X5_readBound.1.desc).map (fun d => d.parameters.length) = some 0 := by decide +kernel
theorem pn_X5_readBound : plainName M_X5_readBound.1.cls = true := by decide +kernel
theorem nm_X5_readCrew : M_X5_readCrew.1.cls ≠ "java/lang/invoke/MethodHandle" ∧ M_X5_readCrew.1.cls ≠ "java/lang/invoke/VarHandle" ∧ (parseMethodDescriptor M_X5_readCrew.1.desc).map (fun d => d.parameters.length) = some 1 := by decide +kernel
theorem pn_X5_readCrew : plainName M_X5_readCrew.1.cls = true := by decide +kernel
theorem nm_X5_readMargin : M_X5_readMargin.1.cls ≠ "java/lang/invoke/MethodHandle" ∧ M_X5_readMargin.1.cls ≠ "java/lang/invoke/VarHandle" ∧ (parseMethodDescriptor M_X5_readMargin.1.desc).map (fun d => d.parameters.length) = some 0 := by decide +kernel
theorem pn_X5_readMargin : plainName M_X5_readMargin.1.cls = true := by decide +kernel
theorem nm_X5_readRace : M_X5_readRace.1.cls ≠ "java/lang/invoke/MethodHandle" ∧ M_X5_readRace.1.cls ≠ "java/lang/invoke/VarHandle" ∧ (parseMethodDescriptor M_X5_readRace.1.desc).map (fun d => d.parameters.length) = some 0 := by decide +kernel
theorem pn_X5_readRace : plainName M_X5_readRace.1.cls = true := by decide +kernel
theorem nm_X5_readRowers : M_X5_readRowers.1.cls ≠ "java/lang/invoke/MethodHandle" ∧ M_X5_readRowers.1.cls ≠ "java/lang/invoke/VarHandle" ∧ (parseMethodDescriptor M_X5_readRowers.1.desc).map (fun d => d.parameters.length) = some 0 := by decide +kernel
theorem pn_X5_readRowers : plainName M_X5_readRowers.1.cls = true := by decide +kernel
theorem nm_X5_refuse : M_X5_refuse.1.cls ≠ "java/lang/invoke/MethodHandle" ∧ M_X5_refuse.1.cls ≠ "java/lang/invoke/VarHandle" ∧ (parseMethodDescriptor M_X5_refuse.1.desc).map (fun d => d.parameters.length) = some 1 := by decide +kernel
theorem pn_X5_refuse : plainName M_X5_refuse.1.cls = true := by decide +kernel
theorem nm_X6_areTwo : M_X6_areTwo.1.cls ≠ "java/lang/invoke/MethodHandle" ∧ M_X6_areTwo.1.cls ≠ "java/lang/invoke/VarHandle" ∧ (parseMethodDescriptor M_X6_areTwo.1.desc).map (fun d => d.parameters.length) = some 2 := by decide +kernel
theorem pn_X6_areTwo : plainName M_X6_areTwo.1.cls = true := by decide +kernel
theorem nm_X6_chooseEven : M_X6_chooseEven.1.cls ≠ "java/lang/invoke/MethodHandle" ∧ M_X6_chooseEven.1.cls ≠ "java/lang/invoke/VarHandle" ∧ (parseMethodDescriptor M_X6_chooseEven.1.desc).map (fun d => d.parameters.length) = some 1 := by decide +kernel
theorem pn_X6_chooseEven : plainName M_X6_chooseEven.1.cls = true := by decide +kernel
theorem nm_X6_chooseNext : M_X6_chooseNext.1.cls ≠ "java/lang/invoke/MethodHandle" ∧ M_X6_chooseNext.1.cls ≠ "java/lang/invoke/VarHandle" ∧ (parseMethodDescriptor M_X6_chooseNext.1.desc).map (fun d => d.parameters.length) = some 1 := by decide +kernel
theorem pn_X6_chooseNext : plainName M_X6_chooseNext.1.cls = true := by decide +kernel
theorem nm_X6_count : M_X6_count.1.cls ≠ "java/lang/invoke/MethodHandle" ∧ M_X6_count.1.cls ≠ "java/lang/invoke/VarHandle" ∧ (parseMethodDescriptor M_X6_count.1.desc).map (fun d => d.parameters.length) = some 1 := by decide +kernel
theorem pn_X6_count : plainName M_X6_count.1.cls = true := by decide +kernel
theorem nm_X6_countGroups : M_X6_countGroups.1.cls ≠ "java/lang/invoke/MethodHandle" ∧ M_X6_countGroups.1.cls ≠ "java/lang/invoke/VarHandle" ∧ (parseMethodDescriptor M_X6_countGroups.1.desc).map (fun d => d.parameters.length) = some 0 := by decide +kernel
theorem pn_X6_countGroups : plainName M_X6_countGroups.1.cls = true := by decide +kernel
theorem nm_X6_countSurelyBehind : M_X6_countSurelyBehind.1.cls ≠ "java/lang/invoke/MethodHandle" ∧ M_X6_countSurelyBehind.1.cls ≠ "java/lang/invoke/VarHandle" ∧ (parseMethodDescriptor M_X6_countSurelyBehind.1.desc).map (fun d => d.parameters.length) = some 1 := by decide +kernel
theorem pn_X6_countSurelyBehind : plainName M_X6_countSurelyBehind.1.cls = true := by decide +kernel
theorem nm_X6_crew : M_X6_crew.1.cls ≠ "java/lang/invoke/MethodHandle" ∧ M_X6_crew.1.cls ≠ "java/lang/invoke/VarHandle" ∧ (parseMethodDescriptor M_X6_crew.1.desc).map (fun d => d.parameters.length) = some 1 := by decide +kernel
theorem pn_X6_crew : plainName M_X6_crew.1.cls = true := by decide +kernel
theorem nm_X6_difference : M_X6_difference.1.cls ≠ "java/lang/invoke/MethodHandle" ∧ M_X6_difference.1.cls ≠ "java/lang/invoke/VarHandle" ∧ (parseMethodDescriptor M_X6_difference.1.desc).map (fun d => d.parameters.length) = some 3 := by decide +kernel
theorem pn_X6_difference : plainName M_X6_difference.1.cls = true := by decide +kernel
theorem nm_X6_doubt : M_X6_doubt.1.cls ≠ "java/lang/invoke/MethodHandle" ∧ M_X6_doubt.1.cls ≠ "java/lang/invoke/VarHandle" ∧ (parseMethodDescriptor M_X6_doubt.1.desc).map (fun d => d.parameters.length) = some 3 := by decide +kernel
theorem pn_X6_doubt : plainName M_X6_doubt.1.cls = true := by decide +kernel
theorem nm_X6_drift : M_X6_drift.1.cls ≠ "java/lang/invoke/MethodHandle" ∧ M_X6_drift.1.cls ≠ "java/lang/invoke/VarHandle" ∧ (parseMethodDescriptor M_X6_drift.1.desc).map (fun d => d.parameters.length) = some 1 := by decide +kernel
theorem pn_X6_drift : plainName M_X6_drift.1.cls = true := by decide +kernel
theorem nm_X6_end : M_X6_end.1.cls ≠ "java/lang/invoke/MethodHandle" ∧ M_X6_end.1.cls ≠ "java/lang/invoke/VarHandle" ∧ (parseMethodDescriptor M_X6_end.1.desc).map (fun d => d.parameters.length) = some 1 := by decide +kernel
theorem pn_X6_end : plainName M_X6_end.1.cls = true := by decide +kernel
theorem nm_X6_even : M_X6_even.1.cls ≠ "java/lang/invoke/MethodHandle" ∧ M_X6_even.1.cls ≠ "java/lang/invoke/VarHandle" ∧ (parseMethodDescriptor M_X6_even.1.desc).map (fun d => d.parameters.length) = some 2 := by decide +kernel
theorem pn_X6_even : plainName M_X6_even.1.cls = true := by decide +kernel
theorem nm_X6_fault : M_X6_fault.1.cls ≠ "java/lang/invoke/MethodHandle" ∧ M_X6_fault.1.cls ≠ "java/lang/invoke/VarHandle" ∧ (parseMethodDescriptor M_X6_fault.1.desc).map (fun d => d.parameters.length) = some 1 := by decide +kernel
theorem pn_X6_fault : plainName M_X6_fault.1.cls = true := by decide +kernel
theorem nm_X6_feed : M_X6_feed.1.cls ≠ "java/lang/invoke/MethodHandle" ∧ M_X6_feed.1.cls ≠ "java/lang/invoke/VarHandle" ∧ (parseMethodDescriptor M_X6_feed.1.desc).map (fun d => d.parameters.length) = some 5 := by decide +kernel
theorem pn_X6_feed : plainName M_X6_feed.1.cls = true := by decide +kernel
theorem nm_X6_fewest : M_X6_fewest.1.cls ≠ "java/lang/invoke/MethodHandle" ∧ M_X6_fewest.1.cls ≠ "java/lang/invoke/VarHandle" ∧ (parseMethodDescriptor M_X6_fewest.1.desc).map (fun d => d.parameters.length) = some 1 := by decide +kernel
theorem pn_X6_fewest : plainName M_X6_fewest.1.cls = true := by decide +kernel
theorem nm_X6_groupOf : M_X6_groupOf.1.cls ≠ "java/lang/invoke/MethodHandle" ∧ M_X6_groupOf.1.cls ≠ "java/lang/invoke/VarHandle" ∧ (parseMethodDescriptor M_X6_groupOf.1.desc).map (fun d => d.parameters.length) = some 1 := by decide +kernel
theorem pn_X6_groupOf : plainName M_X6_groupOf.1.cls = true := by decide +kernel
theorem nm_X6_guess : M_X6_guess.1.cls ≠ "java/lang/invoke/MethodHandle" ∧ M_X6_guess.1.cls ≠ "java/lang/invoke/VarHandle" ∧ (parseMethodDescriptor M_X6_guess.1.desc).map (fun d => d.parameters.length) = some 5 := by decide +kernel
theorem pn_X6_guess : plainName M_X6_guess.1.cls = true := by decide +kernel
theorem nm_X6_isAhead : M_X6_isAhead.1.cls ≠ "java/lang/invoke/MethodHandle" ∧ M_X6_isAhead.1.cls ≠ "java/lang/invoke/VarHandle" ∧ (parseMethodDescriptor M_X6_isAhead.1.desc).map (fun d => d.parameters.length) = some 3 := by decide +kernel
theorem pn_X6_isAhead : plainName M_X6_isAhead.1.cls = true := by decide +kernel
theorem nm_X6_isMatch : M_X6_isMatch.1.cls ≠ "java/lang/invoke/MethodHandle" ∧ M_X6_isMatch.1.cls ≠ "java/lang/invoke/VarHandle" ∧ (parseMethodDescriptor M_X6_isMatch.1.desc).map (fun d => d.parameters.length) = some 2 := by decide +kernel
theorem pn_X6_isMatch : plainName M_X6_isMatch.1.cls = true := by decide +kernel
theorem nm_X6_judge : M_X6_judge.1.cls ≠ "java/lang/invoke/MethodHandle" ∧ M_X6_judge.1.cls ≠ "java/lang/invoke/VarHandle" ∧ (parseMethodDescriptor M_X6_judge.1.desc).map (fun d => d.parameters.length) = some 0 := by decide +kernel
theorem pn_X6_judge : plainName M_X6_judge.1.cls = true := by decide +kernel
theorem nm_X6_limit : M_X6_limit.1.cls ≠ "java/lang/invoke/MethodHandle" ∧ M_X6_limit.1.cls ≠ "java/lang/invoke/VarHandle" ∧ (parseMethodDescriptor M_X6_limit.1.desc).map (fun d => d.parameters.length) = some 1 := by decide +kernel
theorem pn_X6_limit : plainName M_X6_limit.1.cls = true := by decide +kernel
theorem nm_X6_listMatches : M_X6_listMatches.1.cls ≠ "java/lang/invoke/MethodHandle" ∧ M_X6_listMatches.1.cls ≠ "java/lang/invoke/VarHandle" ∧ (parseMethodDescriptor M_X6_listMatches.1.desc).map (fun d => d.parameters.length) = some 1 := by decide +kernel
theorem pn_X6_listMatches : plainName M_X6_listMatches.1.cls = true := by decide +kernel
theorem nm_X6_next : M_X6_next.1.cls ≠ "java/lang/invoke/MethodHandle" ∧ M_X6_next.1.cls ≠ "java/lang/invoke/VarHandle" ∧ (parseMethodDescriptor M_X6_next.1.desc).map (fun d => d.parameters.length) = some 2 := by decide +kernel
theorem pn_X6_next : plainName M_X6_next.1.cls = true := by decide +kernel
theorem nm_X6_odd : M_X6_odd.1.cls ≠ "java/lang/invoke/MethodHandle" ∧ M_X6_odd.1.cls ≠ "java/lang/invoke/VarHandle" ∧ (parseMethodDescriptor M_X6_odd.1.desc).map (fun d => d.parameters.length) = some 1 := by decide +kernel
theorem pn_X6_odd : plainName M_X6_odd.1.cls = true := by decide +kernel
theorem nm_X6_race : M_X6_race.1.cls ≠ "java/lang/invoke/MethodHandle" ∧ M_X6_race.1.cls ≠ "java/lang/invoke/VarHandle" ∧ (parseMethodDescriptor M_X6_race.1.desc).map (fun d => d.parameters.length) = some 4 := by decide +kernel
theorem pn_X6_race : plainName M_X6_race.1.cls = true := by decide +kernel
theorem nm_X6_raced : M_X6_raced.1.cls ≠ "java/lang/invoke/MethodHandle" ∧ M_X6_raced.1.cls ≠ "java/lang/invoke/VarHandle" ∧ (parseMethodDescriptor M_X6_raced.1.desc).map (fun d => d.parameters.length) = some 2 := by decide +kernel
theorem pn_X6_raced : plainName M_X6_raced.1.cls = true := by decide +kernel
theorem nm_X6_rank : M_X6_rank.1.cls ≠ "java/lang/invoke/MethodHandle" ∧ M_X6_rank.1.cls ≠ "java/lang/invoke/VarHandle" ∧ (parseMethodDescriptor M_X6_rank.1.desc).map (fun d => d.parameters.length) = some 2 := by decide +kernel
theorem pn_X6_rank : plainName M_X6_rank.1.cls = true := by decide +kernel
theorem nm_X6_rest : M_X6_rest.1.cls ≠ "java/lang/invoke/MethodHandle" ∧ M_X6_rest.1.cls ≠ "java/lang/invoke/VarHandle" ∧ (parseMethodDescriptor M_X6_rest.1.desc).map (fun d => d.parameters.length) = some 2 := by decide +kernel
theorem pn_X6_rest : plainName M_X6_rest.1.cls = true := by decide +kernel
theorem nm_X6_scaledRest : M_X6_scaledRest.1.cls ≠ "java/lang/invoke/MethodHandle" ∧ M_X6_scaledRest.1.cls ≠ "java/lang/invoke/VarHandle" ∧ (parseMethodDescriptor M_X6_scaledRest.1.desc).map (fun d => d.parameters.length) = some 1 := by decide +kernel
theorem pn_X6_scaledRest : plainName M_X6_scaledRest.1.cls = true := by decide +kernel
theorem nm_X6_strike : M_X6_strike.1.cls ≠ "java/lang/invoke/MethodHandle" ∧ M_X6_strike.1.cls ≠ "java/lang/invoke/VarHandle" ∧ (parseMethodDescriptor M_X6_strike.1.desc).map (fun d => d.parameters.length) = some 1 := by decide +kernel
theorem pn_X6_strike : plainName M_X6_strike.1.cls = true := by decide +kernel
theorem nm_X6_suit : M_X6_suit.1.cls ≠ "java/lang/invoke/MethodHandle" ∧ M_X6_suit.1.cls ≠ "java/lang/invoke/VarHandle" ∧ (parseMethodDescriptor M_X6_suit.1.desc).map (fun d => d.parameters.length) = some 3 := by decide +kernel
theorem pn_X6_suit : plainName M_X6_suit.1.cls = true := by decide +kernel
theorem nm_X6_sum : M_X6_sum.1.cls ≠ "java/lang/invoke/MethodHandle" ∧ M_X6_sum.1.cls ≠ "java/lang/invoke/VarHandle" ∧ (parseMethodDescriptor M_X6_sum.1.desc).map (fun d => d.parameters.length) = some 1 := by decide +kernel
theorem pn_X6_sum : plainName M_X6_sum.1.cls = true := by decide +kernel
theorem nm_X6_swaps : M_X6_swaps.1.cls ≠ "java/lang/invoke/MethodHandle" ∧ M_X6_swaps.1.cls ≠ "java/lang/invoke/VarHandle" ∧ (parseMethodDescriptor M_X6_swaps.1.desc).map (fun d => d.parameters.length) = some 3 := by decide +kernel
theorem pn_X6_swaps : plainName M_X6_swaps.1.cls = true := by decide +kernel
theorem nm_X6_tell : M_X6_tell.1.cls ≠ "java/lang/invoke/MethodHandle" ∧ M_X6_tell.1.cls ≠ "java/lang/invoke/VarHandle" ∧ (parseMethodDescriptor M_X6_tell.1.desc).map (fun d => d.parameters.length) = some 0 := by decide +kernel
theorem pn_X6_tell : plainName M_X6_tell.1.cls = true := by decide +kernel
theorem nm_X6_tellForm : M_X6_tellForm.1.cls ≠ "java/lang/invoke/MethodHandle" ∧ M_X6_tellForm.1.cls ≠ "java/lang/invoke/VarHandle" ∧ (parseMethodDescriptor M_X6_tellForm.1.desc).map (fun d => d.parameters.length) = some 5 := by decide +kernel
theorem pn_X6_tellForm : plainName M_X6_tellForm.1.cls = true := by decide +kernel
theorem nm_X6_tellFraction : M_X6_tellFraction.1.cls ≠ "java/lang/invoke/MethodHandle" ∧ M_X6_tellFraction.1.cls ≠ "java/lang/invoke/VarHandle" ∧ (parseMethodDescriptor M_X6_tellFraction.1.desc).map (fun d => d.parameters.length) = some 3 := by decide +kernel
theorem pn_X6_tellFraction : plainName M_X6_tellFraction.1.cls = true := by decide +kernel
theorem nm_X6_thoseAheadOf : M_X6_thoseAheadOf.1.cls ≠ "java/lang/invoke/MethodHandle" ∧ M_X6_thoseAheadOf.1.cls ≠ "java/lang/invoke/VarHandle" ∧ (parseMethodDescriptor M_X6_thoseAheadOf.1.desc).map (fun d => d.parameters.length) = some 2 := by decide +kernel
theorem pn_X6_thoseAheadOf : plainName M_X6_thoseAheadOf.1.cls = true := by decide +kernel
theorem nm_X7_areCrews : M_X7_areCrews.1.cls ≠ "java/lang/invoke/MethodHandle" ∧ M_X7_areCrews.1.cls ≠ "java/lang/invoke/VarHandle" ∧ (parseMethodDescriptor M_X7_areCrews.1.desc).map (fun d => d.parameters.length) = some 2 := by decide +kernel
theorem pn_X7_areCrews : plainName M_X7_areCrews.1.cls = true := by decide +kernel
theorem nm_X7_bits : M_X7_bits.1.cls ≠ "java/lang/invoke/MethodHandle" ∧ M_X7_bits.1.cls ≠ "java/lang/invoke/VarHandle" ∧ (parseMethodDescriptor M_X7_bits.1.desc).map (fun d => d.parameters.length) = some 1 := by decide +kernel
theorem pn_X7_bits : plainName M_X7_bits.1.cls = true := by decide +kernel
theorem nm_X7_clearsForm : M_X7_clearsForm.1.cls ≠ "java/lang/invoke/MethodHandle" ∧ M_X7_clearsForm.1.cls ≠ "java/lang/invoke/VarHandle" ∧ (parseMethodDescriptor M_X7_clearsForm.1.desc).map (fun d => d.parameters.length) = some 0 := by decide +kernel
theorem pn_X7_clearsForm : plainName M_X7_clearsForm.1.cls = true := by decide +kernel
theorem nm_X7_comes : M_X7_comes.1.cls ≠ "java/lang/invoke/MethodHandle" ∧ M_X7_comes.1.cls ≠ "java/lang/invoke/VarHandle" ∧ (parseMethodDescriptor M_X7_comes.1.desc).map (fun d => d.parameters.length) = some 1 := by decide +kernel
theorem pn_X7_comes : plainName M_X7_comes.1.cls = true := by decide +kernel
theorem nm_X7_common : M_X7_common.1.cls ≠ "java/lang/invoke/MethodHandle" ∧ M_X7_common.1.cls ≠ "java/lang/invoke/VarHandle" ∧ (parseMethodDescriptor M_X7_common.1.desc).map (fun d => d.parameters.length) = some 2 := by decide +kernel
theorem pn_X7_common : plainName M_X7_common.1.cls = true := by decide +kernel
theorem nm_X7_compared : M_X7_compared.1.cls ≠ "java/lang/invoke/MethodHandle" ∧ M_X7_compared.1.cls ≠ "java/lang/invoke/VarHandle" ∧ (parseMethodDescriptor M_X7_compared.1.desc).map (fun d => d.parameters.length) = some 4 := by decide +kernel
theorem pn_X7_compared : plainName M_X7_compared.1.cls = true := by decide +kernel
theorem nm_X7_count : M_X7_count.1.cls ≠ "java/lang/invoke/MethodHandle" ∧ M_X7_count.1.cls ≠ "java/lang/invoke/VarHandle" ∧ (parseMethodDescriptor M_X7_count.1.desc).map (fun d => d.parameters.length) = some 1 := by decide +kernel
theorem pn_X7_count : plainName M_X7_count.1.cls = true := by decide +kernel
theorem nm_X7_couples : M_X7_couples.1.cls ≠ "java/lang/invoke/MethodHandle" ∧ M_X7_couples.1.cls ≠ "java/lang/invoke/VarHandle" ∧ (parseMethodDescriptor M_X7_couples.1.desc).map (fun d => d.parameters.length) = some 0 := by decide +kernel
theorem pn_X7_couples : plainName M_X7_couples.1.cls = true := by decide +kernel
theorem nm_X7_crew : M_X7_crew.1.cls ≠ "java/lang/invoke/MethodHandle" ∧ M_X7_crew.1.cls ≠ "java/lang/invoke/VarHandle" ∧ (parseMethodDescriptor M_X7_crew.1.desc).map (fun d => d.parameters.length) = some 1 := by decide +kernel
theorem pn_X7_crew : plainName M_X7_crew.1.cls = true := by decide +kernel
theorem nm_X7_crewTold : M_X7_crewTold.1.cls ≠ "java/lang/invoke/MethodHandle" ∧ M_X7_crewTold.1.cls ≠ "java/lang/invoke/VarHandle" ∧ (parseMethodDescriptor M_X7_crewTold.1.desc).map (fun d => d.parameters.length) = some 2 := by decide +kernel
theorem pn_X7_crewTold : plainName M_X7_crewTold.1.cls = true := by decide +kernel
theorem nm_X7_difference : M_X7_difference.1.cls ≠ "java/lang/invoke/MethodHandle" ∧ M_X7_difference.1.cls ≠ "java/lang/invoke/VarHandle" ∧ (parseMethodDescriptor M_X7_difference.1.desc).map (fun d => d.parameters.length) = some 2 := by decide +kernel
theorem pn_X7_difference : plainName M_X7_difference.1.cls = true := by decide +kernel
theorem nm_X7_difference_ : M_X7_difference_.1.cls ≠ "java/lang/invoke/MethodHandle" ∧ M_X7_difference_.1.cls ≠ "java/lang/invoke/VarHandle" ∧ (parseMethodDescriptor M_X7_difference_.1.desc).map (fun d => d.parameters.length) = some 3 := by decide +kernel
theorem pn_X7_difference_ : plainName M_X7_difference_.1.cls = true := by decide +kernel
theorem nm_X7_doubt : M_X7_doubt.1.cls ≠ "java/lang/invoke/MethodHandle" ∧ M_X7_doubt.1.cls ≠ "java/lang/invoke/VarHandle" ∧ (parseMethodDescriptor M_X7_doubt.1.desc).map (fun d => d.parameters.length) = some 0 := by decide +kernel
theorem pn_X7_doubt : plainName M_X7_doubt.1.cls = true := by decide +kernel
theorem nm_X7_doubt_ : M_X7_doubt_.1.cls ≠ "java/lang/invoke/MethodHandle" ∧ M_X7_doubt_.1.cls ≠ "java/lang/invoke/VarHandle" ∧ (parseMethodDescriptor M_X7_doubt_.1.desc).map (fun d => d.parameters.length) = some 3 := by decide +kernel
theorem pn_X7_doubt_ : plainName M_X7_doubt_.1.cls = true := by decide +kernel
theorem nm_X7_drift : M_X7_drift.1.cls ≠ "java/lang/invoke/MethodHandle" ∧ M_X7_drift.1.cls ≠ "java/lang/invoke/VarHandle" ∧ (parseMethodDescriptor M_X7_drift.1.desc).map (fun d => d.parameters.length) = some 1 := by decide +kernel
theorem pn_X7_drift : plainName M_X7_drift.1.cls = true := by decide +kernel
theorem nm_X7_end : M_X7_end.1.cls ≠ "java/lang/invoke/MethodHandle" ∧ M_X7_end.1.cls ≠ "java/lang/invoke/VarHandle" ∧ (parseMethodDescriptor M_X7_end.1.desc).map (fun d => d.parameters.length) = some 1 := by decide +kernel
theorem pn_X7_end : plainName M_X7_end.1.cls = true := by decide +kernel
theorem nm_X7_even : M_X7_even.1.cls ≠ "java/lang/invoke/MethodHandle" ∧ M_X7_even.1.cls ≠ "java/lang/invoke/VarHandle" ∧ (parseMethodDescriptor M_X7_even.1.desc).map (fun d => d.parameters.length) = some 2 := by decide +kernel
theorem pn_X7_even : plainName M_X7_even.1.cls = true := by decide +kernel
theorem nm_X7_fails : M_X7_fails.1.cls ≠ "java/lang/invoke/MethodHandle" ∧ M_X7_fails.1.cls ≠ "java/lang/invoke/VarHandle" ∧ (parseMethodDescriptor M_X7_fails.1.desc).map (fun d => d.parameters.length) = some 2 := by decide +kernel
theorem pn_X7_fails : plainName M_X7_fails.1.cls = true := by decide +kernel
theorem nm_X7_fault : M_X7_fault.1.cls ≠ "java/lang/invoke/MethodHandle" ∧ M_X7_fault.1.cls ≠ "java/lang/invoke/VarHandle" ∧ (parseMethodDescriptor M_X7_fault.1.desc).map (fun d => d.parameters.length) = some 1 := by decide +kernel
theorem pn_X7_fault : plainName M_X7_fault.1.cls = true := by decide +kernel
theorem nm_X7_feed : M_X7_feed.1.cls ≠ "java/lang/invoke/MethodHandle" ∧ M_X7_feed.1.cls ≠ "java/lang/invoke/VarHandle" ∧ (parseMethodDescriptor M_X7_feed.1.desc).map (fun d => d.parameters.length) = some 5 := by decide +kernel
theorem pn_X7_feed : plainName M_X7_feed.1.cls = true := by decide +kernel
theorem nm_X7_fewest : M_X7_fewest.1.cls ≠ "java/lang/invoke/MethodHandle" ∧ M_X7_fewest.1.cls ≠ "java/lang/invoke/VarHandle" ∧ (parseMethodDescriptor M_X7_fewest.1.desc).map (fun d => d.parameters.length) = some 1 := by decide +kernel
theorem pn_X7_fewest : plainName M_X7_fewest.1.cls = true := by decide +kernel
theorem nm_X7_formOf : M_X7_formOf.1.cls ≠ "java/lang/invoke/MethodHandle" ∧ M_X7_formOf.1.cls ≠ "java/lang/invoke/VarHandle" ∧ (parseMethodDescriptor M_X7_formOf.1.desc).map (fun d => d.parameters.length) = some 3 := by decide +kernel
theorem pn_X7_formOf : plainName M_X7_formOf.1.cls = true := by decide +kernel
theorem nm_X7_goes : M_X7_goes.1.cls ≠ "java/lang/invoke/MethodHandle" ∧ M_X7_goes.1.cls ≠ "java/lang/invoke/VarHandle" ∧ (parseMethodDescriptor M_X7_goes.1.desc).map (fun d => d.parameters.length) = some 1 := by decide +kernel
theorem pn_X7_goes : plainName M_X7_goes.1.cls = true := by decide +kernel
theorem nm_X7_groupOf : M_X7_groupOf.1.cls ≠ "java/lang/invoke/MethodHandle" ∧ M_X7_groupOf.1.cls ≠ "java/lang/invoke/VarHandle" ∧ (parseMethodDescriptor M_X7_groupOf.1.desc).map (fun d => d.parameters.length) = some 1 := by decide +kernel
theorem pn_X7_groupOf : plainName M_X7_groupOf.1.cls = true := by decide +kernel
theorem nm_X7_groups : M_X7_groups.1.cls ≠ "java/lang/invoke/MethodHandle" ∧ M_X7_groups.1.cls ≠ "java/lang/invoke/VarHandle" ∧ (parseMethodDescriptor M_X7_groups.1.desc).map (fun d => d.parameters.length) = some 0 := by decide +kernel
theorem pn_X7_groups : plainName M_X7_groups.1.cls = true := by decide +kernel
theorem nm_X7_guess : M_X7_guess.1.cls ≠ "java/lang/invoke/MethodHandle" ∧ M_X7_guess.1.cls ≠ "java/lang/invoke/VarHandle" ∧ (parseMethodDescriptor M_X7_guess.1.desc).map (fun d => d.parameters.length) = some 5 := by decide +kernel
theorem pn_X7_guess : plainName M_X7_guess.1.cls = true := by decide +kernel
theorem nm_X7_has : M_X7_has.1.cls ≠ "java/lang/invoke/MethodHandle" ∧ M_X7_has.1.cls ≠ "java/lang/invoke/VarHandle" ∧ (parseMethodDescriptor M_X7_has.1.desc).map (fun d => d.parameters.length) = some 2 := by decide +kernel
theorem pn_X7_has : plainName M_X7_has.1.cls = true := by decide +kernel
theorem nm_X7_here : M_X7_here.1.cls ≠ "java/lang/invoke/MethodHandle" ∧ M_X7_here.1.cls ≠ "java/lang/invoke/VarHandle" ∧ (parseMethodDescriptor M_X7_here.1.desc).map (fun d => d.parameters.length) = some 0 := by decide +kernel
theorem pn_X7_here : plainName M_X7_here.1.cls = true := by decide +kernel
theorem nm_X7_isAhead : M_X7_isAhead.1.cls ≠ "java/lang/invoke/MethodHandle" ∧ M_X7_isAhead.1.cls ≠ "java/lang/invoke/VarHandle" ∧ (parseMethodDescriptor M_X7_isAhead.1.desc).map (fun d => d.parameters.length) = some 2 := by decide +kernel
theorem pn_X7_isAhead : plainName M_X7_isAhead.1.cls = true := by decide +kernel
theorem nm_X7_isDigitAt : M_X7_isDigitAt.1.cls ≠ "java/lang/invoke/MethodHandle" ∧ M_X7_isDigitAt.1.cls ≠ "java/lang/invoke/VarHandle" ∧ (parseMethodDescriptor M_X7_isDigitAt.1.desc).map (fun d => d.parameters.length) = some 1 := by decide +kernel
theorem pn_X7_isDigitAt : plainName M_X7_isDigitAt.1.cls = true := by decide +kernel
theorem nm_X7_isIn : M_X7_isIn.1.cls ≠ "java/lang/invoke/MethodHandle" ∧ M_X7_isIn.1.cls ≠ "java/lang/invoke/VarHandle" ∧ (parseMethodDescriptor M_X7_isIn.1.desc).map (fun d => d.parameters.length) = some 3 := by decide +kernel
theorem pn_X7_isIn : plainName M_X7_isIn.1.cls = true := by decide +kernel
theorem nm_X7_isKnown : M_X7_isKnown.1.cls ≠ "java/lang/invoke/MethodHandle" ∧ M_X7_isKnown.1.cls ≠ "java/lang/invoke/VarHandle" ∧ (parseMethodDescriptor M_X7_isKnown.1.desc).map (fun d => d.parameters.length) = some 0 := by decide +kernel
theorem pn_X7_isKnown : plainName M_X7_isKnown.1.cls = true := by decide +kernel
theorem nm_X7_isMatch : M_X7_isMatch.1.cls ≠ "java/lang/invoke/MethodHandle" ∧ M_X7_isMatch.1.cls ≠ "java/lang/invoke/VarHandle" ∧ (parseMethodDescriptor M_X7_isMatch.1.desc).map (fun d => d.parameters.length) = some 3 := by decide +kernel
theorem pn_X7_isMatch : plainName M_X7_isMatch.1.cls = true := by decide +kernel
theorem nm_X7_isNumber : M_X7_isNumber.1.cls ≠ "java/lang/invoke/MethodHandle" ∧ M_X7_isNumber.1.cls ≠ "java/lang/invoke/VarHandle" ∧ (parseMethodDescriptor M_X7_isNumber.1.desc).map (fun d => d.parameters.length) = some 0 := by decide +kernel
theorem pn_X7_isNumber : plainName M_X7_isNumber.1.cls = true := by decide +kernel
theorem nm_X7_isRower : M_X7_isRower.1.cls ≠ "java/lang/invoke/MethodHandle" ∧ M_X7_isRower.1.cls ≠ "java/lang/invoke/VarHandle" ∧ (parseMethodDescriptor M_X7_isRower.1.desc).map (fun d => d.parameters.length) = some 1 := by decide +kernel
theorem pn_X7_isRower : plainName M_X7_isRower.1.cls = true := by decide +kernel
theorem nm_X7_isSwap : M_X7_isSwap.1.cls ≠ "java/lang/invoke/MethodHandle" ∧ M_X7_isSwap.1.cls ≠ "java/lang/invoke/VarHandle" ∧ (parseMethodDescriptor M_X7_isSwap.1.desc).map (fun d => d.parameters.length) = some 4 := by decide +kernel
theorem pn_X7_isSwap : plainName M_X7_isSwap.1.cls = true := by decide +kernel
theorem nm_X7_lays : M_X7_lays.1.cls ≠ "java/lang/invoke/MethodHandle" ∧ M_X7_lays.1.cls ≠ "java/lang/invoke/VarHandle" ∧ (parseMethodDescriptor M_X7_lays.1.desc).map (fun d => d.parameters.length) = some 0 := by decide +kernel
theorem pn_X7_lays : plainName M_X7_lays.1.cls = true := by decide +kernel
theorem nm_X7_letters : M_X7_letters.1.cls ≠ "java/lang/invoke/MethodHandle" ∧ M_X7_letters.1.cls ≠ "java/lang/invoke/VarHandle" ∧ (parseMethodDescriptor M_X7_letters.1.desc).map (fun d => d.parameters.length) = some 5 := by decide +kernel
theorem pn_X7_letters : plainName M_X7_letters.1.cls = true := by decide +kernel
theorem nm_X7_limit : M_X7_limit.1.cls ≠ "java/lang/invoke/MethodHandle" ∧ M_X7_limit.1.cls ≠ "java/lang/invoke/VarHandle" ∧ (parseMethodDescriptor M_X7_limit.1.desc).map (fun d => d.parameters.length) = some 1 := by decide +kernel
theorem pn_X7_limit : plainName M_X7_limit.1.cls = true := by decide +kernel
theorem nm_X7_matched : M_X7_matched.1.cls ≠ "java/lang/invoke/MethodHandle" ∧ M_X7_matched.1.cls ≠ "java/lang/invoke/VarHandle" ∧ (parseMethodDescriptor M_X7_matched.1.desc).map (fun d => d.parameters.length) = some 2 := by decide +kernel
theorem pn_X7_matched : plainName M_X7_matched.1.cls = true := by decide +kernel
theorem nm_X7_more : M_X7_more.1.cls ≠ "java/lang/invoke/MethodHandle" ∧ M_X7_more.1.cls ≠ "java/lang/invoke/VarHandle" ∧ (parseMethodDescriptor M_X7_more.1.desc).map (fun d => d.parameters.length) = some 4 := by decide +kernel
theorem pn_X7_more : plainName M_X7_more.1.cls = true := by decide +kernel
theorem nm_X7_n : M_X7_n.1.cls ≠ "java/lang/invoke/MethodHandle" ∧ M_X7_n.1.cls ≠ "java/lang/invoke/VarHandle" ∧ (parseMethodDescriptor M_X7_n.1.desc).map (fun d => d.parameters.length) = some 0 := by decide +kernel
theorem pn_X7_n : plainName M_X7_n.1.cls = true := by decide +kernel
theorem nm_X7_next : M_X7_next.1.cls ≠ "java/lang/invoke/MethodHandle" ∧ M_X7_next.1.cls ≠ "java/lang/invoke/VarHandle" ∧ (parseMethodDescriptor M_X7_next.1.desc).map (fun d => d.parameters.length) = some 2 := by decide +kernel
theorem pn_X7_next : plainName M_X7_next.1.cls = true := by decide +kernel
theorem nm_X7_number : M_X7_number.1.cls ≠ "java/lang/invoke/MethodHandle" ∧ M_X7_number.1.cls ≠ "java/lang/invoke/VarHandle" ∧ (parseMethodDescriptor M_X7_number.1.desc).map (fun d => d.parameters.length) = some 0 := by decide +kernel
theorem pn_X7_number : plainName M_X7_number.1.cls = true := by decide +kernel
theorem nm_X7_numberIn : M_X7_numberIn.1.cls ≠ "java/lang/invoke/MethodHandle" ∧ M_X7_numberIn.1.cls ≠ "java/lang/invoke/VarHandle" ∧ (parseMethodDescriptor M_X7_numberIn.1.desc).map (fun d => d.parameters.length) = some 2 := by decide +kernel
theorem pn_X7_numberIn : plainName M_X7_numberIn.1.cls = true := by decide +kernel
theorem nm_X7_odd : M_X7_odd.1.cls ≠ "java/lang/invoke/MethodHandle" ∧ M_X7_odd.1.cls ≠ "java/lang/invoke/VarHandle" ∧ (parseMethodDescriptor M_X7_odd.1.desc).map (fun d => d.parameters.length) = some 1 := by decide +kernel
theorem pn_X7_odd : plainName M_X7_odd.1.cls = true := by decide +kernel
theorem nm_X7_of : M_X7_of.1.cls ≠ "java/lang/invoke/MethodHandle" ∧ M_X7_of.1.cls ≠ "java/lang/invoke/VarHandle" ∧ (parseMethodDescriptor M_X7_of.1.desc).map (fun d => d.parameters.length) = some 2 := by decide +kernel
theorem pn_X7_of : plainName M_X7_of.1.cls = true := by decide +kernel
theorem nm_X7_put : M_X7_put.1.cls ≠ "java/lang/invoke/MethodHandle" ∧ M_X7_put.1.cls ≠ "java/lang/invoke/VarHandle" ∧ (parseMethodDescriptor M_X7_put.1.desc).map (fun d => d.parameters.length) = some 1 := by decide +kernel
theorem pn_X7_put : plainName M_X7_put.1.cls = true := by decide +kernel
theorem nm_X7_race : M_X7_race.1.cls ≠ "java/lang/invoke/MethodHandle" ∧ M_X7_race.1.cls ≠ "java/lang/invoke/VarHandle" ∧ (parseMethodDescriptor M_X7_race.1.desc).map (fun d => d.parameters.length) = some 4 := by decide +kernel
theorem pn_X7_race : plainName M_X7_race.1.cls = true := by decide +kernel
theorem nm_X7_raceTold : M_X7_raceTold.1.cls ≠ "java/lang/invoke/MethodHandle" ∧ M_X7_raceTold.1.cls ≠ "java/lang/invoke/VarHandle" ∧ (parseMethodDescriptor M_X7_raceTold.1.desc).map (fun d => d.parameters.length) = some 0 := by decide +kernel
theorem pn_X7_raceTold : plainName M_X7_raceTold.1.cls = true := by decide +kernel
theorem nm_X7_raced : M_X7_raced.1.cls ≠ "java/lang/invoke/MethodHandle" ∧ M_X7_raced.1.cls ≠ "java/lang/invoke/VarHandle" ∧ (parseMethodDescriptor M_X7_raced.1.desc).map (fun d => d.parameters.length) = some 2 := by decide +kernel
theorem pn_X7_raced : plainName M_X7_raced.1.cls = true := by decide +kernel
theorem nm_X7_races : M_X7_races.1.cls ≠ "java/lang/invoke/MethodHandle" ∧ M_X7_races.1.cls ≠ "java/lang/invoke/VarHandle" ∧ (parseMethodDescriptor M_X7_races.1.desc).map (fun d => d.parameters.length) = some 0 := by decide +kernel
theorem pn_X7_races : plainName M_X7_races.1.cls = true := by decide +kernel
theorem nm_X7_rank : M_X7_rank.1.cls ≠ "java/lang/invoke/MethodHandle" ∧ M_X7_rank.1.cls ≠ "java/lang/invoke/VarHandle" ∧ (parseMethodDescriptor M_X7_rank.1.desc).map (fun d => d.parameters.length) = some 2 := by decide +kernel
theorem pn_X7_rank : plainName M_X7_rank.1.cls = true := by decide +kernel
theorem nm_X7_rankNow : M_X7_rankNow.1.cls ≠ "java/lang/invoke/MethodHandle" ∧ M_X7_rankNow.1.cls ≠ "java/lang/invoke/VarHandle" ∧ (parseMethodDescriptor M_X7_rankNow.1.desc).map (fun d => d.parameters.length) = some 0 := by decide +kernel
theorem pn_X7_rankNow : plainName M_X7_rankNow.1.cls = true := by decide +kernel
theorem nm_X7_rest : M_X7_rest.1.cls ≠ "java/lang/invoke/MethodHandle" ∧ M_X7_rest.1.cls ≠ "java/lang/invoke/VarHandle" ∧ (parseMethodDescriptor M_X7_rest.1.desc).map (fun d => d.parameters.length) = some 2 := by decide +kernel
theorem pn_X7_rest : plainName M_X7_rest.1.cls = true := by decide +kernel
theorem nm_X7_restOf : M_X7_restOf.1.cls ≠ "java/lang/invoke/MethodHandle" ∧ M_X7_restOf.1.cls ≠ "java/lang/invoke/VarHandle" ∧ (parseMethodDescriptor M_X7_restOf.1.desc).map (fun d => d.parameters.length) = some 1 := by decide +kernel
theorem pn_X7_restOf : plainName M_X7_restOf.1.cls = true := by decide +kernel
theorem nm_X7_rowAt : M_X7_rowAt.1.cls ≠ "java/lang/invoke/MethodHandle" ∧ M_X7_rowAt.1.cls ≠ "java/lang/invoke/VarHandle" ∧ (parseMethodDescriptor M_X7_rowAt.1.desc).map (fun d => d.parameters.length) = some 2 := by decide +kernel
theorem pn_X7_rowAt : plainName M_X7_rowAt.1.cls = true := by decide +kernel
theorem nm_X7_rower : M_X7_rower.1.cls ≠ "java/lang/invoke/MethodHandle" ∧ M_X7_rower.1.cls ≠ "java/lang/invoke/VarHandle" ∧ (parseMethodDescriptor M_X7_rower.1.desc).map (fun d => d.parameters.length) = some 3 := by decide +kernel
theorem pn_X7_rower : plainName M_X7_rower.1.cls = true := by decide +kernel
theorem nm_X7_size : M_X7_size.1.cls ≠ "java/lang/invoke/MethodHandle" ∧ M_X7_size.1.cls ≠ "java/lang/invoke/VarHandle" ∧ (parseMethodDescriptor M_X7_size.1.desc).map (fun d => d.parameters.length) = some 1 := by decide +kernel
theorem pn_X7_size : plainName M_X7_size.1.cls = true := by decide +kernel
theorem nm_X7_solves : M_X7_solves.1.cls ≠ "java/lang/invoke/MethodHandle" ∧ M_X7_solves.1.cls ≠ "java/lang/invoke/VarHandle" ∧ (parseMethodDescriptor M_X7_solves.1.desc).map (fun d => d.parameters.length) = some 0 := by decide +kernel
theorem pn_X7_solves : plainName M_X7_solves.1.cls = true := by decide +kernel
theorem nm_X7_strike : M_X7_strike.1.cls ≠ "java/lang/invoke/MethodHandle" ∧ M_X7_strike.1.cls ≠ "java/lang/invoke/VarHandle" ∧ (parseMethodDescriptor M_X7_strike.1.desc).map (fun d => d.parameters.length) = some 1 := by decide +kernel
theorem pn_X7_strike : plainName M_X7_strike.1.cls = true := by decide +kernel
theorem nm_X7_suit : M_X7_suit.1.cls ≠ "java/lang/invoke/MethodHandle" ∧ M_X7_suit.1.cls ≠ "java/lang/invoke/VarHandle" ∧ (parseMethodDescriptor M_X7_suit.1.desc).map (fun d => d.parameters.length) = some 3 := by decide +kernel
theorem pn_X7_suit : plainName M_X7_suit.1.cls = true := by decide +kernel
theorem nm_X7_sum : M_X7_sum.1.cls ≠ "java/lang/invoke/MethodHandle" ∧ M_X7_sum.1.cls ≠ "java/lang/invoke/VarHandle" ∧ (parseMethodDescriptor M_X7_sum.1.desc).map (fun d => d.parameters.length) = some 1 := by decide +kernel
theorem pn_X7_sum : plainName M_X7_sum.1.cls = true := by decide +kernel
theorem nm_X7_sumsUp : M_X7_sumsUp.1.cls ≠ "java/lang/invoke/MethodHandle" ∧ M_X7_sumsUp.1.cls ≠ "java/lang/invoke/VarHandle" ∧ (parseMethodDescriptor M_X7_sumsUp.1.desc).map (fun d => d.parameters.length) = some 0 := by decide +kernel
theorem pn_X7_sumsUp : plainName M_X7_sumsUp.1.cls = true := by decide +kernel
theorem nm_X7_swaps : M_X7_swaps.1.cls ≠ "java/lang/invoke/MethodHandle" ∧ M_X7_swaps.1.cls ≠ "java/lang/invoke/VarHandle" ∧ (parseMethodDescriptor M_X7_swaps.1.desc).map (fun d => d.parameters.length) = some 2 := by decide +kernel
theorem pn_X7_swaps : plainName M_X7_swaps.1.cls = true := by decide +kernel
theorem nm_X7_swaps_ : M_X7_swaps_.1.cls ≠ "java/lang/invoke/MethodHandle" ∧ M_X7_swaps_.1.cls ≠ "java/lang/invoke/VarHandle" ∧ (parseMethodDescriptor M_X7_swaps_.1.desc).map (fun d => d.parameters.length) = some 3 := by decide +kernel
theorem pn_X7_swaps_ : plainName M_X7_swaps_.1.cls = true := by decide +kernel
theorem nm_X7_tell : M_X7_tell.1.cls ≠ "java/lang/invoke/MethodHandle" ∧ M_X7_tell.1.cls ≠ "java/lang/invoke/VarHandle" ∧ (parseMethodDescriptor M_X7_tell.1.desc).map (fun d => d.parameters.length) = some 0 := by decide +kernel
theorem pn_X7_tell : plainName M_X7_tell.1.cls = true := by decide +kernel
theorem nm_X7_thrown : M_X7_thrown.1.cls ≠ "java/lang/invoke/MethodHandle" ∧ M_X7_thrown.1.cls ≠ "java/lang/invoke/VarHandle" ∧ (parseMethodDescriptor M_X7_thrown.1.desc).map (fun d => d.parameters.length) = some 0 := by decide +kernel
theorem pn_X7_thrown : plainName M_X7_thrown.1.cls = true := by decide +kernel
theorem nm_X7_told : M_X7_told.1.cls ≠ "java/lang/invoke/MethodHandle" ∧ M_X7_told.1.cls ≠ "java/lang/invoke/VarHandle" ∧ (parseMethodDescriptor M_X7_told.1.desc).map (fun d => d.parameters.length) = some 0 := by decide +kernel
theorem pn_X7_told : plainName M_X7_told.1.cls = true := by decide +kernel
theorem nm_X7_told_ : M_X7_told_.1.cls ≠ "java/lang/invoke/MethodHandle" ∧ M_X7_told_.1.cls ≠ "java/lang/invoke/VarHandle" ∧ (parseMethodDescriptor M_X7_told_.1.desc).map (fun d => d.parameters.length) = some 3 := by decide +kernel
theorem pn_X7_told_ : plainName M_X7_told_.1.cls = true := by decide +kernel
theorem nm_X7_value : M_X7_value.1.cls ≠ "java/lang/invoke/MethodHandle" ∧ M_X7_value.1.cls ≠ "java/lang/invoke/VarHandle" ∧ (parseMethodDescriptor M_X7_value.1.desc).map (fun d => d.parameters.length) = some 0 := by decide +kernel
theorem pn_X7_value : plainName M_X7_value.1.cls = true := by decide +kernel
theorem nm_X7_word : M_X7_word.1.cls ≠ "java/lang/invoke/MethodHandle" ∧ M_X7_word.1.cls ≠ "java/lang/invoke/VarHandle" ∧ (parseMethodDescriptor M_X7_word.1.desc).map (fun d => d.parameters.length) = some 0 := by decide +kernel
theorem pn_X7_word : plainName M_X7_word.1.cls = true := by decide +kernel
end
section
/-! Math.abs; loops; what a method answers -/
def sr_AB (own : String) (idx : Nat) : Prop := Cond.methodLink own idx Lib.MathLoose.abs_long.x ∈ sr_ws ∧ Cond.static Lib.MathLoose.abs_long.x ∈ sr_ws ∧ Cond.initialized "java/lang/Math" ∈ sr_ws ∧ Cond.code Lib.MathLoose.abs_long.x Lib.MathLoose.abs_long.code 2 (some .long) ∈ sr_ws
def sr_abs (x : Int64) : Int64 := if 0 < x then x else -x
theorem wp_abs {g : sr_G} {M : sr_Md} {pc idx : Nat} {lv : List (Nat × Value)} {st : List Value} {D : sr_St} {Q : Option Value → sr_St → Prop} {x : Int64} (hd : decode M.2.1 pc = .ok (.invokestatic idx, 3)) (hw : sr_AB M.1.cls idx) (hf : 1 ≤ M.2.2.2.2.1) (hlo : (st.map fun v => v.category).sum + 13 ≤ M.2.2.2.2.2) (k : WP g M (pc + 3) lv (.long (sr_abs x) :: st) D Q) : WP g M pc lv (.long x :: st) D Q := by
  intro p e s m args below meth c H locs ls C hP hS hl
  have hts := C.2.2.2.2.2.2.1
  exact va_mabs_long C.1 C.2.1 (C.2.2.2.1.trans hl.1.symm) C.2.2.2.2.1 (hts _ hw.1) (hts _ hw.2.1) (hts _ hw.2.2.1) (hts _ hw.2.2.2) hf (by rw [sr_catsum]; exact hlo) (Nat.zero_le _) (Nat.zero_le _) hd (k p e s m args below meth c H locs ls C hP hS hl)
theorem wp_pick {g : sr_G} {M : sr_Md} {pc : Nat} {lv lv' : List (Nat × Value)} {st : List Value} {D : sr_St} {Q : Option Value → sr_St → Prop} (ks : List Nat) (h : ks.filterMap (fun k => lv[k]?) = lv') (k : WP g M pc lv' st D Q) : WP g M pc lv st D Q := by
  refine wp_sub (fun q hq => ?_) k
  rw [← h] at hq
  obtain ⟨i, -, hi⟩ := List.mem_filterMap.mp hq
  exact List.mem_of_getElem? hi
/-- a loop that counts up: what holds at i follows from what holds at i + 1 -/
theorem sr_up {P : Nat → Prop} {N : Nat} (hs : ∀ i, i ≤ N → (i < N → P (i + 1)) → P i) : ∀ i, i ≤ N → P i := by
  have h : ∀ k i, i + k = N → P i := by
    intro k
    induction k with
    | zero => intro i hi; exact hs i (by omega) (fun h => by omega)
    | succ k ih => intro i hi; exact hs i (by omega) (fun _ => ih (i + 1) (by omega))
  intro i hi
  exact h (N - i) i (by omega)
/-- the answer r0, the numbers D0 -/
def sr_ret (r0 : Option Value) (D0 : sr_St) : Option Value → sr_St → Prop := fun r D' => r = r0 ∧ D0 = D'
/-- a Bool as the machine has it -/
def sr_b (b : Bool) : Int32 := if b then 1 else 0
theorem sr_b01 (b : Bool) : sr_b b = 0 ∨ sr_b b = 1 := by cases b <;> simp [sr_b]
theorem sr_b_eq0 {b : Bool} : sr_b b = 0 ↔ b = false := by cases b <;> simp [sr_b]
theorem sr_b_ne0 {b : Bool} : ¬ sr_b b = 0 ↔ b = true := by cases b <;> simp [sr_b]
/-- whole rows -/
def sr_rI (D : sr_St) (o : Nat) (h : Nat → Int32) : sr_St := (fun p => if p = o then h else D.1 p, D.2)
def sr_rJ (D : sr_St) (o : Nat) (h : Nat → Int64) : sr_St := (D.1, fun p => if p = o then h else D.2 p)
theorem sr_sI_r (D : sr_St) (o k : Nat) (v : Int32) : sr_sI D o k v = sr_rI D o (upd (D.1 o) k v) := rfl
theorem sr_sJ_r (D : sr_St) (o k : Nat) (v : Int64) : sr_sJ D o k v = sr_rJ D o (vp_updL (D.2 o) k v) := rfl
theorem sr_rI_1 (D : sr_St) (o : Nat) (h : Nat → Int32) (p : Nat) : (sr_rI D o h).1 p = if p = o then h else D.1 p := rfl
theorem sr_rI_2 (D : sr_St) (o : Nat) (h : Nat → Int32) : (sr_rI D o h).2 = D.2 := rfl
theorem sr_rJ_1 (D : sr_St) (o : Nat) (h : Nat → Int64) : (sr_rJ D o h).1 = D.1 := rfl
theorem sr_rJ_2 (D : sr_St) (o : Nat) (h : Nat → Int64) (p : Nat) : (sr_rJ D o h).2 p = if p = o then h else D.2 p := rfl
theorem sr_rI_rI (D : sr_St) (o : Nat) (h h' : Nat → Int32) : sr_rI (sr_rI D o h) o h' = sr_rI D o h' := by
  unfold sr_rI
  congr 1
  funext p
  by_cases e : p = o <;> simp [e]
theorem sr_rJ_rJ (D : sr_St) (o : Nat) (h h' : Nat → Int64) : sr_rJ (sr_rJ D o h) o h' = sr_rJ D o h' := by
  unfold sr_rJ
  congr 1
  funext p
  by_cases e : p = o <;> simp [e]
theorem sr_rI_self (D : sr_St) (o : Nat) : sr_rI D o (D.1 o) = D := by
  obtain ⟨a, b⟩ := D
  unfold sr_rI
  congr 1
  funext p
  by_cases e : p = o <;> simp [e]
theorem sr_rJ_self (D : sr_St) (o : Nat) : sr_rJ D o (D.2 o) = D := by
  obtain ⟨a, b⟩ := D
  unfold sr_rJ
  congr 1
  funext p
  by_cases e : p = o <;> simp [e]
/-- filling a row from the left -/
def sr_fill {α : Type} (i : Nat) (h f : Nat → α) : Nat → α := fun k => if k < i then h k else f k
theorem sr_fill_0 {α : Type} (h f : Nat → α) : sr_fill 0 h f = f := by funext k; simp [sr_fill]
theorem sr_fill_I (i : Nat) (h f : Nat → Int32) : upd (sr_fill i h f) i (h i) = sr_fill (i + 1) h f := by
  funext k
  unfold upd sr_fill
  by_cases e : k = i
  · subst e; simp
  · by_cases e2 : k < i
    · simp [e, e2, Nat.lt_succ_of_lt e2]
    · simp [e, e2, show ¬ k < i + 1 by omega]
theorem sr_fill_J (i : Nat) (h f : Nat → Int64) : vp_updL (sr_fill i h f) i (h i) = sr_fill (i + 1) h f := by
  funext k
  unfold vp_updL sr_fill
  by_cases e : k = i
  · subst e; simp
  · by_cases e2 : k < i
    · simp [e, e2, Nat.lt_succ_of_lt e2]
    · simp [e, e2, show ¬ k < i + 1 by omega]
theorem sr_fillI (D : sr_St) (o i : Nat) (h f : Nat → Int32) : sr_sI (sr_rI D o (sr_fill i h f)) o i (h i) = sr_rI D o (sr_fill (i + 1) h f) := by
  rw [sr_sI_r, sr_rI_rI, sr_rI_1, if_pos rfl, sr_fill_I]
theorem sr_fillJ (D : sr_St) (o i : Nat) (h f : Nat → Int64) : sr_sJ (sr_rJ D o (sr_fill i h f)) o i (h i) = sr_rJ D o (sr_fill (i + 1) h f) := by
  rw [sr_sJ_r, sr_rJ_rJ, sr_rJ_2, if_pos rfl, sr_fill_J]
theorem ab_X2_16 : sr_AB RX2 16 := ⟨(sr_mt3 (List.mem_of_getElem? (i := 25) rfl) rfl), (sr_mt3 (List.mem_of_getElem? (i := 26) rfl) rfl), (sr_mt1 (List.mem_of_getElem? (i := 18) rfl) rfl), (sr_mt3 (List.mem_of_getElem? (i := 27) rfl) rfl)⟩
theorem ab_X6_294 : sr_AB RX6 294 := ⟨(sr_mt3 (List.mem_of_getElem? (i := 148) rfl) rfl), (sr_mt3 (List.mem_of_getElem? (i := 26) rfl) rfl), (sr_mt1 (List.mem_of_getElem? (i := 18) rfl) rfl), (sr_mt3 (List.mem_of_getElem? (i := 27) rfl) rfl)⟩
end
section
/-! more rows for numbers that are naturals -/
section WPn
variable {g : sr_G} {M : sr_Md} {pc : Nat} {lv lv' : List (Nat × Value)} {st : List Value} {D : sr_St} {Q : Option Value → sr_St → Prop}
theorem wp_idiv_n {a b : Nat} (hd : decode M.2.1 pc = .ok (.idiv, 1)) (ha : a < 2 ^ 31) (h0 : 0 < b) (hb : b < 2 ^ 31) (k : WP g M (pc + 1) lv (.int (nI (a / b)) :: st) D Q) : WP g M pc lv (.int (nI b) :: .int (nI a) :: st) D Q := wp_idiv hd (nI_ne0 h0 hb) (by rw [pk_div ha h0 hb]; exact k)
theorem wp_irem_n {a b : Nat} (hd : decode M.2.1 pc = .ok (.irem, 1)) (ha : a < 2 ^ 31) (h0 : 0 < b) (hb : b < 2 ^ 31) (k : WP g M (pc + 1) lv (.int (nI (a % b)) :: st) D Q) : WP g M pc lv (.int (nI b) :: .int (nI a) :: st) D Q := wp_irem hd (nI_ne0 h0 hb) (by rw [pk_rem ha h0 hb]; exact k)
theorem sr_z {a : Nat} (ha : a < 2 ^ 31) : nI a = 0 ↔ a = 0 := by rw [← nI_0]; exact nI_eq ha (by decide)
theorem wp_if_eq_n {a : Nat} {off : Int} {tgt : Nat} (hd : decode M.2.1 pc = .ok (.ifCond .eq off, 3)) (ht : (pc : Int) + off = (tgt : Int)) (ha : a < 2 ^ 31) (kt : a = 0 → WP g M tgt lv st D Q) (kf : ¬ a = 0 → WP g M (pc + 3) lv st D Q) : WP g M pc lv (.int (nI a) :: st) D Q := wp_if_eq hd ht (fun q => kt ((sr_z ha).mp q)) (fun q => kf (fun z => q ((sr_z ha).mpr z)))
theorem wp_if_ne_n {a : Nat} {off : Int} {tgt : Nat} (hd : decode M.2.1 pc = .ok (.ifCond .ne off, 3)) (ht : (pc : Int) + off = (tgt : Int)) (ha : a < 2 ^ 31) (kt : ¬ a = 0 → WP g M tgt lv st D Q) (kf : a = 0 → WP g M (pc + 3) lv st D Q) : WP g M pc lv (.int (nI a) :: st) D Q := wp_if_ne hd ht (fun q => kt (fun z => q ((sr_z ha).mpr z))) (fun q => kf ((sr_z ha).mp q))
theorem wp_if_le_n {a : Nat} {off : Int} {tgt : Nat} (hd : decode M.2.1 pc = .ok (.ifCond .le off, 3)) (ht : (pc : Int) + off = (tgt : Int)) (ha : a < 2 ^ 31) (kt : a = 0 → WP g M tgt lv st D Q) (kf : 0 < a → WP g M (pc + 3) lv st D Q) : WP g M pc lv (.int (nI a) :: st) D Q := wp_if_le hd ht (fun q => kt (Nat.eq_zero_of_not_pos (fun z => nI_nle z ha q))) (fun q => kf (Nat.pos_of_ne_zero (fun z => q (by rw [z]; decide))))
theorem wp_if_gt_n {a : Nat} {off : Int} {tgt : Nat} (hd : decode M.2.1 pc = .ok (.ifCond .gt off, 3)) (ht : (pc : Int) + off = (tgt : Int)) (ha : a < 2 ^ 31) (kt : 0 < a → WP g M tgt lv st D Q) (kf : a = 0 → WP g M (pc + 3) lv st D Q) : WP g M pc lv (.int (nI a) :: st) D Q := wp_if_gt hd ht (fun q => kt (Nat.pos_of_ne_zero (fun z => by subst z; exact absurd q (by decide)))) (fun q => kf (Nat.eq_zero_of_not_pos (fun z => q (by rw [← nI_0]; exact nI_lt z ha))))
theorem wp_if_lt_n {a : Nat} {off : Int} {tgt : Nat} (hd : decode M.2.1 pc = .ok (.ifCond .lt off, 3)) (ht : (pc : Int) + off = (tgt : Int)) (ha : a < 2 ^ 31) (kf : WP g M (pc + 3) lv st D Q) : WP g M pc lv (.int (nI a) :: st) D Q := wp_if_lt hd ht (fun q => absurd q (nI_pos ha)) (fun _ => kf)
theorem wp_if_ge_n {a : Nat} {off : Int} {tgt : Nat} (hd : decode M.2.1 pc = .ok (.ifCond .ge off, 3)) (ht : (pc : Int) + off = (tgt : Int)) (ha : a < 2 ^ 31) (kt : WP g M tgt lv st D Q) : WP g M pc lv (.int (nI a) :: st) D Q := wp_if_ge hd ht (fun _ => kt) (fun q => absurd (nI_pos' ha) q)
/-- a condition that is a Bool -/
theorem wp_if_eq_b {b : Bool} {off : Int} {tgt : Nat} (hd : decode M.2.1 pc = .ok (.ifCond .eq off, 3)) (ht : (pc : Int) + off = (tgt : Int)) (kt : b = false → WP g M tgt lv st D Q) (kf : b = true → WP g M (pc + 3) lv st D Q) : WP g M pc lv (.int (sr_b b) :: st) D Q := wp_if_eq hd ht (fun q => kt (sr_b_eq0.mp q)) (fun q => kf (sr_b_ne0.mp q))
theorem wp_if_ne_b {b : Bool} {off : Int} {tgt : Nat} (hd : decode M.2.1 pc = .ok (.ifCond .ne off, 3)) (ht : (pc : Int) + off = (tgt : Int)) (kt : b = true → WP g M tgt lv st D Q) (kf : b = false → WP g M (pc + 3) lv st D Q) : WP g M pc lv (.int (sr_b b) :: st) D Q := wp_if_ne hd ht (fun q => kt (sr_b_ne0.mp q)) (fun q => kf (sr_b_eq0.mp q))
end WPn
theorem sr_bt {b : Bool} (h : b = true) : some (Value.int (nI 1)) = some (Value.int (sr_b b)) := by subst h; rfl
theorem sr_bf {b : Bool} (h : b = false) : some (Value.int (nI 0)) = some (Value.int (sr_b b)) := by subst h; rfl
/-- how many bits -/
def sr_pc : Nat → Nat → Nat
  | 0, _ => 0
  | f + 1, w => w % 2 + sr_pc f (w / 2)
def sr_bits (w : Nat) : Nat := sr_pc 31 w
theorem sr_pc_0 : ∀ f, sr_pc f 0 = 0
  | 0 => rfl
  | f + 1 => by show 0 % 2 + sr_pc f (0 / 2) = 0; simp [sr_pc_0 f]
theorem sr_pc_le : ∀ f w, sr_pc f w ≤ f
  | 0, _ => Nat.le_refl _
  | f + 1, w => by show w % 2 + sr_pc f (w / 2) ≤ f + 1; have := sr_pc_le f (w / 2); omega
theorem sr_and (a b : Nat) : nI a &&& nI b = nI (a &&& b) := by
  apply Int32.toBitVec_inj.1
  show BitVec.ofNat 32 a &&& BitVec.ofNat 32 b = BitVec.ofNat 32 (a &&& b)
  apply BitVec.eq_of_getLsbD_eq
  intro i hi
  simp [hi]
theorem sr_or (a b : Nat) : nI a ||| nI b = nI (a ||| b) := by
  apply Int32.toBitVec_inj.1
  show BitVec.ofNat 32 a ||| BitVec.ofNat 32 b = BitVec.ofNat 32 (a ||| b)
  apply BitVec.eq_of_getLsbD_eq
  intro i hi
  simp [hi]
theorem sr_xor (a b : Nat) : nI a ^^^ nI b = nI (a ^^^ b) := by
  apply Int32.toBitVec_inj.1
  show BitVec.ofNat 32 a ^^^ BitVec.ofNat 32 b = BitVec.ofNat 32 (a ^^^ b)
  apply BitVec.eq_of_getLsbD_eq
  intro i hi
  simp [hi]
theorem sr_shc : ∀ n, n < 32 → ((nI n &&& 31).toBitVec.smod 32).toNat = n := by decide +kernel
theorem sr_shl {a i : Nat} (hi : i < 32) (h : a * 2 ^ i < 2 ^ 32) : nI a <<< (nI i &&& 31) = nI (a * 2 ^ i) := pk_shlN _ i (sr_shc i hi) h
theorem sr_shr {a i : Nat} (hi : i < 32) (h : a < 2 ^ 31) : nI a >>> (nI i &&& 31) = nI (a / 2 ^ i) := pk_shrN h _ i (sr_shc i hi)
theorem sr_pw {i : Nat} (h : i ≤ 6) : 2 ^ i ≤ 64 := by
  have := Nat.pow_le_pow_right (n := 2) (by decide) h
  exact this
section WPs
variable {g : sr_G} {M : sr_Md} {pc : Nat} {lv lv' : List (Nat × Value)} {st : List Value} {D : sr_St} {Q : Option Value → sr_St → Prop}
theorem wp_iand_n {a b : Nat} (hd : decode M.2.1 pc = .ok (.iand, 1)) (k : WP g M (pc + 1) lv (.int (nI (a &&& b)) :: st) D Q) : WP g M pc lv (.int (nI b) :: .int (nI a) :: st) D Q := wp_iand hd (by rw [sr_and]; exact k)
theorem wp_ior_n {a b : Nat} (hd : decode M.2.1 pc = .ok (.ior, 1)) (k : WP g M (pc + 1) lv (.int (nI (a ||| b)) :: st) D Q) : WP g M pc lv (.int (nI b) :: .int (nI a) :: st) D Q := wp_ior hd (by rw [sr_or]; exact k)
theorem wp_ixor_n {a b : Nat} (hd : decode M.2.1 pc = .ok (.ixor, 1)) (k : WP g M (pc + 1) lv (.int (nI (a ^^^ b)) :: st) D Q) : WP g M pc lv (.int (nI b) :: .int (nI a) :: st) D Q := wp_ixor hd (by rw [sr_xor]; exact k)
theorem wp_ishl_n {a i : Nat} (hd : decode M.2.1 pc = .ok (.ishl, 1)) (hi : i < 32) (h : a * 2 ^ i < 2 ^ 32) (k : WP g M (pc + 1) lv (.int (nI (a * 2 ^ i)) :: st) D Q) : WP g M pc lv (.int (nI i) :: .int (nI a) :: st) D Q := wp_ishl hd (by rw [sr_shl hi h]; exact k)
theorem wp_ishr_n {a i : Nat} (hd : decode M.2.1 pc = .ok (.ishr, 1)) (hi : i < 32) (h : a < 2 ^ 31) (k : WP g M (pc + 1) lv (.int (nI (a / 2 ^ i)) :: st) D Q) : WP g M pc lv (.int (nI i) :: .int (nI a) :: st) D Q := wp_ishr hd (by rw [sr_shr hi h]; exact k)
end WPs
theorem sr_pw1 {i : Nat} (h : i ≤ 6) : 1 * 2 ^ i < 2 ^ 32 := by have := sr_pw h; omega
end
section
theorem sr_in_t {v a b : Int32} (h1 : ¬ v < a) (h2 : ¬ b < v) : (decide (a ≤ v) && decide (v ≤ b)) = true := by
  simp only [Int32.lt_iff_toInt_lt] at h1 h2
  simp only [Bool.and_eq_true, decide_eq_true_eq, Int32.le_iff_toInt_le]
  omega
theorem sr_in_f1 {v a b : Int32} (h1 : v < a) : (decide (a ≤ v) && decide (v ≤ b)) = false := by
  simp only [Int32.lt_iff_toInt_lt] at h1
  simp only [Bool.and_eq_false_iff, decide_eq_false_iff_not, Int32.le_iff_toInt_le]
  omega
theorem sr_in_f2 {v a b : Int32} (h1 : b < v) : (decide (a ≤ v) && decide (v ≤ b)) = false := by
  simp only [Int32.lt_iff_toInt_lt] at h1
  simp only [Bool.and_eq_false_iff, decide_eq_false_iff_not, Int32.le_iff_toInt_le]
  omega
/-- v from least to most -/
def sr_isIn (v a b : Int32) : Bool := decide (a ≤ v) && decide (v ≤ b)
set_option maxHeartbeats 4000000 in
set_option maxRecDepth 100000 in
theorem c_X7_isIn (g : sr_G) (D : sr_St) (v a b : Int32)  : Con g M_X7_isIn [.int v, .int a, .int b] D (sr_ret (some (.int (sr_b (sr_isIn v a b)))) D) := by
  refine Con.of pn_X7_isIn (Nat.le_of_ble_eq_true rfl) ?_
  show WP g M_X7_isIn 0 [(0, .int v), (1, .int a), (2, .int b)] [] D _
  refine wp_iload_n dX7_isIn_0 rfl rfl ?_
  refine wp_iload_n dX7_isIn_1 rfl rfl ?_
  refine wp_icmp_lt (tgt := 14) dX7_isIn_2 (by decide) (fun c1 => ?_) (fun c1 => ?_)
  · refine wp_iconst (v := nI 0) dX7_isIn_14 rfl ?_
    refine wp_zret dX7_isIn_15 rfl (Or.inl rfl) ?_
    first | exact ⟨sr_bt (sr_in_t (by assumption) (by assumption)), rfl⟩ | exact ⟨sr_bf (sr_in_f1 (by assumption)), rfl⟩ | exact ⟨sr_bf (sr_in_f2 (by assumption)), rfl⟩
  · refine wp_iload_n dX7_isIn_5 rfl rfl ?_
    refine wp_iload_n dX7_isIn_6 rfl rfl ?_
    refine wp_icmp_gt (tgt := 14) dX7_isIn_7 (by decide) (fun c2 => ?_) (fun c2 => ?_)
    · refine wp_iconst (v := nI 0) dX7_isIn_14 rfl ?_
      refine wp_zret dX7_isIn_15 rfl (Or.inl rfl) ?_
      first | exact ⟨sr_bt (sr_in_t (by assumption) (by assumption)), rfl⟩ | exact ⟨sr_bf (sr_in_f1 (by assumption)), rfl⟩ | exact ⟨sr_bf (sr_in_f2 (by assumption)), rfl⟩
    · refine wp_iconst (v := nI 1) dX7_isIn_10 rfl ?_
      refine wp_goto (tgt := 15) dX7_isIn_11 (by decide) ?_
      refine wp_zret dX7_isIn_15 rfl (Or.inr rfl) ?_
      first | exact ⟨sr_bt (sr_in_t (by assumption) (by assumption)), rfl⟩ | exact ⟨sr_bf (sr_in_f1 (by assumption)), rfl⟩ | exact ⟨sr_bf (sr_in_f2 (by assumption)), rfl⟩
theorem sr_tb {w i : Nat} : w / 2 ^ i &&& 1 = 1 ↔ w.testBit i = true := by
  rw [Nat.testBit_eq_decide_div_mod_eq, Nat.and_one_is_mod]
  simp
set_option maxHeartbeats 4000000 in
set_option maxRecDepth 100000 in
theorem c_X7_has (g : sr_G) (D : sr_St) (w i : Nat) (hw : w < 2 ^ 31) (hi : i < 32)  : Con g M_X7_has [.int (nI w), .int (nI i)] D (sr_ret (some (.int (sr_b (w.testBit i)))) D) := by
  refine Con.of pn_X7_has (Nat.le_of_ble_eq_true rfl) ?_
  show WP g M_X7_has 0 [(0, .int (nI w)), (1, .int (nI i))] [] D _
  refine wp_iload_n dX7_has_0 rfl rfl ?_
  refine wp_iload_n dX7_has_1 rfl rfl ?_
  refine wp_ishr_n dX7_has_2 (by omega) (by omega) ?_
  refine wp_iconst (v := nI 1) dX7_has_3 rfl ?_
  refine wp_iand_n dX7_has_4 ?_
  refine wp_iconst (v := nI 1) dX7_has_5 rfl ?_
  refine wp_icmp_ne_n (tgt := 13) dX7_has_6 (by decide) (Nat.lt_of_le_of_lt (Nat.and_le_right) (by decide)) (by omega) (fun c3 => ?_) (fun c3 => ?_)
  · refine wp_iconst (v := nI 0) dX7_has_13 rfl ?_
    refine wp_zret dX7_has_14 rfl (Or.inl rfl) ?_
    first | exact ⟨sr_bt (sr_tb.mp (by assumption)), rfl⟩ | exact ⟨sr_bf (Bool.eq_false_iff.mpr (fun h => absurd (sr_tb.mpr h) (by assumption))), rfl⟩
  · refine wp_iconst (v := nI 1) dX7_has_9 rfl ?_
    refine wp_goto (tgt := 14) dX7_has_10 (by decide) ?_
    refine wp_zret dX7_has_14 rfl (Or.inr rfl) ?_
    first | exact ⟨sr_bt (sr_tb.mp (by assumption)), rfl⟩ | exact ⟨sr_bf (Bool.eq_false_iff.mpr (fun h => absurd (sr_tb.mpr h) (by assumption))), rfl⟩
set_option maxHeartbeats 4000000 in
set_option maxRecDepth 100000 in
theorem c_X7_bits (g : sr_G) (D : sr_St) (w : Nat) (hw : w < 2 ^ 31)  : Con g M_X7_bits [.int (nI w)] D (sr_ret (some (.int (nI (sr_bits w)))) D) := by
  refine Con.of pn_X7_bits (Nat.le_of_ble_eq_true rfl) ?_
  show WP g M_X7_bits 0 [(0, .int (nI w))] [] D _
  have hL : ∀ (f v n : Nat), v < 2 ^ f → n + sr_pc f v = sr_bits w → f ≤ 31 → WP g M_X7_bits 4 [(0, .int (nI w)), (1, .int (nI n)), (2, .int (nI v))] [] D (sr_ret (some (.int (nI (sr_bits w)))) D) := by
    intro f
    induction f with
    | zero =>
      intro v n hv hn _
      have hv0 : v = 0 := by omega
      subst hv0
      refine wp_iload_n dX7_bits_4 rfl rfl ?_
      refine wp_if_le_n (tgt := 21) dX7_bits_5 (by decide) (by omega) (fun c4 => ?_) (fun c4 => ?_)
      · refine wp_iload_n dX7_bits_21 rfl rfl ?_
        refine wp_iret dX7_bits_22 rfl ⟨?_, rfl⟩
        rw [← hn]; simp [sr_pc]
      · exact absurd c4 (by decide)
    | succ f ih =>
      intro v n hv hn hf
      have h31 : (2:Nat) ^ (f + 1) ≤ 2 ^ 31 := Nat.pow_le_pow_right (by decide) hf
      have hp : 2 ^ (f + 1) = 2 * 2 ^ f := by rw [Nat.pow_succ, Nat.mul_comm]
      refine wp_iload_n dX7_bits_4 rfl rfl ?_
      refine wp_if_le_n (tgt := 21) dX7_bits_5 (by decide) (by omega) (fun c5 => ?_) (fun c5 => ?_)
      · refine wp_iload_n dX7_bits_21 rfl rfl ?_
        refine wp_iret dX7_bits_22 rfl ⟨?_, rfl⟩
        rw [← hn, c5, sr_pc_0]; rfl
      · refine wp_iload_n dX7_bits_8 rfl rfl ?_
        refine wp_iload_n dX7_bits_9 rfl rfl ?_
        refine wp_iconst (v := nI 2) dX7_bits_10 rfl ?_
        refine wp_irem_n dX7_bits_11 (by omega) (by decide) (by decide) ?_
        refine wp_iadd_n dX7_bits_12 ?_
        refine wp_istore_n (lv' := [(0, .int (nI w)), (1, .int (nI (n + (v % 2)))), (2, .int (nI v))]) dX7_bits_13 rfl (by decide) rfl ?_
        refine wp_iload_n dX7_bits_14 rfl rfl ?_
        refine wp_iconst (v := nI 2) dX7_bits_15 rfl ?_
        refine wp_idiv_n dX7_bits_16 (by omega) (by decide) (by decide) ?_
        refine wp_istore_n (lv' := [(0, .int (nI w)), (1, .int (nI (n + (v % 2)))), (2, .int (nI (v / 2)))]) dX7_bits_17 rfl (by decide) rfl ?_
        refine wp_goto (tgt := 4) dX7_bits_18 (by decide) ?_
        exact ih _ _ (by omega) (by rw [← hn]; simp [sr_pc]; omega) (by omega)
  refine wp_iconst (v := nI 0) dX7_bits_0 rfl ?_
  refine wp_istore_n (lv' := [(0, .int (nI w)), (1, .int (nI 0))]) dX7_bits_1 rfl (by decide) rfl ?_
  refine wp_iload_n dX7_bits_2 rfl rfl ?_
  refine wp_istore_n (lv' := [(0, .int (nI w)), (1, .int (nI 0)), (2, .int (nI w))]) dX7_bits_3 rfl (by decide) rfl ?_
  exact hL 31 w 0 hw (by simp [sr_bits]) (by decide)
/-- the size of a long -/
def sr_size (v : Int64) : Int64 := if v < 0 then -v else v
set_option maxHeartbeats 4000000 in
set_option maxRecDepth 100000 in
theorem c_X7_size (g : sr_G) (D : sr_St) (v : Int64)  : Con g M_X7_size [.long v] D (sr_ret (some (.long (sr_size v))) D) := by
  refine Con.of pn_X7_size (Nat.le_of_ble_eq_true rfl) ?_
  show WP g M_X7_size 0 [(0, .long v)] [] D _
  refine wp_lload_n dX7_size_0 rfl rfl ?_
  refine wp_lconst (v := 0) dX7_size_1 rfl ?_
  refine wp_lcmp_ge (tgt := 11) dX7_size_2 dX7_size_3 (by decide) (fun c6 => ?_) (fun c6 => ?_)
  · refine wp_lload_n dX7_size_11 rfl rfl ?_
    refine wp_lret dX7_size_12 rfl ?_
    refine ⟨?_, rfl⟩
    simp only [Int64.lt_iff_toInt_lt, Int64.le_iff_toInt_le] at *
    unfold sr_size
    first | rw [if_pos (by rw [Int64.lt_iff_toInt_lt]; omega)] | rw [if_neg (by rw [Int64.lt_iff_toInt_lt]; omega)]
  · refine wp_lload_n dX7_size_6 rfl rfl ?_
    refine wp_lneg dX7_size_7 ?_
    refine wp_goto (tgt := 12) dX7_size_8 (by decide) ?_
    refine wp_lret dX7_size_12 rfl ?_
    refine ⟨?_, rfl⟩
    simp only [Int64.lt_iff_toInt_lt, Int64.le_iff_toInt_le] at *
    unfold sr_size
    first | rw [if_pos (by rw [Int64.lt_iff_toInt_lt]; omega)] | rw [if_neg (by rw [Int64.lt_iff_toInt_lt]; omega)]
set_option maxHeartbeats 4000000 in
set_option maxRecDepth 100000 in
theorem c_X7_n (g : sr_G) (D : sr_St)   : Con g M_X7_n [.ref 63] D (sr_ret (some (.int (D.1 64 0))) D) := by
  refine Con.of pn_X7_n (Nat.le_of_ble_eq_true rfl) ?_
  show WP g M_X7_n 0 [(0, .ref 63)] [] D _
  refine wp_aload_n dX7_n_0 rfl rfl ?_
  refine wp_getR (r := 64) dX7_n_1 fl_X7_7 (by decide) rfl rfl rfl ?_
  refine wp_iconst (v := nI 0) dX7_n_4 rfl ?_
  refine wp_iald dX7_n_5 (by decide) rfl (by decide) (by omega) ?_
  exact wp_iret dX7_n_6 rfl ⟨rfl, rfl⟩
set_option maxHeartbeats 4000000 in
set_option maxRecDepth 100000 in
theorem c_X7_races (g : sr_G) (D : sr_St)   : Con g M_X7_races [.ref 63] D (sr_ret (some (.int (D.1 64 2))) D) := by
  refine Con.of pn_X7_races (Nat.le_of_ble_eq_true rfl) ?_
  show WP g M_X7_races 0 [(0, .ref 63)] [] D _
  refine wp_aload_n dX7_races_0 rfl rfl ?_
  refine wp_getR (r := 64) dX7_races_1 fl_X7_7 (by decide) rfl rfl rfl ?_
  refine wp_iconst (v := nI 2) dX7_races_4 rfl ?_
  refine wp_iald dX7_races_5 (by decide) rfl (by decide) (by omega) ?_
  exact wp_iret dX7_races_6 rfl ⟨rfl, rfl⟩
set_option maxHeartbeats 4000000 in
set_option maxRecDepth 100000 in
theorem c_X7_thrown (g : sr_G) (D : sr_St)   : Con g M_X7_thrown [.ref 63] D (sr_ret (some (.int (D.1 63 0))) D) := by
  refine Con.of pn_X7_thrown (Nat.le_of_ble_eq_true rfl) ?_
  show WP g M_X7_thrown 0 [(0, .ref 63)] [] D _
  refine wp_aload_n dX7_thrown_0 rfl rfl ?_
  refine wp_getI dX7_thrown_1 fl_X7_43 (by decide) rfl rfl ?_
  exact wp_iret dX7_thrown_4 rfl ⟨rfl, rfl⟩
set_option maxHeartbeats 4000000 in
set_option maxRecDepth 100000 in
theorem c_X7_of (g : sr_G) (D : sr_St) (r k : Nat) (hr : r < 14) (hk : k < 4) (hrk : 3 + 4 * r + k < 60)  : Con g M_X7_of [.ref 63, .int (nI r), .int (nI k)] D (sr_ret (some (.int (D.1 64 (3 + 4 * r + k)))) D) := by
  refine Con.of pn_X7_of (Nat.le_of_ble_eq_true rfl) ?_
  show WP g M_X7_of 0 [(0, .ref 63), (1, .int (nI r)), (2, .int (nI k))] [] D _
  refine wp_aload_n dX7_of_0 rfl rfl ?_
  refine wp_getR (r := 64) dX7_of_1 fl_X7_7 (by decide) rfl rfl rfl ?_
  refine wp_iconst (v := nI 3) dX7_of_4 rfl ?_
  refine wp_iconst (v := nI 4) dX7_of_5 rfl ?_
  refine wp_iload_n dX7_of_6 rfl rfl ?_
  refine wp_imul_n dX7_of_7 ?_
  refine wp_iadd_n dX7_of_8 ?_
  refine wp_iload_n dX7_of_9 rfl rfl ?_
  refine wp_iadd_n dX7_of_10 ?_
  refine wp_iald dX7_of_11 (by decide) rfl (show _ < 60 by omega) (by omega) ?_
  exact wp_iret dX7_of_12 rfl ⟨rfl, rfl⟩
end
section
theorem c_X7_n_n (g : sr_G) (D : sr_St) (n : Nat) (h : D.1 64 0 = nI n) : Con g M_X7_n [.ref 63] D (sr_ret (some (.int (nI n))) D) := by rw [← h]; exact c_X7_n g D
theorem c_X7_races_n (g : sr_G) (D : sr_St) (n : Nat) (h : D.1 64 2 = nI n) : Con g M_X7_races [.ref 63] D (sr_ret (some (.int (nI n))) D) := by rw [← h]; exact c_X7_races g D
set_option maxHeartbeats 4000000 in
set_option maxRecDepth 100000 in
theorem c_X7_isRower (g : sr_G) (D : sr_St) (i : Int32)  : Con g M_X7_isRower [.ref 63, .int i] D (sr_ret (some (.int (sr_b (sr_isIn i (nI 0) (D.1 64 0 - nI 1))))) D) := by
  refine Con.of pn_X7_isRower (Nat.le_of_ble_eq_true rfl) ?_
  show WP g M_X7_isRower 0 [(0, .ref 63), (1, .int i)] [] D _
  refine wp_iload_n dX7_isRower_0 rfl rfl ?_
  refine wp_iconst (v := nI 0) dX7_isRower_1 rfl ?_
  refine wp_aload_n dX7_isRower_2 rfl rfl ?_
  refine wp_callV (M2 := M_X7_n) (n := 0) (As := []) (st := [.int (nI 0), .int i]) dX7_isRower_3 (c_X7_n g D) ca_X7_46 ⟨nm_X7_n, by decide, by decide⟩ rfl (by decide) rfl rfl rfl (Nat.le_of_ble_eq_true rfl) (fun r1 E2 q3 => ?_)
  obtain ⟨rfl, rfl⟩ := q3
  show WP g _ _ _ (.int (D.1 64 0) :: _) _ _
  refine wp_iconst (v := nI 1) dX7_isRower_6 rfl ?_
  refine wp_isub dX7_isRower_7 ?_
  refine wp_callS (M2 := M_X7_isIn) (n := 3) (As := [.int i, .int (nI 0), .int ((D.1 64 0) - (nI 1))]) (st := []) dX7_isRower_8 (c_X7_isIn g D i (nI 0) ((D.1 64 0) - (nI 1))) ca_X7_50 ⟨nm_X7_isIn, by decide, by decide⟩ rfl rfl (Nat.le_of_ble_eq_true rfl) (fun r4 E5 q6 => ?_)
  obtain ⟨rfl, rfl⟩ := q6
  show WP g _ _ _ (.int (sr_b (sr_isIn i (nI 0) ((D.1 64 0) - (nI 1)))) :: _) _ _
  refine wp_zret dX7_isRower_11 rfl (sr_b01 _) ?_
  exact ⟨rfl, rfl⟩
/-- crews that can be, of n rowers -/
def sr_crewN (n x y : Nat) : Bool := decide (0 < x) && decide (0 < y) && decide (x < 2 ^ n) && decide (y < 2 ^ n) && decide (x &&& y = 0) && decide (sr_bits x = sr_bits y) && decide (sr_bits x ≤ 3)
def sr_crew (n : Nat) (a b : Int32) : Bool := !decide (a < 0) && !decide (b < 0) && sr_crewN n a.toNatClampNeg b.toNatClampNeg
theorem sr_cases (a : Int32) : a < 0 ∨ ∃ x, x < 2 ^ 31 ∧ a = nI x := (Decidable.em (a < 0)).imp id (fun h => nI_of h)
theorem sr_crew_n {n x y : Nat} (hx : x < 2 ^ 31) (hy : y < 2 ^ 31) : sr_crew n (nI x) (nI y) = sr_crewN n x y := by
  simp [sr_crew, nI_clamp hx, nI_clamp hy, nI_pos hx, nI_pos hy]
theorem sr_crew_a {n : Nat} {a b : Int32} (h : a < 0) : sr_crew n a b = false := by simp [sr_crew, h]
theorem sr_crew_b {n : Nat} {a b : Int32} (h : b < 0) : sr_crew n a b = false := by simp [sr_crew, h]
theorem sr_bits_le (x : Nat) : sr_bits x ≤ 31 := sr_pc_le 31 x
theorem sr_neg_le {a : Int32} (h : a < 0) : a ≤ 0 := by rw [Int32.lt_iff_toInt_lt] at h; rw [Int32.le_iff_toInt_le]; omega
set_option maxHeartbeats 4000000 in
set_option maxRecDepth 100000 in
theorem c_X7_areCrews (g : sr_G) (D : sr_St) (n : Nat) (hn : D.1 64 0 = nI n) (hn6 : n ≤ 6) (a b : Int32)  : Con g M_X7_areCrews [.ref 63, .int a, .int b] D (sr_ret (some (.int (sr_b (sr_crew n a b)))) D) := by
  refine Con.of pn_X7_areCrews (Nat.le_of_ble_eq_true rfl) ?_
  show WP g M_X7_areCrews 0 [(0, .ref 63), (1, .int a), (2, .int b)] [] D _
  rcases sr_cases a with ha | ⟨x, hx, rfl⟩
  · refine wp_iload_n dX7_areCrews_0 rfl rfl ?_
    refine wp_if_le (tgt := 57) dX7_areCrews_1 (by decide) (fun c7 => ?_) (fun c7 => ?_)
    · refine wp_iconst (v := nI 0) dX7_areCrews_57 rfl ?_
      exact wp_zret dX7_areCrews_58 rfl (Or.inl rfl) ⟨sr_bf (sr_crew_a ha), rfl⟩
    · exact absurd (sr_neg_le ha) c7
  rcases sr_cases b with hb | ⟨y, hy, rfl⟩
  · refine wp_iload_n dX7_areCrews_0 rfl rfl ?_
    refine wp_if_le_n (tgt := 57) dX7_areCrews_1 (by decide) (by omega) (fun c8 => ?_) (fun c8 => ?_)
    · refine wp_iconst (v := nI 0) dX7_areCrews_57 rfl ?_
      exact wp_zret dX7_areCrews_58 rfl (Or.inl rfl) ⟨sr_bf (sr_crew_b hb), rfl⟩
    · refine wp_iload_n dX7_areCrews_4 rfl rfl ?_
      refine wp_if_le (tgt := 57) dX7_areCrews_5 (by decide) (fun c9 => ?_) (fun c9 => ?_)
      · refine wp_iconst (v := nI 0) dX7_areCrews_57 rfl ?_
        exact wp_zret dX7_areCrews_58 rfl (Or.inl rfl) ⟨sr_bf (sr_crew_b hb), rfl⟩
      · exact absurd (sr_neg_le hb) c9
  refine wp_iload_n dX7_areCrews_0 rfl rfl ?_
  refine wp_if_le_n (tgt := 57) dX7_areCrews_1 (by decide) (by omega) (fun c10 => ?_) (fun c10 => ?_)
  · refine wp_iconst (v := nI 0) dX7_areCrews_57 rfl ?_
    refine wp_zret dX7_areCrews_58 rfl (Or.inl rfl) ?_
    exact ⟨sr_bf (by rw [sr_crew_n hx hy]; simp only [sr_crewN, Bool.and_eq_false_iff, decide_eq_false_iff_not]; omega), rfl⟩
  · refine wp_iload_n dX7_areCrews_4 rfl rfl ?_
    refine wp_if_le_n (tgt := 57) dX7_areCrews_5 (by decide) (by omega) (fun c11 => ?_) (fun c11 => ?_)
    · refine wp_iconst (v := nI 0) dX7_areCrews_57 rfl ?_
      refine wp_zret dX7_areCrews_58 rfl (Or.inl rfl) ?_
      exact ⟨sr_bf (by rw [sr_crew_n hx hy]; simp only [sr_crewN, Bool.and_eq_false_iff, decide_eq_false_iff_not]; omega), rfl⟩
    · refine wp_iload_n dX7_areCrews_8 rfl rfl ?_
      refine wp_iconst (v := nI 1) dX7_areCrews_9 rfl ?_
      refine wp_aload_n dX7_areCrews_10 rfl rfl ?_
      refine wp_callV (M2 := M_X7_n) (n := 0) (As := []) (st := [.int (nI 1), .int (nI x)]) dX7_areCrews_11 (c_X7_n_n g D n hn) ca_X7_46 ⟨nm_X7_n, by decide, by decide⟩ rfl (by decide) rfl rfl rfl (Nat.le_of_ble_eq_true rfl) (fun r12 E13 q14 => ?_)
      obtain ⟨rfl, rfl⟩ := q14
      show WP g _ _ _ (.int (nI n) :: _) _ _
      refine wp_ishl_n dX7_areCrews_14 (by omega) (sr_pw1 hn6) ?_
      refine wp_icmp_ge_n (tgt := 57) dX7_areCrews_15 (by decide) (by omega) (by have := sr_pw hn6; omega) (fun c15 => ?_) (fun c15 => ?_)
      · refine wp_iconst (v := nI 0) dX7_areCrews_57 rfl ?_
        refine wp_zret dX7_areCrews_58 rfl (Or.inl rfl) ?_
        exact ⟨sr_bf (by rw [sr_crew_n hx hy]; simp only [sr_crewN, Bool.and_eq_false_iff, decide_eq_false_iff_not]; omega), rfl⟩
      · refine wp_iload_n dX7_areCrews_18 rfl rfl ?_
        refine wp_iconst (v := nI 1) dX7_areCrews_19 rfl ?_
        refine wp_aload_n dX7_areCrews_20 rfl rfl ?_
        refine wp_callV (M2 := M_X7_n) (n := 0) (As := []) (st := [.int (nI 1), .int (nI y)]) dX7_areCrews_21 (c_X7_n_n g D n hn) ca_X7_46 ⟨nm_X7_n, by decide, by decide⟩ rfl (by decide) rfl rfl rfl (Nat.le_of_ble_eq_true rfl) (fun r16 E17 q18 => ?_)
        obtain ⟨rfl, rfl⟩ := q18
        show WP g _ _ _ (.int (nI n) :: _) _ _
        refine wp_ishl_n dX7_areCrews_24 (by omega) (sr_pw1 hn6) ?_
        refine wp_icmp_ge_n (tgt := 57) dX7_areCrews_25 (by decide) (by omega) (by have := sr_pw hn6; omega) (fun c19 => ?_) (fun c19 => ?_)
        · refine wp_iconst (v := nI 0) dX7_areCrews_57 rfl ?_
          refine wp_zret dX7_areCrews_58 rfl (Or.inl rfl) ?_
          exact ⟨sr_bf (by rw [sr_crew_n hx hy]; simp only [sr_crewN, Bool.and_eq_false_iff, decide_eq_false_iff_not]; omega), rfl⟩
        · refine wp_iload_n dX7_areCrews_28 rfl rfl ?_
          refine wp_iload_n dX7_areCrews_29 rfl rfl ?_
          refine wp_iand_n dX7_areCrews_30 ?_
          refine wp_if_ne_n (tgt := 57) dX7_areCrews_31 (by decide) (Nat.lt_of_le_of_lt Nat.and_le_left hx) (fun c20 => ?_) (fun c20 => ?_)
          · refine wp_iconst (v := nI 0) dX7_areCrews_57 rfl ?_
            refine wp_zret dX7_areCrews_58 rfl (Or.inl rfl) ?_
            exact ⟨sr_bf (by rw [sr_crew_n hx hy]; simp only [sr_crewN, Bool.and_eq_false_iff, decide_eq_false_iff_not]; omega), rfl⟩
          · refine wp_iload_n dX7_areCrews_34 rfl rfl ?_
            refine wp_callS (M2 := M_X7_bits) (n := 1) (As := [.int (nI x)]) (st := []) dX7_areCrews_35 (c_X7_bits g D x (by omega)) ca_X7_54 ⟨nm_X7_bits, by decide, by decide⟩ rfl rfl (Nat.le_of_ble_eq_true rfl) (fun r21 E22 q23 => ?_)
            obtain ⟨rfl, rfl⟩ := q23
            show WP g _ _ _ (.int (nI (sr_bits x)) :: _) _ _
            refine wp_iload_n dX7_areCrews_38 rfl rfl ?_
            refine wp_callS (M2 := M_X7_bits) (n := 1) (As := [.int (nI y)]) (st := [.int (nI (sr_bits x))]) dX7_areCrews_39 (c_X7_bits g D y (by omega)) ca_X7_54 ⟨nm_X7_bits, by decide, by decide⟩ rfl rfl (Nat.le_of_ble_eq_true rfl) (fun r24 E25 q26 => ?_)
            obtain ⟨rfl, rfl⟩ := q26
            show WP g _ _ _ (.int (nI (sr_bits y)) :: _) _ _
            refine wp_icmp_ne_n (tgt := 57) dX7_areCrews_42 (by decide) (by have := sr_bits_le x; omega) (by have := sr_bits_le y; omega) (fun c27 => ?_) (fun c27 => ?_)
            · refine wp_iconst (v := nI 0) dX7_areCrews_57 rfl ?_
              refine wp_zret dX7_areCrews_58 rfl (Or.inl rfl) ?_
              exact ⟨sr_bf (by rw [sr_crew_n hx hy]; simp only [sr_crewN, Bool.and_eq_false_iff, decide_eq_false_iff_not]; omega), rfl⟩
            · refine wp_iload_n dX7_areCrews_45 rfl rfl ?_
              refine wp_callS (M2 := M_X7_bits) (n := 1) (As := [.int (nI x)]) (st := []) dX7_areCrews_46 (c_X7_bits g D x (by omega)) ca_X7_54 ⟨nm_X7_bits, by decide, by decide⟩ rfl rfl (Nat.le_of_ble_eq_true rfl) (fun r28 E29 q30 => ?_)
              obtain ⟨rfl, rfl⟩ := q30
              show WP g _ _ _ (.int (nI (sr_bits x)) :: _) _ _
              refine wp_iconst (v := nI 3) dX7_areCrews_49 rfl ?_
              refine wp_icmp_gt_n (tgt := 57) dX7_areCrews_50 (by decide) (by have := sr_bits_le x; omega) (by omega) (fun c31 => ?_) (fun c31 => ?_)
              · refine wp_iconst (v := nI 0) dX7_areCrews_57 rfl ?_
                refine wp_zret dX7_areCrews_58 rfl (Or.inl rfl) ?_
                exact ⟨sr_bf (by rw [sr_crew_n hx hy]; simp only [sr_crewN, Bool.and_eq_false_iff, decide_eq_false_iff_not]; omega), rfl⟩
              · refine wp_iconst (v := nI 1) dX7_areCrews_53 rfl ?_
                refine wp_goto (tgt := 58) dX7_areCrews_54 (by decide) ?_
                refine wp_zret dX7_areCrews_58 rfl (Or.inr rfl) ?_
                exact ⟨sr_bt (by rw [sr_crew_n hx hy]; simp only [sr_crewN, Bool.and_eq_true, decide_eq_true_eq]; omega), rfl⟩
/-- one race more behind r races -/
def sr_more (f : Nat → Int32) (r : Nat) (a b m t : Int32) : Nat → Int32 := fun k => if k = 2 then nI (r + 1) else if k = 3 + 4 * r then a else if k = 3 + 4 * r + 1 then b else if k = 3 + 4 * r + 2 then m else if k = 3 + 4 * r + 3 then t else f k
set_option maxHeartbeats 4000000 in
set_option maxRecDepth 100000 in
theorem c_X7_more (g : sr_G) (D : sr_St) (r : Nat) (hr : D.1 64 2 = nI r) (hr12 : r < 12) (a b m t : Int32)  : Con g M_X7_more [.ref 63, .int a, .int b, .int m, .int t] D (sr_ret (none) (sr_rI D 64 (sr_more (D.1 64) r a b m t))) := by
  refine Con.of pn_X7_more (Nat.le_of_ble_eq_true rfl) ?_
  show WP g M_X7_more 0 [(0, .ref 63), (1, .int a), (2, .int b), (3, .int m), (4, .int t)] [] D _
  refine wp_iconst (v := nI 3) dX7_more_0 rfl ?_
  refine wp_iconst (v := nI 4) dX7_more_1 rfl ?_
  refine wp_aload_n dX7_more_2 rfl rfl ?_
  refine wp_callV (M2 := M_X7_races) (n := 0) (As := []) (st := [.int (nI 4), .int (nI 3)]) dX7_more_3 (c_X7_races_n g D r hr) ca_X7_58 ⟨nm_X7_races, by decide, by decide⟩ rfl (by decide) rfl rfl rfl (Nat.le_of_ble_eq_true rfl) (fun r32 E33 q34 => ?_)
  obtain ⟨rfl, rfl⟩ := q34
  show WP g _ _ _ (.int (nI r) :: _) _ _
  refine wp_imul_n dX7_more_6 ?_
  refine wp_iadd_n dX7_more_7 ?_
  refine wp_istore (lv' := [(0, .ref 63), (1, .int a), (2, .int b), (3, .int m), (4, .int t), (5, .int (nI (3 + (4 * r))))]) dX7_more_8 (by decide) rfl ?_
  refine wp_aload_n dX7_more_10 rfl rfl ?_
  refine wp_getR (r := 64) dX7_more_11 fl_X7_7 (by decide) rfl rfl rfl ?_
  refine wp_iload dX7_more_14 rfl ?_
  refine wp_iload_n dX7_more_16 rfl rfl ?_
  refine wp_iast dX7_more_17 (by decide) rfl (show _ < 60 by omega) (by omega) ?_
  refine wp_D (fun D35 eD35 => ?_)
  refine wp_aload_n dX7_more_18 rfl rfl ?_
  refine wp_getR (r := 64) dX7_more_19 fl_X7_7 (by decide) rfl rfl rfl ?_
  refine wp_iload dX7_more_22 rfl ?_
  refine wp_iconst (v := nI 1) dX7_more_24 rfl ?_
  refine wp_iadd_n dX7_more_25 ?_
  refine wp_iload_n dX7_more_26 rfl rfl ?_
  refine wp_iast dX7_more_27 (by decide) rfl (show _ < 60 by omega) (by omega) ?_
  refine wp_D (fun D36 eD36 => ?_)
  refine wp_aload_n dX7_more_28 rfl rfl ?_
  refine wp_getR (r := 64) dX7_more_29 fl_X7_7 (by decide) rfl rfl rfl ?_
  refine wp_iload dX7_more_32 rfl ?_
  refine wp_iconst (v := nI 2) dX7_more_34 rfl ?_
  refine wp_iadd_n dX7_more_35 ?_
  refine wp_iload_n dX7_more_36 rfl rfl ?_
  refine wp_iast dX7_more_37 (by decide) rfl (show _ < 60 by omega) (by omega) ?_
  refine wp_D (fun D37 eD37 => ?_)
  refine wp_aload_n dX7_more_38 rfl rfl ?_
  refine wp_getR (r := 64) dX7_more_39 fl_X7_7 (by decide) rfl rfl rfl ?_
  refine wp_iload dX7_more_42 rfl ?_
  refine wp_iconst (v := nI 3) dX7_more_44 rfl ?_
  refine wp_iadd_n dX7_more_45 ?_
  refine wp_iload dX7_more_46 rfl ?_
  refine wp_iast dX7_more_48 (by decide) rfl (show _ < 60 by omega) (by omega) ?_
  refine wp_D (fun D38 eD38 => ?_)
  refine wp_aload_n dX7_more_49 rfl rfl ?_
  refine wp_getR (r := 64) dX7_more_50 fl_X7_7 (by decide) rfl rfl rfl ?_
  refine wp_iconst (v := nI 2) dX7_more_53 rfl ?_
  refine wp_dup2 dX7_more_54 rfl rfl ?_
  refine wp_iald dX7_more_55 (by decide) rfl (by decide) (by omega) ?_
  rw [show D38.1 64 2 = nI r from by subst_vars; simp only [sr_sI_1]; (repeat rw [if_neg (by omega)]); exact hr]
  refine wp_iconst (v := nI 1) dX7_more_56 rfl ?_
  refine wp_iadd_n dX7_more_57 ?_
  refine wp_iast dX7_more_58 (by decide) rfl (by decide) (by omega) ?_
  refine wp_D (fun D39 eD39 => ?_)
  refine wp_vret dX7_more_59 rfl ?_
  refine ⟨rfl, ?_⟩
  subst_vars
  simp only [sr_sI_r, sr_rI_rI, sr_rI_1, if_true]
  congr 1
  funext k
  simp only [upd, sr_more]
  repeat' split
  all_goals first | rfl | omega
end
section
/-- the model's call begins: thrown is 0 -/
abbrev sr_th (D : sr_St) : sr_St := sr_sI D 63 0 (nI 0)
theorem sr_th_1 (D : sr_St) (o k : Nat) (h : ¬ (o = 63 ∧ k = 0)) : (sr_th D).1 o k = D.1 o k := by rw [sr_sI_1, if_neg h]
set_option maxHeartbeats 4000000 in
set_option maxRecDepth 100000 in
theorem c_X7_crew (g : sr_G) (D : sr_St) (v : Int32)  : Con g M_X7_crew [.ref 63, .int v] D (sr_ret (some (.int (sr_b (sr_isIn v (nI 0) (nI 6))))) (if sr_isIn v (nI 0) (nI 6) = true then sr_rI (sr_th D) 64 (upd (upd (D.1 64) 0 v) 2 (nI 0)) else sr_th D)) := by
  refine Con.of pn_X7_crew (Nat.le_of_ble_eq_true rfl) ?_
  show WP g M_X7_crew 0 [(0, .ref 63), (1, .int v)] [] D _
  refine wp_aload_n dX7_crew_0 rfl rfl ?_
  refine wp_iconst (v := nI 0) dX7_crew_1 rfl ?_
  refine wp_putI dX7_crew_2 fl_X7_43 (by decide) rfl rfl ?_
  refine wp_D (fun D1 eD1 => ?_)
  refine wp_iload_n dX7_crew_5 rfl rfl ?_
  refine wp_iconst (v := nI 0) dX7_crew_6 rfl ?_
  refine wp_bipush (v := nI 6) dX7_crew_7 rfl ?_
  refine wp_callS (M2 := M_X7_isIn) (n := 3) (As := [.int v, .int (nI 0), .int (nI 6)]) (st := []) dX7_crew_9 (c_X7_isIn g D1 v (nI 0) (nI 6)) ca_X7_50 ⟨nm_X7_isIn, by decide, by decide⟩ rfl rfl (Nat.le_of_ble_eq_true rfl) (fun r2 E3 q4 => ?_)
  obtain ⟨rfl, rfl⟩ := q4
  show WP g _ _ _ (.int (sr_b (sr_isIn v (nI 0) (nI 6))) :: _) _ _
  refine wp_if_ne_b (tgt := 17) dX7_crew_12 (by decide) (fun c5 => ?_) (fun c5 => ?_)
  · refine wp_aload_n dX7_crew_17 rfl rfl ?_
    refine wp_getR (r := 64) dX7_crew_18 fl_X7_7 (by decide) rfl rfl rfl ?_
    refine wp_iconst (v := nI 0) dX7_crew_21 rfl ?_
    refine wp_iload_n dX7_crew_22 rfl rfl ?_
    refine wp_iast dX7_crew_23 (by decide) rfl (by decide) (by omega) ?_
    refine wp_D (fun D6 eD6 => ?_)
    refine wp_aload_n dX7_crew_24 rfl rfl ?_
    refine wp_getR (r := 64) dX7_crew_25 fl_X7_7 (by decide) rfl rfl rfl ?_
    refine wp_iconst (v := nI 2) dX7_crew_28 rfl ?_
    refine wp_iconst (v := nI 0) dX7_crew_29 rfl ?_
    refine wp_iast dX7_crew_30 (by decide) rfl (by decide) (by omega) ?_
    refine wp_D (fun D7 eD7 => ?_)
    refine wp_iconst (v := nI 1) dX7_crew_31 rfl ?_
    refine wp_zret dX7_crew_32 rfl (Or.inr rfl) ?_
    subst eD1 eD6 eD7
    have hb : sr_isIn v (nI 0) (nI 6) = true := by simp_all [sr_sI_1]
    refine ⟨sr_bt hb, ?_⟩
    rw [if_pos hb]
    try simp [sr_th, sr_sI_r, sr_rI_rI, sr_rI_1]
  · refine wp_iconst (v := nI 0) dX7_crew_15 rfl ?_
    refine wp_zret dX7_crew_16 rfl (Or.inl rfl) ?_
    subst eD1
    have hb : sr_isIn v (nI 0) (nI 6) = false := by simp_all [sr_sI_1]
    refine ⟨sr_bf hb, ?_⟩
    rw [if_neg (by rw [hb]; decide)]
set_option maxHeartbeats 4000000 in
set_option maxRecDepth 100000 in
theorem c_X7_limit (g : sr_G) (D : sr_St) (v : Int32)  : Con g M_X7_limit [.ref 63, .int v] D (sr_ret (some (.int (sr_b (sr_isIn v (nI 1) (nI 99) && !decide (v = D.1 64 1))))) (if (sr_isIn v (nI 1) (nI 99) && !decide (v = D.1 64 1)) = true then sr_rI (sr_th D) 64 (upd (D.1 64) 1 v) else sr_th D)) := by
  refine Con.of pn_X7_limit (Nat.le_of_ble_eq_true rfl) ?_
  show WP g M_X7_limit 0 [(0, .ref 63), (1, .int v)] [] D _
  refine wp_aload_n dX7_limit_0 rfl rfl ?_
  refine wp_iconst (v := nI 0) dX7_limit_1 rfl ?_
  refine wp_putI dX7_limit_2 fl_X7_43 (by decide) rfl rfl ?_
  refine wp_D (fun D8 eD8 => ?_)
  refine wp_iload_n dX7_limit_5 rfl rfl ?_
  refine wp_iconst (v := nI 1) dX7_limit_6 rfl ?_
  refine wp_bipush (v := nI 99) dX7_limit_7 rfl ?_
  refine wp_callS (M2 := M_X7_isIn) (n := 3) (As := [.int v, .int (nI 1), .int (nI 99)]) (st := []) dX7_limit_9 (c_X7_isIn g D8 v (nI 1) (nI 99)) ca_X7_50 ⟨nm_X7_isIn, by decide, by decide⟩ rfl rfl (Nat.le_of_ble_eq_true rfl) (fun r9 E10 q11 => ?_)
  obtain ⟨rfl, rfl⟩ := q11
  show WP g _ _ _ (.int (sr_b (sr_isIn v (nI 1) (nI 99))) :: _) _ _
  refine wp_if_eq_b (tgt := 25) dX7_limit_12 (by decide) (fun c12 => ?_) (fun c12 => ?_)
  · refine wp_iconst (v := nI 0) dX7_limit_25 rfl ?_
    refine wp_zret dX7_limit_26 rfl (Or.inl rfl) ?_
    subst eD8
    have hb : (sr_isIn v (nI 1) (nI 99) && !decide (v = D.1 64 1)) = false := by simp_all [sr_sI_1]
    refine ⟨sr_bf hb, ?_⟩
    rw [if_neg (by rw [hb]; decide)]
  · refine wp_iload_n dX7_limit_15 rfl rfl ?_
    refine wp_aload_n dX7_limit_16 rfl rfl ?_
    refine wp_getR (r := 64) dX7_limit_17 fl_X7_7 (by decide) rfl rfl rfl ?_
    refine wp_iconst (v := nI 1) dX7_limit_20 rfl ?_
    refine wp_iald dX7_limit_21 (by decide) rfl (by decide) (by omega) ?_
    refine wp_icmp_ne (tgt := 27) dX7_limit_22 (by decide) (fun c13 => ?_) (fun c13 => ?_)
    · refine wp_aload_n dX7_limit_27 rfl rfl ?_
      refine wp_getR (r := 64) dX7_limit_28 fl_X7_7 (by decide) rfl rfl rfl ?_
      refine wp_iconst (v := nI 1) dX7_limit_31 rfl ?_
      refine wp_iload_n dX7_limit_32 rfl rfl ?_
      refine wp_iast dX7_limit_33 (by decide) rfl (by decide) (by omega) ?_
      refine wp_D (fun D14 eD14 => ?_)
      refine wp_iconst (v := nI 1) dX7_limit_34 rfl ?_
      refine wp_zret dX7_limit_35 rfl (Or.inr rfl) ?_
      subst eD8 eD14
      have hb : (sr_isIn v (nI 1) (nI 99) && !decide (v = D.1 64 1)) = true := by simp_all [sr_sI_1]
      refine ⟨sr_bt hb, ?_⟩
      rw [if_pos hb]
      try simp [sr_th, sr_sI_r, sr_rI_rI, sr_rI_1]
    · refine wp_iconst (v := nI 0) dX7_limit_25 rfl ?_
      refine wp_zret dX7_limit_26 rfl (Or.inl rfl) ?_
      subst eD8
      have hb : (sr_isIn v (nI 1) (nI 99) && !decide (v = D.1 64 1)) = false := by simp_all [sr_sI_1]
      refine ⟨sr_bf hb, ?_⟩
      rw [if_neg (by rw [hb]; decide)]
set_option maxHeartbeats 4000000 in
set_option maxRecDepth 100000 in
theorem c_X7_end (g : sr_G) (D : sr_St) (v : Int32)  : Con g M_X7_end [.ref 63, .int v] D (sr_ret (some (.int (sr_b (sr_isIn v (nI 0) (D.1 63 4))))) (if sr_isIn v (nI 0) (D.1 63 4) = true then sr_sI (sr_th D) 63 4 v else sr_th D)) := by
  refine Con.of pn_X7_end (Nat.le_of_ble_eq_true rfl) ?_
  show WP g M_X7_end 0 [(0, .ref 63), (1, .int v)] [] D _
  refine wp_aload_n dX7_end_0 rfl rfl ?_
  refine wp_iconst (v := nI 0) dX7_end_1 rfl ?_
  refine wp_putI dX7_end_2 fl_X7_43 (by decide) rfl rfl ?_
  refine wp_D (fun D15 eD15 => ?_)
  refine wp_iload_n dX7_end_5 rfl rfl ?_
  refine wp_iconst (v := nI 0) dX7_end_6 rfl ?_
  refine wp_aload_n dX7_end_7 rfl rfl ?_
  refine wp_getI dX7_end_8 fl_X7_77 (by decide) rfl rfl ?_
  refine wp_callS (M2 := M_X7_isIn) (n := 3) (As := [.int v, .int (nI 0), .int (D15.1 63 4)]) (st := []) dX7_end_11 (c_X7_isIn g D15 v (nI 0) (D15.1 63 4)) ca_X7_50 ⟨nm_X7_isIn, by decide, by decide⟩ rfl rfl (Nat.le_of_ble_eq_true rfl) (fun r16 E17 q18 => ?_)
  obtain ⟨rfl, rfl⟩ := q18
  show WP g _ _ _ (.int (sr_b (sr_isIn v (nI 0) (D15.1 63 4))) :: _) _ _
  refine wp_if_ne_b (tgt := 19) dX7_end_14 (by decide) (fun c19 => ?_) (fun c19 => ?_)
  · refine wp_aload_n dX7_end_19 rfl rfl ?_
    refine wp_iload_n dX7_end_20 rfl rfl ?_
    refine wp_putI dX7_end_21 fl_X7_77 (by decide) rfl rfl ?_
    refine wp_D (fun D20 eD20 => ?_)
    refine wp_iconst (v := nI 1) dX7_end_24 rfl ?_
    refine wp_zret dX7_end_25 rfl (Or.inr rfl) ?_
    subst eD15 eD20
    have hb : sr_isIn v (nI 0) (D.1 63 4) = true := by simp_all [sr_sI_1]
    refine ⟨sr_bt hb, ?_⟩
    rw [if_pos hb]
    try simp [sr_th, sr_sI_r, sr_rI_rI, sr_rI_1]
  · refine wp_iconst (v := nI 0) dX7_end_17 rfl ?_
    refine wp_zret dX7_end_18 rfl (Or.inl rfl) ?_
    subst eD15
    have hb : sr_isIn v (nI 0) (D.1 63 4) = false := by simp_all [sr_sI_1]
    refine ⟨sr_bf hb, ?_⟩
    rw [if_neg (by rw [hb]; decide)]
set_option maxHeartbeats 4000000 in
set_option maxRecDepth 100000 in
theorem c_X7_fault (g : sr_G) (D : sr_St) (v : Int32)  : Con g M_X7_fault [.ref 63, .int v] D (sr_ret (some (.int (if v = 0 then D.1 63 5 else if v = nI 1 then D.1 63 6 else -1))) (sr_th D)) := by
  refine Con.of pn_X7_fault (Nat.le_of_ble_eq_true rfl) ?_
  show WP g M_X7_fault 0 [(0, .ref 63), (1, .int v)] [] D _
  refine wp_aload_n dX7_fault_0 rfl rfl ?_
  refine wp_iconst (v := nI 0) dX7_fault_1 rfl ?_
  refine wp_putI dX7_fault_2 fl_X7_43 (by decide) rfl rfl ?_
  refine wp_D (fun D21 eD21 => ?_)
  refine wp_iload_n dX7_fault_5 rfl rfl ?_
  refine wp_if_ne (tgt := 16) dX7_fault_6 (by decide) (fun c22 => ?_) (fun c22 => ?_)
  · refine wp_iload_n dX7_fault_16 rfl rfl ?_
    refine wp_iconst (v := nI 1) dX7_fault_17 rfl ?_
    refine wp_icmp_ne (tgt := 28) dX7_fault_18 (by decide) (fun c23 => ?_) (fun c23 => ?_)
    · refine wp_iconst (v := -1) dX7_fault_28 rfl ?_
      refine wp_iret dX7_fault_29 rfl ?_
      subst eD21
      refine ⟨?_, rfl⟩
      simp_all [sr_sI_1]
    · refine wp_aload_n dX7_fault_21 rfl rfl ?_
      refine wp_getI dX7_fault_22 fl_X7_20 (by decide) rfl rfl ?_
      refine wp_goto (tgt := 29) dX7_fault_25 (by decide) ?_
      refine wp_iret dX7_fault_29 rfl ?_
      subst eD21
      refine ⟨?_, rfl⟩
      simp_all [sr_sI_1]
  · refine wp_aload_n dX7_fault_9 rfl rfl ?_
    refine wp_getI dX7_fault_10 fl_X7_89 (by decide) rfl rfl ?_
    refine wp_goto (tgt := 29) dX7_fault_13 (by decide) ?_
    refine wp_iret dX7_fault_29 rfl ?_
    subst eD21
    refine ⟨?_, rfl⟩
    simp_all [sr_sI_1]
/-- race q of r goes -/
def sr_goes (f : Nat → Int32) (q r : Nat) : Nat → Int32 := fun k => if k = 2 then nI (r - 1) else if 3 + 4 * q ≤ k ∧ k < 3 + 4 * (r - 1) then f (k + 4) else f k
def sr_goesTo (f : Nat → Int32) (q i : Nat) : Nat → Int32 := fun k => if 3 + 4 * q ≤ k ∧ k < i then f (k + 4) else f k
set_option maxHeartbeats 4000000 in
set_option maxRecDepth 100000 in
theorem c_X7_goes (g : sr_G) (D : sr_St) (q r : Nat) (hr : D.1 64 2 = nI r) (hq : q < r) (hr12 : r ≤ 12)  : Con g M_X7_goes [.ref 63, .int (nI q)] D (sr_ret (none) (sr_rI D 64 (sr_goes (D.1 64) q r))) := by
  refine Con.of pn_X7_goes (Nat.le_of_ble_eq_true rfl) ?_
  show WP g M_X7_goes 0 [(0, .ref 63), (1, .int (nI q))] [] D _
  have hL : ∀ i, i ≤ 3 + 4 * (r - 1) → 3 + 4 * q ≤ i → WP g M_X7_goes 6 [(0, .ref 63), (1, .int (nI q)), (2, .int (nI i))] [] (sr_rI D 64 (sr_goesTo (D.1 64) q i)) (sr_ret none (sr_rI D 64 (sr_goes (D.1 64) q r))) := by
    refine sr_up (fun i hi ih hqi => ?_)
    refine wp_D (fun E eE => ?_)
    have kr : E.1 64 2 = nI r := by rw [eE, sr_rI_1, if_pos rfl]; simp only [sr_goesTo]; rw [if_neg (by omega)]; exact hr
    refine wp_iload_n dX7_goes_6 rfl rfl ?_
    refine wp_iconst (v := nI 3) dX7_goes_7 rfl ?_
    refine wp_iconst (v := nI 4) dX7_goes_8 rfl ?_
    refine wp_aload_n dX7_goes_9 rfl rfl ?_
    refine wp_callV (M2 := M_X7_races) (n := 0) (As := []) (st := [.int (nI 4), .int (nI 3), .int (nI i)]) dX7_goes_10 (c_X7_races_n g E r kr) ca_X7_58 ⟨nm_X7_races, by decide, by decide⟩ rfl (by decide) rfl rfl rfl (Nat.le_of_ble_eq_true rfl) (fun r24 E25 q26 => ?_)
    obtain ⟨rfl, rfl⟩ := q26
    show WP g _ _ _ (.int (nI r) :: _) _ _
    refine wp_iconst (v := nI 1) dX7_goes_13 rfl ?_
    refine wp_isub_n dX7_goes_14 (by omega) ?_
    refine wp_imul_n dX7_goes_15 ?_
    refine wp_iadd_n dX7_goes_16 ?_
    refine wp_icmp_ge_n (tgt := 40) dX7_goes_17 (by decide) (by omega) (by omega) (fun c27 => ?_) (fun c27 => ?_)
    · refine wp_aload_n dX7_goes_40 rfl rfl ?_
      refine wp_getR (r := 64) dX7_goes_41 fl_X7_7 (by decide) rfl rfl rfl ?_
      refine wp_iconst (v := nI 2) dX7_goes_44 rfl ?_
      refine wp_dup2 dX7_goes_45 rfl rfl ?_
      refine wp_iald dX7_goes_46 (by decide) rfl (by decide) (by omega) ?_
      rw [kr]
      refine wp_iconst (v := nI 1) dX7_goes_47 rfl ?_
      refine wp_isub_n dX7_goes_48 (by omega) ?_
      refine wp_iast dX7_goes_49 (by decide) rfl (by decide) (by omega) ?_
      refine wp_D (fun D28 eD28 => ?_)
      have k30 : D28.1 64 2 = nI (r - 1) := by rw [eD28, sr_sI_1, if_pos ⟨rfl, rfl⟩]
      refine wp_vret dX7_goes_50 rfl ⟨rfl, ?_⟩
      subst eD28
      subst eE
      simp only [sr_sI_r, sr_rI_rI, sr_rI_1, if_true]
      congr 1; funext k; simp only [upd, sr_goesTo, sr_goes]
      by_cases e : k = 2
      · subst e; rw [if_pos rfl, if_pos rfl]
      · rw [if_neg e, if_neg e, show i = 3 + 4 * (r - 1) by omega]
    · refine wp_aload_n dX7_goes_20 rfl rfl ?_
      refine wp_getR (r := 64) dX7_goes_21 fl_X7_7 (by decide) rfl rfl rfl ?_
      refine wp_iload_n dX7_goes_24 rfl rfl ?_
      refine wp_aload_n dX7_goes_25 rfl rfl ?_
      refine wp_getR (r := 64) dX7_goes_26 fl_X7_7 (by decide) rfl rfl rfl ?_
      refine wp_iload_n dX7_goes_29 rfl rfl ?_
      refine wp_iconst (v := nI 4) dX7_goes_30 rfl ?_
      refine wp_iadd_n dX7_goes_31 ?_
      refine wp_iald dX7_goes_32 (by decide) rfl (show _ < 60 by omega) (by omega) ?_
      refine wp_iast dX7_goes_33 (by decide) rfl (show _ < 60 by omega) (by omega) ?_
      refine wp_D (fun D31 eD31 => ?_)
      have k32 : D31.1 64 2 = nI r := by rw [eD31, sr_sI_1, if_neg (by omega)]; exact kr
      refine wp_iinc_n (b := 1) (lv' := [(0, .ref 63), (1, .int (nI q)), (2, .int (nI (i + 1)))]) dX7_goes_34 rfl rfl (by decide) rfl ?_
      refine wp_goto (tgt := 6) dX7_goes_37 (by decide) ?_
      refine wp_D (fun F eF => ?_)
      have h := ih (by omega) (by omega)
      have hF : F = sr_rI D 64 (sr_goesTo (D.1 64) q (i + 1)) := by
        rw [eF]; subst eD31; subst eE
        simp only [sr_sI_r, sr_rI_rI, sr_rI_1, if_true]
        congr 1; funext k; simp only [upd, sr_goesTo]
        by_cases e : k = i
        · subst e; rw [if_pos rfl, if_neg (by omega), if_pos (by omega)]
        · rw [if_neg e]; by_cases e2 : 3 + 4 * q ≤ k ∧ k < i
          · rw [if_pos e2, if_pos (by omega)]
          · rw [if_neg e2, if_neg (by omega)]
      rw [hF]; exact h
  refine wp_iconst (v := nI 3) dX7_goes_0 rfl ?_
  refine wp_iconst (v := nI 4) dX7_goes_1 rfl ?_
  refine wp_iload_n dX7_goes_2 rfl rfl ?_
  refine wp_imul_n dX7_goes_3 ?_
  refine wp_iadd_n dX7_goes_4 ?_
  refine wp_istore_n (lv' := [(0, .ref 63), (1, .int (nI q)), (2, .int (nI (3 + (4 * q))))]) dX7_goes_5 rfl (by decide) rfl ?_
  have h := hL (3 + 4 * q) (by omega) (Nat.le_refl _)
  have h0 : sr_goesTo (D.1 64) q (3 + 4 * q) = D.1 64 := by funext k; simp only [sr_goesTo]; rw [if_neg (by omega)]
  rw [h0, sr_rI_self] at h
  exact h
end
section
def sr_raceOk (n : Nat) (a b m t : Int32) : Bool := sr_crew n a b && (sr_isIn m (-999) (nI 999) && sr_isIn t (-1) (nI 1))
set_option maxHeartbeats 4000000 in
set_option maxRecDepth 100000 in
theorem c_X7_race (g : sr_G) (D : sr_St) (n r : Nat) (hn : D.1 64 0 = nI n) (hn6 : n ≤ 6) (hr : D.1 64 2 = nI r) (hr12 : r ≤ 12) (a b m t : Int32)  : Con g M_X7_race [.ref 63, .int a, .int b, .int m, .int t] D (sr_ret (some (.int (if sr_raceOk n a b m t = true then if r = 12 then -2 else nI r else -1))) (if sr_raceOk n a b m t = true then if r = 12 then sr_th D else sr_rI (sr_th D) 64 (sr_more (D.1 64) r a b m t) else sr_th D)) := by
  refine Con.of pn_X7_race (Nat.le_of_ble_eq_true rfl) ?_
  show WP g M_X7_race 0 [(0, .ref 63), (1, .int a), (2, .int b), (3, .int m), (4, .int t)] [] D _
  refine wp_aload_n dX7_race_0 rfl rfl ?_
  refine wp_iconst (v := nI 0) dX7_race_1 rfl ?_
  refine wp_putI dX7_race_2 fl_X7_43 (by decide) rfl rfl ?_
  refine wp_D (fun D33 eD33 => ?_)
  have k34 : D33.1 64 0 = nI n := by rw [eD33, sr_sI_1, if_neg (by omega)]; exact hn
  have k35 : D33.1 64 2 = nI r := by rw [eD33, sr_sI_1, if_neg (by omega)]; exact hr
  refine wp_aload_n dX7_race_5 rfl rfl ?_
  refine wp_iload_n dX7_race_6 rfl rfl ?_
  refine wp_iload_n dX7_race_7 rfl rfl ?_
  refine wp_callV (M2 := M_X7_areCrews) (n := 2) (As := [.int a, .int b]) (st := []) dX7_race_8 (c_X7_areCrews g D33 n k34 hn6 a b) ca_X7_61 ⟨nm_X7_areCrews, by decide, by decide⟩ rfl (by decide) rfl rfl rfl (Nat.le_of_ble_eq_true rfl) (fun r36 E37 q38 => ?_)
  obtain ⟨rfl, rfl⟩ := q38
  show WP g _ _ _ (.int (sr_b (sr_crew n a b)) :: _) _ _
  refine wp_if_eq_b (tgt := 37) dX7_race_11 (by decide) (fun c39 => ?_) (fun c39 => ?_)
  · refine wp_iconst (v := -1) dX7_race_37 rfl ?_
    refine wp_iret dX7_race_38 rfl ?_
    subst eD33
    have hb : sr_raceOk n a b m t = false := by simp_all [sr_raceOk]
    refine ⟨?_, ?_⟩
    · rw [if_neg (by rw [hb]; decide)]
    · rw [if_neg (by rw [hb]; decide)]
  · refine wp_iload_n dX7_race_14 rfl rfl ?_
    refine wp_sipush (v := -999) dX7_race_15 rfl ?_
    refine wp_sipush (v := nI 999) dX7_race_18 rfl ?_
    refine wp_callS (M2 := M_X7_isIn) (n := 3) (As := [.int m, .int ((-999)), .int (nI 999)]) (st := []) dX7_race_21 (c_X7_isIn g D33 m ((-999)) (nI 999)) ca_X7_50 ⟨nm_X7_isIn, by decide, by decide⟩ rfl rfl (Nat.le_of_ble_eq_true rfl) (fun r40 E41 q42 => ?_)
    obtain ⟨rfl, rfl⟩ := q42
    show WP g _ _ _ (.int (sr_b (sr_isIn m ((-999)) (nI 999))) :: _) _ _
    refine wp_if_eq_b (tgt := 37) dX7_race_24 (by decide) (fun c43 => ?_) (fun c43 => ?_)
    · refine wp_iconst (v := -1) dX7_race_37 rfl ?_
      refine wp_iret dX7_race_38 rfl ?_
      subst eD33
      have hb : sr_raceOk n a b m t = false := by simp_all [sr_raceOk]
      refine ⟨?_, ?_⟩
      · rw [if_neg (by rw [hb]; decide)]
      · rw [if_neg (by rw [hb]; decide)]
    · refine wp_iload dX7_race_27 rfl ?_
      refine wp_iconst (v := -1) dX7_race_29 rfl ?_
      refine wp_iconst (v := nI 1) dX7_race_30 rfl ?_
      refine wp_callS (M2 := M_X7_isIn) (n := 3) (As := [.int t, .int ((-1)), .int (nI 1)]) (st := []) dX7_race_31 (c_X7_isIn g D33 t ((-1)) (nI 1)) ca_X7_50 ⟨nm_X7_isIn, by decide, by decide⟩ rfl rfl (Nat.le_of_ble_eq_true rfl) (fun r44 E45 q46 => ?_)
      obtain ⟨rfl, rfl⟩ := q46
      show WP g _ _ _ (.int (sr_b (sr_isIn t ((-1)) (nI 1))) :: _) _ _
      refine wp_if_ne_b (tgt := 39) dX7_race_34 (by decide) (fun c47 => ?_) (fun c47 => ?_)
      · refine wp_aload_n dX7_race_39 rfl rfl ?_
        refine wp_callV (M2 := M_X7_races) (n := 0) (As := []) (st := []) dX7_race_40 (c_X7_races_n g D33 r k35) ca_X7_58 ⟨nm_X7_races, by decide, by decide⟩ rfl (by decide) rfl rfl rfl (Nat.le_of_ble_eq_true rfl) (fun r48 E49 q50 => ?_)
        obtain ⟨rfl, rfl⟩ := q50
        show WP g _ _ _ (.int (nI r) :: _) _ _
        refine wp_bipush (v := nI 12) dX7_race_43 rfl ?_
        refine wp_icmp_ne_n (tgt := 51) dX7_race_45 (by decide) (by omega) (by omega) (fun c51 => ?_) (fun c51 => ?_)
        · refine wp_aload_n dX7_race_51 rfl rfl ?_
          refine wp_iload_n dX7_race_52 rfl rfl ?_
          refine wp_iload_n dX7_race_53 rfl rfl ?_
          refine wp_iload_n dX7_race_54 rfl rfl ?_
          refine wp_iload dX7_race_55 rfl ?_
          refine wp_callV (M2 := M_X7_more) (n := 4) (As := [.int a, .int b, .int m, .int t]) (st := []) dX7_race_57 (c_X7_more g D33 r k35 (by omega) a b m t) ca_X7_65 ⟨nm_X7_more, by decide, by decide⟩ rfl (by decide) rfl rfl rfl (Nat.le_of_ble_eq_true rfl) (fun r52 E53 q54 => ?_)
          obtain ⟨rfl, eE53⟩ := q54
          have eE53 := eE53.symm
          show WP g _ _ _ _ _ _
          have k55 : E53.1 64 2 = nI (r + 1) := by rw [eE53, sr_rI_1, if_pos rfl]; simp [sr_more]
          refine wp_aload_n dX7_race_60 rfl rfl ?_
          refine wp_callV (M2 := M_X7_races) (n := 0) (As := []) (st := []) dX7_race_61 (c_X7_races_n g E53 (r + 1) k55) ca_X7_58 ⟨nm_X7_races, by decide, by decide⟩ rfl (by decide) rfl rfl rfl (Nat.le_of_ble_eq_true rfl) (fun r56 E57 q58 => ?_)
          obtain ⟨rfl, rfl⟩ := q58
          show WP g _ _ _ (.int (nI (r + 1)) :: _) _ _
          refine wp_iconst (v := nI 1) dX7_race_64 rfl ?_
          refine wp_isub_n dX7_race_65 (by omega) ?_
          refine wp_iret dX7_race_66 rfl ?_
          subst eD33 eE53
          have hb : sr_raceOk n a b m t = true := by simp_all [sr_raceOk]
          refine ⟨?_, ?_⟩
          · rw [if_pos hb, if_neg (by assumption)]; rfl
          · rw [if_pos hb, if_neg (by assumption)]; simp [sr_th, sr_sI_r, sr_rI_1]
        · refine wp_bipush (v := -2) dX7_race_48 rfl ?_
          refine wp_iret dX7_race_50 rfl ?_
          subst eD33
          have hb : sr_raceOk n a b m t = true := by simp_all [sr_raceOk]
          refine ⟨?_, ?_⟩
          · rw [if_pos hb, if_pos (by assumption)]
          · rw [if_pos hb, if_pos (by assumption)]
      · refine wp_iconst (v := -1) dX7_race_37 rfl ?_
        refine wp_iret dX7_race_38 rfl ?_
        subst eD33
        have hb : sr_raceOk n a b m t = false := by simp_all [sr_raceOk]
        refine ⟨?_, ?_⟩
        · rw [if_neg (by rw [hb]; decide)]
        · rw [if_neg (by rw [hb]; decide)]
theorem sr_in_n {v : Int32} {n : Nat} (hn : n ≤ 1000) : (sr_isIn v (nI 0) (nI n - nI 1) = true) ↔ ∃ x, x < n ∧ v = nI x := by
  unfold sr_isIn
  simp only [Bool.and_eq_true, decide_eq_true_eq, Int32.le_iff_toInt_le]
  have e : (nI n - nI 1).toInt = (n : Int) - 1 := pk_sub_toInt (by omega) (by decide)
  have e0 : (nI 0).toInt = 0 := by decide
  rw [e, e0]
  constructor
  · intro h
    obtain ⟨x, hx, rfl⟩ := nI_of (x := v) (by rw [Int32.lt_iff_toInt_lt]; show ¬ _ < (0 : Int); omega)
    rw [nI_toInt hx] at h
    exact ⟨x, by omega, rfl⟩
  · rintro ⟨x, hx, rfl⟩
    rw [nI_toInt (by omega)]
    omega
set_option maxHeartbeats 4000000 in
set_option maxRecDepth 100000 in
theorem c_X7_strike (g : sr_G) (D : sr_St) (r : Nat) (hr : D.1 64 2 = nI r) (hr12 : r ≤ 12) (v : Int32)  : Con g M_X7_strike [.ref 63, .int v] D (fun a D' => (∀ q, q < r → v = nI q → a = some (.int (nI (r - 1))) ∧ D' = sr_rI (sr_th D) 64 (sr_goes (D.1 64) q r)) ∧ ((¬ ∃ q, q < r ∧ v = nI q) → a = some (.int (-1)) ∧ D' = sr_th D)) := by
  refine Con.of pn_X7_strike (Nat.le_of_ble_eq_true rfl) ?_
  show WP g M_X7_strike 0 [(0, .ref 63), (1, .int v)] [] D _
  rcases Decidable.em (sr_isIn v (nI 0) (nI r - nI 1) = true) with hv | hv
  · obtain ⟨x, hx, rfl⟩ := (sr_in_n (by omega)).mp hv
    refine wp_aload_n dX7_strike_0 rfl rfl ?_
    refine wp_iconst (v := nI 0) dX7_strike_1 rfl ?_
    refine wp_putI dX7_strike_2 fl_X7_43 (by decide) rfl rfl ?_
    refine wp_D (fun D59 eD59 => ?_)
    have k60 : D59.1 64 2 = nI r := by rw [eD59, sr_sI_1, if_neg (by omega)]; exact hr
    refine wp_iload_n dX7_strike_5 rfl rfl ?_
    refine wp_iconst (v := nI 0) dX7_strike_6 rfl ?_
    refine wp_aload_n dX7_strike_7 rfl rfl ?_
    refine wp_callV (M2 := M_X7_races) (n := 0) (As := []) (st := [.int (nI 0), .int (nI x)]) dX7_strike_8 (c_X7_races_n g D59 r k60) ca_X7_58 ⟨nm_X7_races, by decide, by decide⟩ rfl (by decide) rfl rfl rfl (Nat.le_of_ble_eq_true rfl) (fun r61 E62 q63 => ?_)
    obtain ⟨rfl, rfl⟩ := q63
    show WP g _ _ _ (.int (nI r) :: _) _ _
    refine wp_iconst (v := nI 1) dX7_strike_11 rfl ?_
    refine wp_isub dX7_strike_12 ?_
    refine wp_callS (M2 := M_X7_isIn) (n := 3) (As := [.int (nI x), .int (nI 0), .int ((nI r) - (nI 1))]) (st := []) dX7_strike_13 (c_X7_isIn g D59 (nI x) (nI 0) ((nI r) - (nI 1))) ca_X7_50 ⟨nm_X7_isIn, by decide, by decide⟩ rfl rfl (Nat.le_of_ble_eq_true rfl) (fun r64 E65 q66 => ?_)
    obtain ⟨rfl, rfl⟩ := q66
    show WP g _ _ _ (.int (sr_b (sr_isIn (nI x) (nI 0) ((nI r) - (nI 1)))) :: _) _ _
    refine wp_if_ne_b (tgt := 21) dX7_strike_16 (by decide) (fun c67 => ?_) (fun c67 => ?_)
    · refine wp_aload_n dX7_strike_21 rfl rfl ?_
      refine wp_iload_n dX7_strike_22 rfl rfl ?_
      refine wp_callV (M2 := M_X7_goes) (n := 1) (As := [.int (nI x)]) (st := []) dX7_strike_23 (c_X7_goes g D59 x r k60 (by omega) (by omega)) ca_X7_69 ⟨nm_X7_goes, by decide, by decide⟩ rfl (by decide) rfl rfl rfl (Nat.le_of_ble_eq_true rfl) (fun r68 E69 q70 => ?_)
      obtain ⟨rfl, eE69⟩ := q70
      have eE69 := eE69.symm
      show WP g _ _ _ _ _ _
      have k71 : E69.1 64 2 = nI (r - 1) := by rw [eE69, sr_rI_1, if_pos rfl]; simp [sr_goes]
      refine wp_aload_n dX7_strike_26 rfl rfl ?_
      refine wp_callV (M2 := M_X7_races) (n := 0) (As := []) (st := []) dX7_strike_27 (c_X7_races_n g E69 (r - 1) k71) ca_X7_58 ⟨nm_X7_races, by decide, by decide⟩ rfl (by decide) rfl rfl rfl (Nat.le_of_ble_eq_true rfl) (fun r72 E73 q74 => ?_)
      obtain ⟨rfl, rfl⟩ := q74
      show WP g _ _ _ (.int (nI (r - 1)) :: _) _ _
      refine wp_iret dX7_strike_30 rfl ⟨fun q hq e => ?_, fun h => absurd ⟨x, hx, rfl⟩ h⟩
      have e := (nI_eq (by omega) (by omega)).mp e
      subst e
      subst eD59 eE69
      exact ⟨rfl, by simp [sr_th, sr_sI_r, sr_rI_1]⟩
    · exact absurd hv (by rw [c67]; decide)
  · refine wp_aload_n dX7_strike_0 rfl rfl ?_
    refine wp_iconst (v := nI 0) dX7_strike_1 rfl ?_
    refine wp_putI dX7_strike_2 fl_X7_43 (by decide) rfl rfl ?_
    refine wp_D (fun D75 eD75 => ?_)
    have k76 : D75.1 64 2 = nI r := by rw [eD75, sr_sI_1, if_neg (by omega)]; exact hr
    refine wp_iload_n dX7_strike_5 rfl rfl ?_
    refine wp_iconst (v := nI 0) dX7_strike_6 rfl ?_
    refine wp_aload_n dX7_strike_7 rfl rfl ?_
    refine wp_callV (M2 := M_X7_races) (n := 0) (As := []) (st := [.int (nI 0), .int v]) dX7_strike_8 (c_X7_races_n g D75 r k76) ca_X7_58 ⟨nm_X7_races, by decide, by decide⟩ rfl (by decide) rfl rfl rfl (Nat.le_of_ble_eq_true rfl) (fun r77 E78 q79 => ?_)
    obtain ⟨rfl, rfl⟩ := q79
    show WP g _ _ _ (.int (nI r) :: _) _ _
    refine wp_iconst (v := nI 1) dX7_strike_11 rfl ?_
    refine wp_isub dX7_strike_12 ?_
    refine wp_callS (M2 := M_X7_isIn) (n := 3) (As := [.int v, .int (nI 0), .int ((nI r) - (nI 1))]) (st := []) dX7_strike_13 (c_X7_isIn g D75 v (nI 0) ((nI r) - (nI 1))) ca_X7_50 ⟨nm_X7_isIn, by decide, by decide⟩ rfl rfl (Nat.le_of_ble_eq_true rfl) (fun r80 E81 q82 => ?_)
    obtain ⟨rfl, rfl⟩ := q82
    show WP g _ _ _ (.int (sr_b (sr_isIn v (nI 0) ((nI r) - (nI 1)))) :: _) _ _
    refine wp_if_ne_b (tgt := 21) dX7_strike_16 (by decide) (fun c83 => ?_) (fun c83 => ?_)
    · exact absurd c83 hv
    · refine wp_iconst (v := -1) dX7_strike_19 rfl ?_
      refine wp_iret dX7_strike_20 rfl ⟨fun q hq e => absurd ((sr_in_n (by omega)).mpr ⟨q, hq, e⟩) hv, fun _ => ?_⟩
      subst eD75
      exact ⟨rfl, rfl⟩
end
section
/-! ===== THE MODEL'S TEXTS: fault, place, beginning of the token (63: slots 5, 8, 9), and the races (64) ===== -/
def sr_T (D : sr_St) (f a r : Nat) (now : Nat → Int32) : sr_St := (fun o => if o = 63 then (fun k => if k = 5 then nI f else if k = 8 then nI a else if k = 9 then nI r else D.1 63 k) else if o = 64 then now else D.1 o, D.2)
section TT
variable {D : sr_St} {f a r x : Nat} {now : Nat → Int32}
theorem sr_T_5 : (sr_T D f a r now).1 63 5 = nI f := rfl
theorem sr_T_8 : (sr_T D f a r now).1 63 8 = nI a := rfl
theorem sr_T_9 : (sr_T D f a r now).1 63 9 = nI r := rfl
theorem sr_T_7 {L : Nat} (h : D.1 63 7 = nI L) : (sr_T D f a r now).1 63 7 = nI L := h
theorem sr_T_66 : (sr_T D f a r now).1 66 = D.1 66 := rfl
theorem sr_T_64 : (sr_T D f a r now).1 64 = now := rfl
theorem sr_T_n {n k : Nat} (h : now k = nI n) : (sr_T D f a r now).1 64 k = nI n := h
theorem sr_T_s5 : sr_sI (sr_T D f a r now) 63 5 (nI x) = sr_T D x a r now := by
  unfold sr_sI sr_T upd
  congr 1
  funext o
  by_cases h : o = 63
  · subst h; simp only [if_true]; funext k; by_cases e : k = 5 <;> simp [e]
  · simp [h]
theorem sr_T_s8 : sr_sI (sr_T D f a r now) 63 8 (nI x) = sr_T D f x r now := by
  unfold sr_sI sr_T upd
  congr 1
  funext o
  by_cases h : o = 63
  · subst h; simp only [if_true]; funext k; by_cases e : k = 8 <;> by_cases e2 : k = 5 <;> simp [e, e2]
  · simp [h]
theorem sr_T_s9 : sr_sI (sr_T D f a r now) 63 9 (nI x) = sr_T D f a x now := by
  unfold sr_sI sr_T upd
  congr 1
  funext o
  by_cases h : o = 63
  · subst h; simp only [if_true]; funext k; by_cases e : k = 9 <;> by_cases e2 : k = 5 <;> by_cases e3 : k = 8 <;> simp [e, e2, e3] <;> omega
  · simp [h]
theorem sr_T_s64 {k : Nat} {v : Int32} : sr_sI (sr_T D f a r now) 64 k v = sr_T D f a r (upd now k v) := by
  unfold sr_sI sr_T
  congr 1
  funext o
  by_cases h : o = 64
  · subst h; simp
  · by_cases h2 : o = 63 <;> simp [h, h2]
theorem sr_T_r64 {now' : Nat → Int32} : sr_rI (sr_T D f a r now) 64 now' = sr_T D f a r now' := by
  unfold sr_rI sr_T
  congr 1
  funext o
  by_cases h : o = 64
  · subst h; simp
  · by_cases h2 : o = 63 <;> simp [h, h2]
end TT
/-- the first place from a on that isn't of the kind, or the end -/
def sr_scanF (q : Int32 → Bool) (b : Nat → Int32) (L : Nat) : Nat → Nat → Nat
  | 0, a => a
  | f + 1, a => if a < L ∧ q (b a) = true then sr_scanF q b L f (a + 1) else a
def sr_scan (q : Int32 → Bool) (b : Nat → Int32) (L a : Nat) : Nat := sr_scanF q b L (L - a) a
theorem sr_scan_t {q : Int32 → Bool} {b : Nat → Int32} {L a : Nat} (h : a < L) (hq : q (b a) = true) : sr_scan q b L a = sr_scan q b L (a + 1) := by
  unfold sr_scan
  rw [show L - a = (L - (a + 1)) + 1 by omega]
  show (if a < L ∧ q (b a) = true then sr_scanF q b L (L - (a + 1)) (a + 1) else a) = _
  rw [if_pos ⟨h, hq⟩]
theorem sr_scan_f {q : Int32 → Bool} {b : Nat → Int32} {L a : Nat} (h : ¬ (a < L ∧ q (b a) = true)) : sr_scan q b L a = a := by
  unfold sr_scan
  cases hn : L - a with
  | zero => rfl
  | succ n =>
    show (if a < L ∧ q (b a) = true then sr_scanF q b L n (a + 1) else a) = _
    rw [if_neg h]
theorem sr_scanF_ge (q : Int32 → Bool) (b : Nat → Int32) (L : Nat) : ∀ f a, a ≤ sr_scanF q b L f a ∧ sr_scanF q b L f a ≤ a + f
  | 0, a => ⟨Nat.le_refl _, Nat.le_refl _⟩
  | f + 1, a => by
    show a ≤ (if _ then _ else _) ∧ (if _ then _ else _) ≤ _
    have := sr_scanF_ge q b L f (a + 1)
    by_cases h : a < L ∧ q (b a) = true
    · rw [if_pos h]; omega
    · rw [if_neg h]; omega
theorem sr_scan_ge (q : Int32 → Bool) (b : Nat → Int32) (L a : Nat) : a ≤ sr_scan q b L a := (sr_scanF_ge q b L (L - a) a).1
theorem sr_scan_le (q : Int32 → Bool) (b : Nat → Int32) {L a : Nat} (h : a ≤ L) : sr_scan q b L a ≤ L := by have := (sr_scanF_ge q b L (L - a) a).2; unfold sr_scan; omega
def sr_blank (v : Int32) : Bool := decide (v = nI 32) || decide (v = nI 10)
def sr_digit (v : Int32) : Bool := sr_isIn v (nI 48) (nI 57)
def sr_letter (v : Int32) : Bool := sr_isIn v (nI 97) (nI 122)
abbrev sr_skip (b : Nat → Int32) (L a : Nat) : Nat := sr_scan sr_blank b L a
/-- the byte at a, or -1 at the end -/
def sr_at1 (b : Nat → Int32) (L a : Nat) : Int32 := if a < L then b a &&& nI 255 else -1
def sr_dig (b : Nat → Int32) (L a : Nat) : Bool := decide (a < L) && sr_digit (b a)
set_option maxHeartbeats 4000000 in
set_option maxRecDepth 100000 in
theorem c_X7_fails (g : sr_G) (D : sr_St) (L f a r : Nat) (now : Nat → Int32) (k w : Nat) (hk : k ≤ 8) (hw : w ≤ 400) (hL : D.1 63 7 = nI L) (h300 : L ≤ 300) (ha : a ≤ L + 1) (hf : f ≤ 8000) (hr : r ≤ 400)  : Con g M_X7_fails [.ref 63, .int (nI k), .int (nI w)] (sr_T D f a r now) (sr_ret (none) (sr_T D (if f = 0 then k + 8 * w else f) a r now)) := by
  refine Con.of pn_X7_fails (Nat.le_of_ble_eq_true rfl) ?_
  show WP g M_X7_fails 0 [(0, .ref 63), (1, .int (nI k)), (2, .int (nI w))] [] (sr_T D f a r now) _
  refine wp_aload_n dX7_fails_0 rfl rfl ?_
  refine wp_getI_n (n := f) dX7_fails_1 fl_X7_89 (by decide) rfl rfl (sr_T_5) ?_
  refine wp_if_ne_n (tgt := 17) dX7_fails_4 (by decide) (by omega) (fun c1 => ?_) (fun c1 => ?_)
  · refine wp_vret dX7_fails_17 rfl ⟨rfl, ?_⟩
    rw [if_neg c1]
  · refine wp_aload_n dX7_fails_7 rfl rfl ?_
    refine wp_iload_n dX7_fails_8 rfl rfl ?_
    refine wp_bipush (v := nI 8) dX7_fails_9 rfl ?_
    refine wp_iload_n dX7_fails_11 rfl rfl ?_
    refine wp_imul_n dX7_fails_12 ?_
    refine wp_iadd_n dX7_fails_13 ?_
    refine wp_putI dX7_fails_14 fl_X7_89 (by decide) rfl rfl ?_
    rw [sr_T_s5]
    refine wp_vret dX7_fails_17 rfl ⟨rfl, ?_⟩
    rw [if_pos c1]
set_option maxHeartbeats 4000000 in
set_option maxRecDepth 100000 in
theorem c_X7_isDigitAt (g : sr_G) (D : sr_St) (L f a r : Nat) (now : Nat → Int32) (k : Nat) (hk : k ≤ L + 2) (hL : D.1 63 7 = nI L) (h300 : L ≤ 300) (ha : a ≤ L + 1) (hf : f ≤ 8000) (hr : r ≤ 400)  : Con g M_X7_isDigitAt [.ref 63, .int (nI k)] (sr_T D f a r now) (sr_ret (some (.int (sr_b (sr_dig (D.1 66) L k)))) (sr_T D f a r now)) := by
  refine Con.of pn_X7_isDigitAt (Nat.le_of_ble_eq_true rfl) ?_
  show WP g M_X7_isDigitAt 0 [(0, .ref 63), (1, .int (nI k))] [] (sr_T D f a r now) _
  refine wp_iload_n dX7_isDigitAt_0 rfl rfl ?_
  refine wp_aload_n dX7_isDigitAt_1 rfl rfl ?_
  refine wp_getI_n (n := L) dX7_isDigitAt_2 fl_X7_86 (by decide) rfl rfl ((sr_T_7 hL)) ?_
  refine wp_icmp_ge_n (tgt := 28) dX7_isDigitAt_5 (by decide) (by omega) (by omega) (fun c2 => ?_) (fun c2 => ?_)
  · refine wp_iconst (v := nI 0) dX7_isDigitAt_28 rfl ?_
    exact wp_zret dX7_isDigitAt_29 rfl (Or.inl rfl) ⟨sr_bf (by simp only [sr_dig, sr_digit]; first | (rw [decide_eq_false (by omega)]; rfl) | simp_all), rfl⟩
  · refine wp_aload_n dX7_isDigitAt_8 rfl rfl ?_
    refine wp_getR (r := 66) dX7_isDigitAt_9 fl_X7_16 (by decide) rfl rfl rfl ?_
    refine wp_iload_n dX7_isDigitAt_12 rfl rfl ?_
    refine wp_bald dX7_isDigitAt_13 (by decide) rfl (show _ < 300 by omega) (by omega) ?_
    rw [sr_T_66]
    refine wp_bipush (v := nI 48) dX7_isDigitAt_14 rfl ?_
    refine wp_bipush (v := nI 57) dX7_isDigitAt_16 rfl ?_
    refine wp_callS (M2 := M_X7_isIn) (n := 3) (As := [.int (D.1 66 k), .int (nI 48), .int (nI 57)]) (st := []) dX7_isDigitAt_18 (c_X7_isIn g (sr_T D f a r now) (D.1 66 k) (nI 48) (nI 57)) ca_X7_50 ⟨nm_X7_isIn, by decide, by decide⟩ rfl rfl (Nat.le_of_ble_eq_true rfl) (fun r3 E4 q5 => ?_)
    obtain ⟨rfl, rfl⟩ := q5
    show WP g _ _ _ (.int (sr_b (sr_isIn (D.1 66 k) (nI 48) (nI 57))) :: _) _ _
    refine wp_if_eq_b (tgt := 28) dX7_isDigitAt_21 (by decide) (fun c6 => ?_) (fun c6 => ?_)
    · refine wp_iconst (v := nI 0) dX7_isDigitAt_28 rfl ?_
      exact wp_zret dX7_isDigitAt_29 rfl (Or.inl rfl) ⟨sr_bf (by simp only [sr_dig, sr_digit]; first | (rw [decide_eq_false (by omega)]; rfl) | simp_all), rfl⟩
    · refine wp_iconst (v := nI 1) dX7_isDigitAt_24 rfl ?_
      refine wp_goto (tgt := 29) dX7_isDigitAt_25 (by decide) ?_
      exact wp_zret dX7_isDigitAt_29 rfl (Or.inr rfl) ⟨sr_bt (by simp_all [sr_dig, sr_digit]), rfl⟩
set_option maxHeartbeats 4000000 in
set_option maxRecDepth 100000 in
theorem c_X7_here (g : sr_G) (D : sr_St) (L f a r : Nat) (now : Nat → Int32)  (hL : D.1 63 7 = nI L) (h300 : L ≤ 300) (ha : a ≤ L + 1) (hf : f ≤ 8000) (hr : r ≤ 400)  : Con g M_X7_here [.ref 63] (sr_T D f a r now) (sr_ret (some (.int (sr_at1 (D.1 66) L (sr_skip (D.1 66) L a)))) (sr_T D f (sr_skip (D.1 66) L a) r now)) := by
  refine Con.of pn_X7_here (Nat.le_of_ble_eq_true rfl) ?_
  show WP g M_X7_here 0 [(0, .ref 63)] [] (sr_T D f a r now) _
  have hW : ∀ k i, i + k = L + 1 → sr_skip (D.1 66) L i = sr_skip (D.1 66) L a → WP g M_X7_here 0 [(0, .ref 63)] [] (sr_T D f i r now) (sr_ret (some (.int (sr_at1 (D.1 66) L (sr_skip (D.1 66) L a)))) (sr_T D f (sr_skip (D.1 66) L a) r now)) := by
    intro k
    induction k with
    | zero =>
      intro i hi he
      have hi1 : i = L + 1 := by omega
      have hs : sr_skip (D.1 66) L i = i := sr_scan_f (by omega)
      refine wp_aload_n dX7_here_0 rfl rfl ?_
      refine wp_getI_n (n := i) dX7_here_1 fl_X7_83 (by decide) rfl rfl (sr_T_8) ?_
      refine wp_aload_n dX7_here_4 rfl rfl ?_
      refine wp_getI_n (n := L) dX7_here_5 fl_X7_86 (by decide) rfl rfl ((sr_T_7 hL)) ?_
      refine wp_icmp_ge_n (tgt := 52) dX7_here_8 (by decide) (by omega) (by omega) (fun c7 => ?_) (fun c7 => ?_)
      · refine wp_aload_n dX7_here_52 rfl rfl ?_
        refine wp_getI_n (n := i) dX7_here_53 fl_X7_83 (by decide) rfl rfl (sr_T_8) ?_
        refine wp_aload_n dX7_here_56 rfl rfl ?_
        refine wp_getI_n (n := L) dX7_here_57 fl_X7_86 (by decide) rfl rfl ((sr_T_7 hL)) ?_
        refine wp_icmp_ge_n (tgt := 79) dX7_here_60 (by decide) (by omega) (by omega) (fun c8 => ?_) (fun c8 => ?_)
        · refine wp_iconst (v := -1) dX7_here_79 rfl ?_
          refine wp_iret dX7_here_80 rfl ?_
          rw [← he, hs]
          rw [sr_at1, if_neg (by omega)]; exact ⟨rfl, rfl⟩
        · exact absurd c8 (by omega)
      · exact absurd c7 (by omega)
    | succ k ih =>
      intro i hi he
      refine wp_aload_n dX7_here_0 rfl rfl ?_
      refine wp_getI_n (n := i) dX7_here_1 fl_X7_83 (by decide) rfl rfl (sr_T_8) ?_
      refine wp_aload_n dX7_here_4 rfl rfl ?_
      refine wp_getI_n (n := L) dX7_here_5 fl_X7_86 (by decide) rfl rfl ((sr_T_7 hL)) ?_
      refine wp_icmp_ge_n (tgt := 52) dX7_here_8 (by decide) (by omega) (by omega) (fun c9 => ?_) (fun c9 => ?_)
      · refine wp_aload_n dX7_here_52 rfl rfl ?_
        refine wp_getI_n (n := i) dX7_here_53 fl_X7_83 (by decide) rfl rfl (sr_T_8) ?_
        refine wp_aload_n dX7_here_56 rfl rfl ?_
        refine wp_getI_n (n := L) dX7_here_57 fl_X7_86 (by decide) rfl rfl ((sr_T_7 hL)) ?_
        refine wp_icmp_ge_n (tgt := 79) dX7_here_60 (by decide) (by omega) (by omega) (fun c10 => ?_) (fun c10 => ?_)
        · refine wp_iconst (v := -1) dX7_here_79 rfl ?_
          have hs : sr_skip (D.1 66) L i = i := sr_scan_f (by simp_all [sr_blank]; try omega)
          refine wp_iret dX7_here_80 rfl ?_
          rw [← he, hs]
          rw [sr_at1, if_neg (by omega)]; exact ⟨rfl, rfl⟩
        · refine wp_aload_n dX7_here_63 rfl rfl ?_
          refine wp_getR (r := 66) dX7_here_64 fl_X7_16 (by decide) rfl rfl rfl ?_
          refine wp_aload_n dX7_here_67 rfl rfl ?_
          refine wp_getI_n (n := i) dX7_here_68 fl_X7_83 (by decide) rfl rfl (sr_T_8) ?_
          refine wp_bald dX7_here_71 (by decide) rfl (show _ < 300 by omega) (by omega) ?_
          rw [sr_T_66]
          refine wp_sipush (v := nI 255) dX7_here_72 rfl ?_
          refine wp_iand dX7_here_75 ?_
          refine wp_goto (tgt := 80) dX7_here_76 (by decide) ?_
          have hs : sr_skip (D.1 66) L i = i := sr_scan_f (by simp_all [sr_blank]; try omega)
          refine wp_iret dX7_here_80 rfl ?_
          rw [← he, hs]
          rw [sr_at1, if_pos (by omega)]; exact ⟨rfl, rfl⟩
      · refine wp_aload_n dX7_here_11 rfl rfl ?_
        refine wp_getR (r := 66) dX7_here_12 fl_X7_16 (by decide) rfl rfl rfl ?_
        refine wp_aload_n dX7_here_15 rfl rfl ?_
        refine wp_getI_n (n := i) dX7_here_16 fl_X7_83 (by decide) rfl rfl (sr_T_8) ?_
        refine wp_bald dX7_here_19 (by decide) rfl (show _ < 300 by omega) (by omega) ?_
        rw [sr_T_66]
        refine wp_bipush (v := nI 32) dX7_here_20 rfl ?_
        refine wp_icmp_eq (tgt := 39) dX7_here_22 (by decide) (fun c11 => ?_) (fun c11 => ?_)
        · refine wp_aload_n dX7_here_39 rfl rfl ?_
          refine wp_dup dX7_here_40 rfl ?_
          refine wp_getI_n (n := i) dX7_here_41 fl_X7_83 (by decide) rfl rfl (sr_T_8) ?_
          refine wp_iconst (v := nI 1) dX7_here_44 rfl ?_
          refine wp_iadd_n dX7_here_45 ?_
          refine wp_putI dX7_here_46 fl_X7_83 (by decide) rfl rfl ?_
          rw [sr_T_s8]
          refine wp_goto (tgt := 0) dX7_here_49 (by decide) ?_
          exact ih (i + 1) (by omega) (by rw [← he]; exact (sr_scan_t (by omega) (by simp_all [sr_blank])).symm)
        · refine wp_aload_n dX7_here_25 rfl rfl ?_
          refine wp_getR (r := 66) dX7_here_26 fl_X7_16 (by decide) rfl rfl rfl ?_
          refine wp_aload_n dX7_here_29 rfl rfl ?_
          refine wp_getI_n (n := i) dX7_here_30 fl_X7_83 (by decide) rfl rfl (sr_T_8) ?_
          refine wp_bald dX7_here_33 (by decide) rfl (show _ < 300 by omega) (by omega) ?_
          rw [sr_T_66]
          refine wp_bipush (v := nI 10) dX7_here_34 rfl ?_
          refine wp_icmp_ne (tgt := 52) dX7_here_36 (by decide) (fun c12 => ?_) (fun c12 => ?_)
          · refine wp_aload_n dX7_here_52 rfl rfl ?_
            refine wp_getI_n (n := i) dX7_here_53 fl_X7_83 (by decide) rfl rfl (sr_T_8) ?_
            refine wp_aload_n dX7_here_56 rfl rfl ?_
            refine wp_getI_n (n := L) dX7_here_57 fl_X7_86 (by decide) rfl rfl ((sr_T_7 hL)) ?_
            refine wp_icmp_ge_n (tgt := 79) dX7_here_60 (by decide) (by omega) (by omega) (fun c13 => ?_) (fun c13 => ?_)
            · refine wp_iconst (v := -1) dX7_here_79 rfl ?_
              have hs : sr_skip (D.1 66) L i = i := sr_scan_f (by simp_all [sr_blank]; try omega)
              refine wp_iret dX7_here_80 rfl ?_
              rw [← he, hs]
              rw [sr_at1, if_neg (by omega)]; exact ⟨rfl, rfl⟩
            · refine wp_aload_n dX7_here_63 rfl rfl ?_
              refine wp_getR (r := 66) dX7_here_64 fl_X7_16 (by decide) rfl rfl rfl ?_
              refine wp_aload_n dX7_here_67 rfl rfl ?_
              refine wp_getI_n (n := i) dX7_here_68 fl_X7_83 (by decide) rfl rfl (sr_T_8) ?_
              refine wp_bald dX7_here_71 (by decide) rfl (show _ < 300 by omega) (by omega) ?_
              rw [sr_T_66]
              refine wp_sipush (v := nI 255) dX7_here_72 rfl ?_
              refine wp_iand dX7_here_75 ?_
              refine wp_goto (tgt := 80) dX7_here_76 (by decide) ?_
              have hs : sr_skip (D.1 66) L i = i := sr_scan_f (by simp_all [sr_blank]; try omega)
              refine wp_iret dX7_here_80 rfl ?_
              rw [← he, hs]
              rw [sr_at1, if_pos (by omega)]; exact ⟨rfl, rfl⟩
          · refine wp_aload_n dX7_here_39 rfl rfl ?_
            refine wp_dup dX7_here_40 rfl ?_
            refine wp_getI_n (n := i) dX7_here_41 fl_X7_83 (by decide) rfl rfl (sr_T_8) ?_
            refine wp_iconst (v := nI 1) dX7_here_44 rfl ?_
            refine wp_iadd_n dX7_here_45 ?_
            refine wp_putI dX7_here_46 fl_X7_83 (by decide) rfl rfl ?_
            rw [sr_T_s8]
            refine wp_goto (tgt := 0) dX7_here_49 (by decide) ?_
            exact ih (i + 1) (by omega) (by rw [← he]; exact (sr_scan_t (by omega) (by simp_all [sr_blank])).symm)
  exact hW (L + 1 - a) a (by omega) rfl
end
section
theorem sr_skip_ge (b : Nat → Int32) (L a : Nat) : a ≤ sr_skip b L a := sr_scan_ge sr_blank b L a
theorem sr_skip_le (b : Nat → Int32) {L a : Nat} (h : a ≤ L) : sr_skip b L a ≤ L := sr_scan_le sr_blank b h
theorem sr_skip_le1 (b : Nat → Int32) {L a : Nat} (h : a ≤ L + 1) : sr_skip b L a ≤ L + 1 := by
  by_cases h1 : a ≤ L
  · have := sr_skip_le b h1; omega
  · have : sr_skip b L a = a := sr_scan_f (by omega)
    omega
/-- bytes are bytes -/
def sr_bytes (b : Nat → Int32) : Prop := ∀ k, (b k).toInt8.toInt32 = b k
theorem sr_at1_eq {b : Nat → Int32} (hb : sr_bytes b) {L a n : Nat} (hn : n < 128) : sr_at1 b L a = nI n ↔ a < L ∧ b a = nI n := by
  have h8 : (nI n).toInt8.toInt32 = nI n := by
    have : ∀ n, n < 128 → (nI n).toInt8.toInt32 = nI n := by decide +kernel
    exact this n hn
  unfold sr_at1
  by_cases h : a < L
  · rw [if_pos h]
    have e := sc_eq (hb a) (n := n) (by omega)
    rw [h8] at e
    exact ⟨fun q => ⟨h, e.mpr q⟩, fun q => e.mp q.2⟩
  · rw [if_neg h]
    constructor
    · intro q
      exfalso
      have : ∀ n, n < 128 → ¬ (-1 : Int32) = nI n := by decide +kernel
      exact this n hn q
    · intro q; exact absurd q.1 h
/-- where the digits of a number would begin, the token beginning at s -/
def sr_dfst (b : Nat → Int32) (L s : Nat) : Nat := if s < L ∧ b s = nI 45 then s + 1 else s
/-- does a number begin at s -/
def sr_isnum (b : Nat → Int32) (L s : Nat) : Bool := sr_dig b L (sr_dfst b L s)
set_option maxHeartbeats 4000000 in
set_option maxRecDepth 100000 in
theorem c_X7_isNumber (g : sr_G) (D : sr_St) (L f a r : Nat) (now : Nat → Int32) (hb : sr_bytes (D.1 66)) (hL : D.1 63 7 = nI L) (h300 : L ≤ 300) (ha : a ≤ L + 1) (hf : f ≤ 8000) (hr : r ≤ 400)  : Con g M_X7_isNumber [.ref 63] (sr_T D f a r now) (sr_ret (some (.int (sr_b (sr_isnum (D.1 66) L (sr_skip (D.1 66) L a))))) (sr_T D f (sr_skip (D.1 66) L a) r now)) := by
  refine Con.of pn_X7_isNumber (Nat.le_of_ble_eq_true rfl) ?_
  show WP g M_X7_isNumber 0 [(0, .ref 63)] [] (sr_T D f a r now) _
  have hs1 := sr_skip_ge (D.1 66) L a
  have hs2 := sr_skip_le1 (D.1 66) ha
  generalize hsk : sr_skip (D.1 66) L a = s at *
  refine wp_aload_n dX7_isNumber_0 rfl rfl ?_
  refine wp_callV (M2 := M_X7_here) (n := 0) (As := []) (st := []) dX7_isNumber_1 (c_X7_here g D L f a r now hL h300 (by omega) (by omega) (by omega)) ca_X7_92 ⟨nm_X7_here, by decide, by decide⟩ rfl (by decide) rfl rfl rfl (Nat.le_of_ble_eq_true rfl) (fun r14 E15 q16 => ?_)
  rw [hsk] at q16
  obtain ⟨rfl, rfl⟩ := q16
  show WP g _ _ _ (.int (sr_at1 (D.1 66) L s) :: _) _ _
  refine wp_topi (fun x17 ex17 => ?_)
  refine wp_istore_n (lv' := [(0, .ref 63), (1, .int x17)]) dX7_isNumber_4 rfl (by decide) rfl ?_
  refine wp_aload_n dX7_isNumber_5 rfl rfl ?_
  refine wp_iload_n dX7_isNumber_6 rfl rfl ?_
  refine wp_bipush (v := nI 45) dX7_isNumber_7 rfl ?_
  refine wp_icmp_ne (tgt := 21) dX7_isNumber_9 (by decide) (fun c18 => ?_) (fun c18 => ?_)
  · have hd : sr_dfst (D.1 66) L s = s := if_neg (fun q => c18 (by rw [ex17]; exact (sr_at1_eq hb (by decide)).mpr q))
    refine wp_aload_n dX7_isNumber_21 rfl rfl ?_
    refine wp_getI_n (n := s) dX7_isNumber_22 fl_X7_83 (by decide) rfl rfl (sr_T_8) ?_
    refine wp_callV (M2 := M_X7_isDigitAt) (n := 1) (As := [.int (nI s)]) (st := []) dX7_isNumber_25 (c_X7_isDigitAt g D L f s r now s (by omega) hL h300 (by omega) (by omega) (by omega)) ca_X7_95 ⟨nm_X7_isDigitAt, by decide, by decide⟩ rfl (by decide) rfl rfl rfl (Nat.le_of_ble_eq_true rfl) (fun r19 E20 q21 => ?_)
    obtain ⟨rfl, rfl⟩ := q21
    show WP g _ _ _ (.int (sr_b (sr_dig (D.1 66) L s)) :: _) _ _
    refine wp_zret dX7_isNumber_28 rfl (sr_b01 _) ⟨?_, rfl⟩
    unfold sr_isnum
    rw [hd]
  · have hd : sr_dfst (D.1 66) L s = s + 1 := if_pos ((sr_at1_eq hb (by decide)).mp (by rw [← ex17]; exact c18))
    refine wp_aload_n dX7_isNumber_12 rfl rfl ?_
    refine wp_getI_n (n := s) dX7_isNumber_13 fl_X7_83 (by decide) rfl rfl (sr_T_8) ?_
    refine wp_iconst (v := nI 1) dX7_isNumber_16 rfl ?_
    refine wp_iadd_n dX7_isNumber_17 ?_
    refine wp_goto (tgt := 25) dX7_isNumber_18 (by decide) ?_
    refine wp_callV (M2 := M_X7_isDigitAt) (n := 1) (As := [.int (nI (s + 1))]) (st := []) dX7_isNumber_25 (c_X7_isDigitAt g D L f s r now (s + 1) (by omega) hL h300 (by omega) (by omega) (by omega)) ca_X7_95 ⟨nm_X7_isDigitAt, by decide, by decide⟩ rfl (by decide) rfl rfl rfl (Nat.le_of_ble_eq_true rfl) (fun r22 E23 q24 => ?_)
    obtain ⟨rfl, rfl⟩ := q24
    show WP g _ _ _ (.int (sr_b (sr_dig (D.1 66) L (s + 1))) :: _) _ _
    refine wp_zret dX7_isNumber_28 rfl (sr_b01 _) ⟨?_, rfl⟩
    unfold sr_isnum
    rw [hd]
end
section
/-- the value of the first j digits from p on (three at most count) -/
def sr_num (b : Nat → Int32) (p : Nat) : Nat → Int32
  | 0 => nI 0
  | j + 1 => if j < 3 then nI 10 * sr_num b p j + b (p + j) - nI 48 else sr_num b p j
def sr_numE (b : Nat → Int32) (L s : Nat) : Nat := sr_scan sr_digit b L (sr_dfst b L s)
def sr_numV (b : Nat → Int32) (L s : Nat) : Int32 := sr_num b (sr_dfst b L s) (sr_numE b L s - sr_dfst b L s)
/-- a number at s: its value (0 if there is none), its fault, the place behind it -/
def sr_numR (b : Nat → Int32) (L s : Nat) : Int32 := if sr_isnum b L s = true then (if b s = nI 45 then -sr_numV b L s else sr_numV b L s) else nI 0
def sr_numF (b : Nat → Int32) (L s : Nat) : Nat := if sr_isnum b L s = true then (if 3 < sr_numE b L s - sr_dfst b L s then 1 + 8 * s else 0) else 1 + 8 * s
def sr_numA (b : Nat → Int32) (L s : Nat) : Nat := if sr_isnum b L s = true then sr_numE b L s else s
theorem sr_dig_lt {b : Nat → Int32} {L s : Nat} (h : sr_dig b L s = true) : s < L := by simp [sr_dig] at h; exact h.1
theorem sr_numE_le {b : Nat → Int32} {L s : Nat} (h : sr_isnum b L s = true) : sr_dfst b L s < sr_numE b L s ∧ sr_numE b L s ≤ L := by
  have h1 := sr_dig_lt h
  have h2 : sr_digit (b (sr_dfst b L s)) = true := by simp [sr_isnum, sr_dig] at h; exact h.2
  unfold sr_numE
  rw [sr_scan_t h1 h2]
  exact ⟨sr_scan_ge _ _ _ _, sr_scan_le _ _ h1⟩
theorem sr_dfst_ge (b : Nat → Int32) (L s : Nat) : s ≤ sr_dfst b L s ∧ sr_dfst b L s ≤ s + 1 := by unfold sr_dfst; by_cases h : s < L ∧ b s = nI 45 <;> simp [h]
theorem sr_numA_le {b : Nat → Int32} {L s : Nat} (h : s ≤ L + 1) : sr_numA b L s ≤ L + 1 ∧ s ≤ sr_numA b L s := by
  unfold sr_numA
  by_cases e : sr_isnum b L s = true
  · rw [if_pos e]; have := sr_numE_le e; have := sr_dfst_ge b L s; omega
  · rw [if_neg e]; omega
theorem sr_numF_le {b : Nat → Int32} {L s : Nat} (h : s ≤ 302) : sr_numF b L s ≤ 2500 := by
  unfold sr_numF
  repeat' split
  all_goals omega
set_option maxHeartbeats 4000000 in
set_option maxRecDepth 100000 in
theorem c_X7_number_f (g : sr_G) (D : sr_St) (L f a r : Nat) (now : Nat → Int32) (hb : sr_bytes (D.1 66)) (h0 : ¬ f = 0) (hL : D.1 63 7 = nI L) (h300 : L ≤ 300) (ha : a ≤ L + 1) (hf : f ≤ 8000) (hr : r ≤ 400)  : Con g M_X7_number [.ref 63] (sr_T D f a r now) (sr_ret (some (.int (nI 0))) (sr_T D f a r now)) := by
  refine Con.of pn_X7_number (Nat.le_of_ble_eq_true rfl) ?_
  show WP g M_X7_number 0 [(0, .ref 63)] [] (sr_T D f a r now) _
  refine wp_aload_n dX7_number_0 rfl rfl ?_
  refine wp_getI_n (n := f) dX7_number_1 fl_X7_89 (by decide) rfl rfl (sr_T_5) ?_
  refine wp_if_eq_n (tgt := 9) dX7_number_4 (by decide) (by omega) (fun c25 => ?_) (fun c25 => ?_)
  · exact absurd c25 h0
  · refine wp_iconst (v := nI 0) dX7_number_7 rfl ?_
    exact wp_iret dX7_number_8 rfl ⟨rfl, rfl⟩
set_option maxHeartbeats 4000000 in
set_option maxRecDepth 100000 in
theorem c_X7_number (g : sr_G) (D : sr_St) (L a r : Nat) (now : Nat → Int32) (hb : sr_bytes (D.1 66)) (hL : D.1 63 7 = nI L) (h300 : L ≤ 300) (ha : a ≤ L + 1) (hr : r ≤ 400)  : Con g M_X7_number [.ref 63] (sr_T D 0 a r now) (sr_ret (some (.int (sr_numR (D.1 66) L (sr_skip (D.1 66) L a)))) (sr_T D (sr_numF (D.1 66) L (sr_skip (D.1 66) L a)) (sr_numA (D.1 66) L (sr_skip (D.1 66) L a)) (sr_skip (D.1 66) L a) now)) := by
  refine Con.of pn_X7_number (Nat.le_of_ble_eq_true rfl) ?_
  show WP g M_X7_number 0 [(0, .ref 63)] [] (sr_T D 0 a r now) _
  have hs1 := sr_skip_ge (D.1 66) L a
  have hs2 := sr_skip_le1 (D.1 66) ha
  generalize hsk : sr_skip (D.1 66) L a = s at *
  generalize hbb : D.1 66 = b at *
  have hW : ∀ (mi : Nat) (x1 : Int32), mi ≤ 1 → sr_isnum b L s = true → ∀ k i, i + k = L + 1 → sr_dfst b L s ≤ i → sr_scan sr_digit b L i = sr_numE b L s → WP g M_X7_number 83 [(0, .ref 63), (1, .int x1), (2, .int (nI mi)), (3, .int (nI (sr_dfst b L s))), (4, .int (sr_num b (sr_dfst b L s) (i - sr_dfst b L s)))] [] (sr_T D 0 i s now) (sr_ret (some (.int (if mi = 1 then -sr_numV b L s else sr_numV b L s))) (sr_T D (if 3 < sr_numE b L s - sr_dfst b L s then 1 + 8 * s else 0) (sr_numE b L s) s now)) := by
    intro mi x1 hmi hnum
    have hE := sr_numE_le hnum
    have hdf := sr_dfst_ge b L s
    generalize hp0 : sr_dfst b L s = p0 at *
    intro k
    induction k with
    | zero =>
      intro i hi hp he
      have : i = L + 1 := by omega
      have : sr_scan sr_digit b L i = i := sr_scan_f (by omega)
      omega
    | succ k ih =>
      intro i hi hp he
      refine wp_aload_n dX7_number_83 rfl rfl ?_
      refine wp_aload_n dX7_number_84 rfl rfl ?_
      refine wp_getI_n (n := i) dX7_number_85 fl_X7_83 (by decide) rfl rfl (sr_T_8) ?_
      refine wp_callV (M2 := M_X7_isDigitAt) (n := 1) (As := [.int (nI i)]) (st := []) dX7_number_88 (c_X7_isDigitAt g D L 0 i s now i (by omega) hL h300 (by omega) (by omega) (by omega)) ca_X7_95 ⟨nm_X7_isDigitAt, by decide, by decide⟩ rfl (by decide) rfl rfl rfl (Nat.le_of_ble_eq_true rfl) (fun r26 E27 q28 => ?_)
      rw [hbb] at q28
      obtain ⟨rfl, rfl⟩ := q28
      show WP g _ _ _ (.int (sr_b (sr_dig b L i)) :: _) _ _
      refine wp_if_eq_b (tgt := 142) dX7_number_91 (by decide) (fun c29 => ?_) (fun c29 => ?_)
      · have hnodig := c29
        refine wp_aload_n dX7_number_142 rfl rfl ?_
        refine wp_getI_n (n := i) dX7_number_143 fl_X7_83 (by decide) rfl rfl (sr_T_8) ?_
        refine wp_iload_n dX7_number_146 rfl rfl ?_
        refine wp_isub_n dX7_number_147 (by omega) ?_
        refine wp_iconst (v := nI 3) dX7_number_148 rfl ?_
        refine wp_icmp_le_n (tgt := 161) dX7_number_149 (by decide) (by omega) (by omega) (fun c30 => ?_) (fun c30 => ?_)
        · refine wp_iload_n dX7_number_161 rfl rfl ?_
          refine wp_if_eq_n (tgt := 171) dX7_number_162 (by decide) (by omega) (fun c31 => ?_) (fun c31 => ?_)
          · refine wp_iload dX7_number_171 rfl ?_
            have hei : sr_numE b L s = i := by rw [← he]; exact sr_scan_f (by simp [sr_dig] at hnodig; intro q; simp_all)
            refine wp_iret dX7_number_173 rfl ⟨?_, ?_⟩
            · unfold sr_numV; rw [hp0, hei]; rw [if_neg (by omega)]
            · rw [hei]; rw [if_neg (by omega)]
          · refine wp_iload dX7_number_165 rfl ?_
            refine wp_ineg dX7_number_167 ?_
            refine wp_goto (tgt := 173) dX7_number_168 (by decide) ?_
            have hei : sr_numE b L s = i := by rw [← he]; exact sr_scan_f (by simp [sr_dig] at hnodig; intro q; simp_all)
            refine wp_iret dX7_number_173 rfl ⟨?_, ?_⟩
            · unfold sr_numV; rw [hp0, hei]; rw [if_pos (by omega)]
            · rw [hei]; rw [if_neg (by omega)]
        · refine wp_aload_n dX7_number_152 rfl rfl ?_
          refine wp_iconst (v := nI 1) dX7_number_153 rfl ?_
          refine wp_aload_n dX7_number_154 rfl rfl ?_
          refine wp_getI_n (n := s) dX7_number_155 fl_X7_103 (by decide) rfl rfl (sr_T_9) ?_
          refine wp_callV (M2 := M_X7_fails) (n := 2) (As := [.int (nI 1), .int (nI s)]) (st := []) dX7_number_158 (c_X7_fails g D L 0 i s now 1 s (by omega) (by omega) hL h300 (by omega) (by omega) (by omega)) ca_X7_106 ⟨nm_X7_fails, by decide, by decide⟩ rfl (by decide) rfl rfl rfl (Nat.le_of_ble_eq_true rfl) (fun r32 E33 q34 => ?_)
          obtain ⟨rfl, rfl⟩ := q34
          show WP g _ _ _ _ _ _
          refine wp_iload_n dX7_number_161 rfl rfl ?_
          refine wp_if_eq_n (tgt := 171) dX7_number_162 (by decide) (by omega) (fun c35 => ?_) (fun c35 => ?_)
          · refine wp_iload dX7_number_171 rfl ?_
            have hei : sr_numE b L s = i := by rw [← he]; exact sr_scan_f (by simp [sr_dig] at hnodig; intro q; simp_all)
            refine wp_iret dX7_number_173 rfl ⟨?_, ?_⟩
            · unfold sr_numV; rw [hp0, hei]; rw [if_neg (by omega)]
            · rw [hei]; rw [if_pos (by omega)]; rfl
          · refine wp_iload dX7_number_165 rfl ?_
            refine wp_ineg dX7_number_167 ?_
            refine wp_goto (tgt := 173) dX7_number_168 (by decide) ?_
            have hei : sr_numE b L s = i := by rw [← he]; exact sr_scan_f (by simp [sr_dig] at hnodig; intro q; simp_all)
            refine wp_iret dX7_number_173 rfl ⟨?_, ?_⟩
            · unfold sr_numV; rw [hp0, hei]; rw [if_pos (by omega)]
            · rw [hei]; rw [if_pos (by omega)]; rfl
      · have hdigit := c29
        refine wp_aload_n dX7_number_94 rfl rfl ?_
        refine wp_getI_n (n := i) dX7_number_95 fl_X7_83 (by decide) rfl rfl (sr_T_8) ?_
        refine wp_iload_n dX7_number_98 rfl rfl ?_
        refine wp_isub_n dX7_number_99 (by omega) ?_
        refine wp_iconst (v := nI 3) dX7_number_100 rfl ?_
        refine wp_icmp_ge_n (tgt := 125) dX7_number_101 (by decide) (by omega) (by omega) (fun c36 => ?_) (fun c36 => ?_)
        · refine wp_iload dX7_number_125 rfl ?_
          refine wp_istore (lv' := [(0, .ref 63), (1, .int x1), (2, .int (nI mi)), (3, .int (nI p0)), (4, .int (sr_num b p0 (i - p0)))]) dX7_number_127 (by decide) rfl ?_
          refine wp_aload_n dX7_number_129 rfl rfl ?_
          refine wp_dup dX7_number_130 rfl ?_
          refine wp_getI_n (n := i) dX7_number_131 fl_X7_83 (by decide) rfl rfl (sr_T_8) ?_
          refine wp_iconst (v := nI 1) dX7_number_134 rfl ?_
          refine wp_iadd_n dX7_number_135 ?_
          refine wp_putI dX7_number_136 fl_X7_83 (by decide) rfl rfl ?_
          rw [sr_T_s8]
          refine wp_goto (tgt := 83) dX7_number_139 (by decide) ?_
          have hdg : i < L ∧ sr_digit (b i) = true := by simpa [sr_dig] using hdigit
          have h := ih (i + 1) (by omega) (by omega) (by rw [← he]; exact (sr_scan_t hdg.1 hdg.2).symm)
          rw [show i + 1 - p0 = (i - p0) + 1 by omega] at h
          unfold sr_num at h
          rw [if_neg (by omega)] at h
          exact h
        · refine wp_bipush (v := nI 10) dX7_number_104 rfl ?_
          refine wp_iload dX7_number_106 rfl ?_
          refine wp_imul dX7_number_108 ?_
          refine wp_aload_n dX7_number_109 rfl rfl ?_
          refine wp_getR (r := 66) dX7_number_110 fl_X7_16 (by decide) rfl rfl rfl ?_
          refine wp_aload_n dX7_number_113 rfl rfl ?_
          refine wp_getI_n (n := i) dX7_number_114 fl_X7_83 (by decide) rfl rfl (sr_T_8) ?_
          refine wp_bald dX7_number_117 (by decide) rfl (show _ < 300 by have := sr_dig_lt hdigit; omega) (by omega) ?_
          rw [sr_T_66, hbb]
          refine wp_iadd dX7_number_118 ?_
          refine wp_bipush (v := nI 48) dX7_number_119 rfl ?_
          refine wp_isub dX7_number_121 ?_
          refine wp_goto (tgt := 127) dX7_number_122 (by decide) ?_
          refine wp_topi (fun x37 ex37 => ?_)
          refine wp_istore (lv' := [(0, .ref 63), (1, .int x1), (2, .int (nI mi)), (3, .int (nI p0)), (4, .int x37)]) dX7_number_127 (by decide) rfl ?_
          refine wp_aload_n dX7_number_129 rfl rfl ?_
          refine wp_dup dX7_number_130 rfl ?_
          refine wp_getI_n (n := i) dX7_number_131 fl_X7_83 (by decide) rfl rfl (sr_T_8) ?_
          refine wp_iconst (v := nI 1) dX7_number_134 rfl ?_
          refine wp_iadd_n dX7_number_135 ?_
          refine wp_putI dX7_number_136 fl_X7_83 (by decide) rfl rfl ?_
          rw [sr_T_s8]
          refine wp_goto (tgt := 83) dX7_number_139 (by decide) ?_
          have hdg : i < L ∧ sr_digit (b i) = true := by simpa [sr_dig] using hdigit
          have h := ih (i + 1) (by omega) (by omega) (by rw [← he]; exact (sr_scan_t hdg.1 hdg.2).symm)
          rw [show i + 1 - p0 = (i - p0) + 1 by omega] at h
          unfold sr_num at h
          rw [if_pos (by omega), show p0 + (i - p0) = i by omega] at h
          rw [ex37]
          exact h
  refine wp_aload_n dX7_number_0 rfl rfl ?_
  refine wp_getI_n (n := 0) dX7_number_1 fl_X7_89 (by decide) rfl rfl (sr_T_5) ?_
  refine wp_if_eq (tgt := 9) dX7_number_4 (by decide) (fun _ => ?_) (fun c38 => absurd c38 (by decide))
  refine wp_aload_n dX7_number_9 rfl rfl ?_
  refine wp_callV (M2 := M_X7_isNumber) (n := 0) (As := []) (st := []) dX7_number_10 (c_X7_isNumber g D L 0 a r now (by rw [hbb]; exact hb) hL h300 (by omega) (by omega) (by omega)) ca_X7_99 ⟨nm_X7_isNumber, by decide, by decide⟩ rfl (by decide) rfl rfl rfl (Nat.le_of_ble_eq_true rfl) (fun r39 E40 q41 => ?_)
  rw [hbb, hsk] at q41
  obtain ⟨rfl, rfl⟩ := q41
  show WP g _ _ _ (.int (sr_b (sr_isnum b L s)) :: _) _ _
  refine wp_istore_n (lv' := [(0, .ref 63), (1, .int (sr_b (sr_isnum b L s)))]) dX7_number_13 rfl (by decide) rfl ?_
  refine wp_aload_n dX7_number_14 rfl rfl ?_
  refine wp_aload_n dX7_number_15 rfl rfl ?_
  refine wp_getI_n (n := s) dX7_number_16 fl_X7_83 (by decide) rfl rfl (sr_T_8) ?_
  refine wp_putI dX7_number_19 fl_X7_103 (by decide) rfl rfl ?_
  rw [sr_T_s9]
  refine wp_iload_n dX7_number_22 rfl rfl ?_
  refine wp_if_ne_b (tgt := 37) dX7_number_23 (by decide) (fun c42 => ?_) (fun c42 => ?_)
  · have hnum := c42
    refine wp_aload_n dX7_number_37 rfl rfl ?_
    refine wp_getR (r := 66) dX7_number_38 fl_X7_16 (by decide) rfl rfl rfl ?_
    refine wp_aload_n dX7_number_41 rfl rfl ?_
    refine wp_getI_n (n := s) dX7_number_42 fl_X7_83 (by decide) rfl rfl (sr_T_8) ?_
    refine wp_bald dX7_number_45 (by decide) rfl (show _ < 300 by have := sr_dig_lt hnum; have := sr_dfst_ge b L s; omega) (by omega) ?_
    rw [sr_T_66, hbb]
    refine wp_bipush (v := nI 45) dX7_number_46 rfl ?_
    refine wp_icmp_ne (tgt := 55) dX7_number_48 (by decide) (fun c43 => ?_) (fun c43 => ?_)
    · have hmin := c43
      refine wp_iconst (v := nI 0) dX7_number_55 rfl ?_
      refine wp_istore_n (lv' := [(0, .ref 63), (1, .int (sr_b (sr_isnum b L s))), (2, .int (nI 0))]) dX7_number_56 rfl (by decide) rfl ?_
      refine wp_aload_n dX7_number_57 rfl rfl ?_
      refine wp_dup dX7_number_58 rfl ?_
      refine wp_getI_n (n := s) dX7_number_59 fl_X7_83 (by decide) rfl rfl (sr_T_8) ?_
      refine wp_iload_n dX7_number_62 rfl rfl ?_
      refine wp_if_eq (tgt := 70) dX7_number_63 (by decide) (fun _ => ?_) (fun c44 => absurd c44 (by decide))
      refine wp_iconst (v := nI 0) dX7_number_70 rfl ?_
      refine wp_iadd_n dX7_number_71 ?_
      refine wp_putI dX7_number_72 fl_X7_83 (by decide) rfl rfl ?_
      rw [sr_T_s8]
      refine wp_aload_n dX7_number_75 rfl rfl ?_
      refine wp_getI_n (n := s + 0) dX7_number_76 fl_X7_83 (by decide) rfl rfl (sr_T_8) ?_
      refine wp_istore_n (lv' := [(0, .ref 63), (1, .int (sr_b (sr_isnum b L s))), (2, .int (nI 0)), (3, .int (nI (s + 0)))]) dX7_number_79 rfl (by decide) rfl ?_
      refine wp_iconst (v := nI 0) dX7_number_80 rfl ?_
      refine wp_istore (lv' := [(0, .ref 63), (1, .int (sr_b (sr_isnum b L s))), (2, .int (nI 0)), (3, .int (nI (s + 0))), (4, .int (nI 0))]) dX7_number_81 (by decide) rfl ?_
      have hL1 : s < L := by have := sr_dig_lt hnum; have := sr_dfst_ge b L s; omega
      have hd : sr_dfst b L s = s := if_neg (fun q => hmin q.2)
      have h := hW 0 (sr_b (sr_isnum b L s)) (by decide) hnum (L + 1 - sr_dfst b L s) (sr_dfst b L s) (by have := sr_dig_lt hnum; omega) (Nat.le_refl _) rfl
      rw [Nat.sub_self, hd] at h
      simp only [sr_numR, sr_numF, sr_numA, if_pos hnum, if_neg hmin]
      rw [hd]
      exact h
    · have hmin := c43
      refine wp_iconst (v := nI 1) dX7_number_51 rfl ?_
      refine wp_goto (tgt := 56) dX7_number_52 (by decide) ?_
      refine wp_istore_n (lv' := [(0, .ref 63), (1, .int (sr_b (sr_isnum b L s))), (2, .int (nI 1))]) dX7_number_56 rfl (by decide) rfl ?_
      refine wp_aload_n dX7_number_57 rfl rfl ?_
      refine wp_dup dX7_number_58 rfl ?_
      refine wp_getI_n (n := s) dX7_number_59 fl_X7_83 (by decide) rfl rfl (sr_T_8) ?_
      refine wp_iload_n dX7_number_62 rfl rfl ?_
      refine wp_if_eq (tgt := 70) dX7_number_63 (by decide) (fun c45 => absurd c45 (by decide)) (fun _ => ?_)
      refine wp_iconst (v := nI 1) dX7_number_66 rfl ?_
      refine wp_goto (tgt := 71) dX7_number_67 (by decide) ?_
      refine wp_iadd_n dX7_number_71 ?_
      refine wp_putI dX7_number_72 fl_X7_83 (by decide) rfl rfl ?_
      rw [sr_T_s8]
      refine wp_aload_n dX7_number_75 rfl rfl ?_
      refine wp_getI_n (n := s + 1) dX7_number_76 fl_X7_83 (by decide) rfl rfl (sr_T_8) ?_
      refine wp_istore_n (lv' := [(0, .ref 63), (1, .int (sr_b (sr_isnum b L s))), (2, .int (nI 1)), (3, .int (nI (s + 1)))]) dX7_number_79 rfl (by decide) rfl ?_
      refine wp_iconst (v := nI 0) dX7_number_80 rfl ?_
      refine wp_istore (lv' := [(0, .ref 63), (1, .int (sr_b (sr_isnum b L s))), (2, .int (nI 1)), (3, .int (nI (s + 1))), (4, .int (nI 0))]) dX7_number_81 (by decide) rfl ?_
      have hL1 : s < L := by have := sr_dig_lt hnum; have := sr_dfst_ge b L s; omega
      have hd : sr_dfst b L s = s + 1 := if_pos ⟨hL1, hmin⟩
      have h := hW 1 (sr_b (sr_isnum b L s)) (by decide) hnum (L + 1 - sr_dfst b L s) (sr_dfst b L s) (by have := sr_dig_lt hnum; omega) (Nat.le_refl _) rfl
      rw [Nat.sub_self, hd] at h
      simp only [sr_numR, sr_numF, sr_numA, if_pos hnum, if_pos hmin]
      rw [hd]
      exact h
  · have hnum := c42
    refine wp_aload_n dX7_number_26 rfl rfl ?_
    refine wp_iconst (v := nI 1) dX7_number_27 rfl ?_
    refine wp_aload_n dX7_number_28 rfl rfl ?_
    refine wp_getI_n (n := s) dX7_number_29 fl_X7_103 (by decide) rfl rfl (sr_T_9) ?_
    refine wp_callV (M2 := M_X7_fails) (n := 2) (As := [.int (nI 1), .int (nI s)]) (st := []) dX7_number_32 (c_X7_fails g D L 0 s s now 1 s (by omega) (by omega) hL h300 (by omega) (by omega) (by omega)) ca_X7_106 ⟨nm_X7_fails, by decide, by decide⟩ rfl (by decide) rfl rfl rfl (Nat.le_of_ble_eq_true rfl) (fun r46 E47 q48 => ?_)
    obtain ⟨rfl, rfl⟩ := q48
    show WP g _ _ _ _ _ _
    refine wp_iconst (v := nI 0) dX7_number_35 rfl ?_
    refine wp_iret dX7_number_36 rfl ?_
    simp only [sr_numR, sr_numF, sr_numA, hnum]
    exact ⟨rfl, rfl⟩
end
section
/-- the fault of a number at s that must be from lo to hi -/
def sr_numInF (b : Nat → Int32) (L s : Nat) (lo hi : Int32) : Nat := if sr_numF b L s = 0 then (if sr_isIn (sr_numR b L s) lo hi = true then 0 else 2 + 8 * s) else sr_numF b L s
theorem sr_numInF_le {b : Nat → Int32} {L s : Nat} {lo hi : Int32} (h : s ≤ 302) : sr_numInF b L s lo hi ≤ 2500 := by
  have := sr_numF_le (b := b) (L := L) h
  unfold sr_numInF
  repeat' split
  all_goals omega
set_option maxHeartbeats 4000000 in
set_option maxRecDepth 100000 in
theorem c_X7_numberIn (g : sr_G) (D : sr_St) (L a r : Nat) (now : Nat → Int32) (hb : sr_bytes (D.1 66)) (lo hi : Int32) (hL : D.1 63 7 = nI L) (h300 : L ≤ 300) (ha : a ≤ L + 1) (hr : r ≤ 400)  : Con g M_X7_numberIn [.ref 63, .int lo, .int hi] (sr_T D 0 a r now) (sr_ret (some (.int (sr_numR (D.1 66) L (sr_skip (D.1 66) L a)))) (sr_T D (sr_numInF (D.1 66) L (sr_skip (D.1 66) L a) lo hi) (sr_numA (D.1 66) L (sr_skip (D.1 66) L a)) (sr_skip (D.1 66) L a) now)) := by
  refine Con.of pn_X7_numberIn (Nat.le_of_ble_eq_true rfl) ?_
  show WP g M_X7_numberIn 0 [(0, .ref 63), (1, .int lo), (2, .int hi)] [] (sr_T D 0 a r now) _
  have hs1 := sr_skip_ge (D.1 66) L a
  have hs2 := sr_skip_le1 (D.1 66) ha
  have hA := sr_numA_le (b := D.1 66) (L := L) hs2
  have hF := sr_numF_le (b := D.1 66) (L := L) (s := sr_skip (D.1 66) L a) (by omega)
  refine wp_aload_n dX7_numberIn_0 rfl rfl ?_
  refine wp_callV (M2 := M_X7_number) (n := 0) (As := []) (st := []) dX7_numberIn_1 (c_X7_number g D L a r now hb hL h300 (by omega) (by omega)) ca_X7_110 ⟨nm_X7_number, by decide, by decide⟩ rfl (by decide) rfl rfl rfl (Nat.le_of_ble_eq_true rfl) (fun r49 E50 q51 => ?_)
  obtain ⟨rfl, rfl⟩ := q51
  show WP g _ _ _ (.int (sr_numR (D.1 66) L (sr_skip (D.1 66) L a)) :: _) _ _
  refine wp_istore_n (lv' := [(0, .ref 63), (1, .int lo), (2, .int hi), (3, .int (sr_numR (D.1 66) L (sr_skip (D.1 66) L a)))]) dX7_numberIn_4 rfl (by decide) rfl ?_
  refine wp_aload_n dX7_numberIn_5 rfl rfl ?_
  refine wp_getI_n (n := sr_numF (D.1 66) L (sr_skip (D.1 66) L a)) dX7_numberIn_6 fl_X7_89 (by decide) rfl rfl (sr_T_5) ?_
  refine wp_if_ne_n (tgt := 30) dX7_numberIn_9 (by decide) (by omega) (fun c52 => ?_) (fun c52 => ?_)
  · refine wp_iload_n dX7_numberIn_30 rfl rfl ?_
    refine wp_iret dX7_numberIn_31 rfl ⟨?_, ?_⟩
    · first | rfl | (congr 2)
    · simp_all [sr_numInF]
  · refine wp_iload_n dX7_numberIn_12 rfl rfl ?_
    refine wp_iload_n dX7_numberIn_13 rfl rfl ?_
    refine wp_iload_n dX7_numberIn_14 rfl rfl ?_
    refine wp_callS (M2 := M_X7_isIn) (n := 3) (As := [.int (sr_numR (D.1 66) L (sr_skip (D.1 66) L a)), .int lo, .int hi]) (st := []) dX7_numberIn_15 (c_X7_isIn g (sr_T D (sr_numF (D.1 66) L (sr_skip (D.1 66) L a)) (sr_numA (D.1 66) L (sr_skip (D.1 66) L a)) (sr_skip (D.1 66) L a) now) (sr_numR (D.1 66) L (sr_skip (D.1 66) L a)) lo hi) ca_X7_50 ⟨nm_X7_isIn, by decide, by decide⟩ rfl rfl (Nat.le_of_ble_eq_true rfl) (fun r53 E54 q55 => ?_)
    obtain ⟨rfl, rfl⟩ := q55
    show WP g _ _ _ (.int (sr_b (sr_isIn (sr_numR (D.1 66) L (sr_skip (D.1 66) L a)) lo hi)) :: _) _ _
    refine wp_if_ne_b (tgt := 30) dX7_numberIn_18 (by decide) (fun c56 => ?_) (fun c56 => ?_)
    · refine wp_iload_n dX7_numberIn_30 rfl rfl ?_
      refine wp_iret dX7_numberIn_31 rfl ⟨?_, ?_⟩
      · first | rfl | (congr 2)
      · simp_all [sr_numInF]
    · refine wp_aload_n dX7_numberIn_21 rfl rfl ?_
      refine wp_iconst (v := nI 2) dX7_numberIn_22 rfl ?_
      refine wp_aload_n dX7_numberIn_23 rfl rfl ?_
      refine wp_getI_n (n := sr_skip (D.1 66) L a) dX7_numberIn_24 fl_X7_103 (by decide) rfl rfl (sr_T_9) ?_
      refine wp_callV (M2 := M_X7_fails) (n := 2) (As := [.int (nI 2), .int (nI (sr_skip (D.1 66) L a))]) (st := []) dX7_numberIn_27 (c_X7_fails g D L (sr_numF (D.1 66) L (sr_skip (D.1 66) L a)) (sr_numA (D.1 66) L (sr_skip (D.1 66) L a)) (sr_skip (D.1 66) L a) now 2 (sr_skip (D.1 66) L a) (by omega) (by omega) hL h300 (by omega) (by omega) (by omega)) ca_X7_106 ⟨nm_X7_fails, by decide, by decide⟩ rfl (by decide) rfl rfl rfl (Nat.le_of_ble_eq_true rfl) (fun r57 E58 q59 => ?_)
      obtain ⟨rfl, rfl⟩ := q59
      show WP g _ _ _ _ _ _
      refine wp_iload_n dX7_numberIn_30 rfl rfl ?_
      refine wp_iret dX7_numberIn_31 rfl ⟨?_, ?_⟩
      · first | rfl | (congr 2)
      · simp_all [sr_numInF]
/-- the letters from p on as one number (none for more than five) -/
def sr_hash (b : Nat → Int32) (p : Nat) : Nat → Int32
  | 0 => nI 0
  | j + 1 => if j < 5 then nI 32 * sr_hash b p j + b (p + j) - nI 96 else nI 0
def sr_wend (b : Nat → Int32) (L s : Nat) : Nat := sr_scan sr_letter b L s
def sr_word (b : Nat → Int32) (L s : Nat) : Int32 := sr_hash b s (sr_wend b L s - s)
theorem sr_wend_ge (b : Nat → Int32) (L s : Nat) : s ≤ sr_wend b L s := sr_scan_ge _ _ _ _
theorem sr_wend_le1 {b : Nat → Int32} {L s : Nat} (h : s ≤ L + 1) : sr_wend b L s ≤ L + 1 := by
  by_cases h1 : s ≤ L
  · have := sr_scan_le sr_letter b h1; unfold sr_wend; omega
  · have : sr_wend b L s = s := sr_scan_f (by omega)
    omega
set_option maxHeartbeats 4000000 in
set_option maxRecDepth 100000 in
theorem c_X7_word (g : sr_G) (D : sr_St) (L f a r : Nat) (now : Nat → Int32)  (hL : D.1 63 7 = nI L) (h300 : L ≤ 300) (ha : a ≤ L + 1) (hf : f ≤ 8000) (hr : r ≤ 400)  : Con g M_X7_word [.ref 63] (sr_T D f a r now) (sr_ret (some (.int (sr_word (D.1 66) L (sr_skip (D.1 66) L a)))) (sr_T D f (sr_wend (D.1 66) L (sr_skip (D.1 66) L a)) (sr_skip (D.1 66) L a) now)) := by
  refine Con.of pn_X7_word (Nat.le_of_ble_eq_true rfl) ?_
  show WP g M_X7_word 0 [(0, .ref 63)] [] (sr_T D f a r now) _
  have hs1 := sr_skip_ge (D.1 66) L a
  have hs2 := sr_skip_le1 (D.1 66) ha
  generalize hsk : sr_skip (D.1 66) L a = s at *
  generalize hbb : D.1 66 = b at *
  have hW : ∀ k i, i + k = L + 1 → s ≤ i → sr_scan sr_letter b L i = sr_wend b L s → WP g M_X7_word 15 [(0, .ref 63), (1, .int (sr_hash b s (i - s)))] [] (sr_T D f i s now) (sr_ret (some (.int (sr_word b L s))) (sr_T D f (sr_wend b L s) s now)) := by
    intro k
    induction k with
    | zero =>
      intro i hi hp he
      have hi1 : i = L + 1 := by omega
      have hei : sr_wend b L s = i := by rw [← he]; exact sr_scan_f (by omega)
      refine wp_aload_n dX7_word_15 rfl rfl ?_
      refine wp_getI_n (n := i) dX7_word_16 fl_X7_83 (by decide) rfl rfl (sr_T_8) ?_
      refine wp_aload_n dX7_word_19 rfl rfl ?_
      refine wp_getI_n (n := L) dX7_word_20 fl_X7_86 (by decide) rfl rfl ((sr_T_7 hL)) ?_
      refine wp_icmp_ge_n (tgt := 93) dX7_word_23 (by decide) (by omega) (by omega) (fun c60 => ?_) (fun c60 => ?_)
      · refine wp_iload_n dX7_word_93 rfl rfl ?_
        refine wp_iret dX7_word_94 rfl ?_
        unfold sr_word
        rw [hei]
        exact ⟨rfl, rfl⟩
      · exact absurd c60 (by omega)
    | succ k ih =>
      intro i hi hp he
      refine wp_aload_n dX7_word_15 rfl rfl ?_
      refine wp_getI_n (n := i) dX7_word_16 fl_X7_83 (by decide) rfl rfl (sr_T_8) ?_
      refine wp_aload_n dX7_word_19 rfl rfl ?_
      refine wp_getI_n (n := L) dX7_word_20 fl_X7_86 (by decide) rfl rfl ((sr_T_7 hL)) ?_
      refine wp_icmp_ge_n (tgt := 93) dX7_word_23 (by decide) (by omega) (by omega) (fun c61 => ?_) (fun c61 => ?_)
      · refine wp_iload_n dX7_word_93 rfl rfl ?_
        have hei : sr_wend b L s = i := by rw [← he]; exact sr_scan_f (by first | omega | (rw [hlet]; simp))
        refine wp_iret dX7_word_94 rfl ?_
        unfold sr_word
        rw [hei]
        exact ⟨rfl, rfl⟩
      · refine wp_aload_n dX7_word_26 rfl rfl ?_
        refine wp_getR (r := 66) dX7_word_27 fl_X7_16 (by decide) rfl rfl rfl ?_
        refine wp_aload_n dX7_word_30 rfl rfl ?_
        refine wp_getI_n (n := i) dX7_word_31 fl_X7_83 (by decide) rfl rfl (sr_T_8) ?_
        refine wp_bald dX7_word_34 (by decide) rfl (show _ < 300 by omega) (by omega) ?_
        rw [sr_T_66, hbb]
        refine wp_bipush (v := nI 97) dX7_word_35 rfl ?_
        refine wp_bipush (v := nI 122) dX7_word_37 rfl ?_
        refine wp_callS (M2 := M_X7_isIn) (n := 3) (As := [.int (b i), .int (nI 97), .int (nI 122)]) (st := []) dX7_word_39 (c_X7_isIn g (sr_T D f i s now) (b i) (nI 97) (nI 122)) ca_X7_50 ⟨nm_X7_isIn, by decide, by decide⟩ rfl rfl (Nat.le_of_ble_eq_true rfl) (fun r62 E63 q64 => ?_)
        obtain ⟨rfl, rfl⟩ := q64
        show WP g _ _ _ (.int (sr_b (sr_isIn (b i) (nI 97) (nI 122))) :: _) _ _
        refine wp_if_eq_b (tgt := 93) dX7_word_42 (by decide) (fun c65 => ?_) (fun c65 => ?_)
        · have hlet : sr_letter (b i) = false := c65
          refine wp_iload_n dX7_word_93 rfl rfl ?_
          have hei : sr_wend b L s = i := by rw [← he]; exact sr_scan_f (by first | omega | (rw [hlet]; simp))
          refine wp_iret dX7_word_94 rfl ?_
          unfold sr_word
          rw [hei]
          exact ⟨rfl, rfl⟩
        · have hlet : sr_letter (b i) = true := c65
          refine wp_aload_n dX7_word_45 rfl rfl ?_
          refine wp_getI_n (n := i) dX7_word_46 fl_X7_83 (by decide) rfl rfl (sr_T_8) ?_
          refine wp_aload_n dX7_word_49 rfl rfl ?_
          refine wp_getI_n (n := s) dX7_word_50 fl_X7_103 (by decide) rfl rfl (sr_T_9) ?_
          refine wp_isub_n dX7_word_53 (by omega) ?_
          refine wp_iconst (v := nI 5) dX7_word_54 rfl ?_
          refine wp_icmp_ge_n (tgt := 78) dX7_word_55 (by decide) (by omega) (by omega) (fun c66 => ?_) (fun c66 => ?_)
          · refine wp_iconst (v := nI 0) dX7_word_78 rfl ?_
            refine wp_istore_n (lv' := [(0, .ref 63), (1, .int (nI 0))]) dX7_word_79 rfl (by decide) rfl ?_
            refine wp_aload_n dX7_word_80 rfl rfl ?_
            refine wp_dup dX7_word_81 rfl ?_
            refine wp_getI_n (n := i) dX7_word_82 fl_X7_83 (by decide) rfl rfl (sr_T_8) ?_
            refine wp_iconst (v := nI 1) dX7_word_85 rfl ?_
            refine wp_iadd_n dX7_word_86 ?_
            refine wp_putI dX7_word_87 fl_X7_83 (by decide) rfl rfl ?_
            rw [sr_T_s8]
            refine wp_goto (tgt := 15) dX7_word_90 (by decide) ?_
            have h := ih (i + 1) (by omega) (by omega) (by rw [← he]; exact (sr_scan_t (by omega) hlet).symm)
            rw [show i + 1 - s = (i - s) + 1 by omega] at h
            unfold sr_hash at h
            rw [if_neg (by omega)] at h
            exact h
          · refine wp_bipush (v := nI 32) dX7_word_58 rfl ?_
            refine wp_iload_n dX7_word_60 rfl rfl ?_
            refine wp_imul dX7_word_61 ?_
            refine wp_aload_n dX7_word_62 rfl rfl ?_
            refine wp_getR (r := 66) dX7_word_63 fl_X7_16 (by decide) rfl rfl rfl ?_
            refine wp_aload_n dX7_word_66 rfl rfl ?_
            refine wp_getI_n (n := i) dX7_word_67 fl_X7_83 (by decide) rfl rfl (sr_T_8) ?_
            refine wp_bald dX7_word_70 (by decide) rfl (show _ < 300 by omega) (by omega) ?_
            rw [sr_T_66, hbb]
            refine wp_iadd dX7_word_71 ?_
            refine wp_bipush (v := nI 96) dX7_word_72 rfl ?_
            refine wp_isub dX7_word_74 ?_
            refine wp_goto (tgt := 79) dX7_word_75 (by decide) ?_
            refine wp_topi (fun x67 ex67 => ?_)
            refine wp_istore_n (lv' := [(0, .ref 63), (1, .int x67)]) dX7_word_79 rfl (by decide) rfl ?_
            refine wp_aload_n dX7_word_80 rfl rfl ?_
            refine wp_dup dX7_word_81 rfl ?_
            refine wp_getI_n (n := i) dX7_word_82 fl_X7_83 (by decide) rfl rfl (sr_T_8) ?_
            refine wp_iconst (v := nI 1) dX7_word_85 rfl ?_
            refine wp_iadd_n dX7_word_86 ?_
            refine wp_putI dX7_word_87 fl_X7_83 (by decide) rfl rfl ?_
            rw [sr_T_s8]
            refine wp_goto (tgt := 15) dX7_word_90 (by decide) ?_
            have h := ih (i + 1) (by omega) (by omega) (by rw [← he]; exact (sr_scan_t (by omega) hlet).symm)
            rw [show i + 1 - s = (i - s) + 1 by omega] at h
            unfold sr_hash at h
            rw [if_pos (by omega), show s + (i - s) = i by omega] at h
            rw [ex67]
            exact h
  refine wp_aload_n dX7_word_0 rfl rfl ?_
  refine wp_callV (M2 := M_X7_here) (n := 0) (As := []) (st := []) dX7_word_1 (c_X7_here g D L f a r now hL h300 (by omega) (by omega) (by omega)) ca_X7_92 ⟨nm_X7_here, by decide, by decide⟩ rfl (by decide) rfl rfl rfl (Nat.le_of_ble_eq_true rfl) (fun r68 E69 q70 => ?_)
  rw [hbb, hsk] at q70
  obtain ⟨rfl, rfl⟩ := q70
  show WP g _ _ _ (.int (sr_at1 b L s) :: _) _ _
  refine wp_pop dX7_word_4 rfl ?_
  refine wp_aload_n dX7_word_5 rfl rfl ?_
  refine wp_aload_n dX7_word_6 rfl rfl ?_
  refine wp_getI_n (n := s) dX7_word_7 fl_X7_83 (by decide) rfl rfl (sr_T_8) ?_
  refine wp_putI dX7_word_10 fl_X7_103 (by decide) rfl rfl ?_
  rw [sr_T_s9]
  refine wp_iconst (v := nI 0) dX7_word_13 rfl ?_
  refine wp_istore_n (lv' := [(0, .ref 63), (1, .int (nI 0))]) dX7_word_14 rfl (by decide) rfl ?_
  have h := hW (L + 1 - s) s (by omega) (Nat.le_refl _) rfl
  rw [Nat.sub_self] at h
  exact h
set_option maxHeartbeats 4000000 in
set_option maxRecDepth 100000 in
theorem c_X7_letters (g : sr_G) (D : sr_St) (p q r s t : Nat)  : Con g M_X7_letters [.int (nI p), .int (nI q), .int (nI r), .int (nI s), .int (nI t)] D (sr_ret (some (.int (nI ((((p * 32 + q) * 32 + r) * 32 + s) * 32 + t)))) D) := by
  refine Con.of pn_X7_letters (Nat.le_of_ble_eq_true rfl) ?_
  show WP g M_X7_letters 0 [(0, .int (nI p)), (1, .int (nI q)), (2, .int (nI r)), (3, .int (nI s)), (4, .int (nI t))] [] D _
  refine wp_iload_n dX7_letters_0 rfl rfl ?_
  refine wp_bipush (v := nI 32) dX7_letters_1 rfl ?_
  refine wp_imul_n dX7_letters_3 ?_
  refine wp_iload_n dX7_letters_4 rfl rfl ?_
  refine wp_iadd_n dX7_letters_5 ?_
  refine wp_bipush (v := nI 32) dX7_letters_6 rfl ?_
  refine wp_imul_n dX7_letters_8 ?_
  refine wp_iload_n dX7_letters_9 rfl rfl ?_
  refine wp_iadd_n dX7_letters_10 ?_
  refine wp_bipush (v := nI 32) dX7_letters_11 rfl ?_
  refine wp_imul_n dX7_letters_13 ?_
  refine wp_iload_n dX7_letters_14 rfl rfl ?_
  refine wp_iadd_n dX7_letters_15 ?_
  refine wp_bipush (v := nI 32) dX7_letters_16 rfl ?_
  refine wp_imul_n dX7_letters_18 ?_
  refine wp_iload dX7_letters_19 rfl ?_
  refine wp_iadd_n dX7_letters_21 ?_
  exact wp_iret dX7_letters_22 rfl ⟨rfl, rfl⟩
end

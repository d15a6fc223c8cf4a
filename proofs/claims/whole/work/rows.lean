section
-- ===== PART A: goes FIRST, ahead of the names: the tables' words, and 'selects' of the private methods out of them =====
/-- a private method of a class that the tables say can be made, by its rows of tables_1 -/
def lw_okq (q : MethodName × Nat) : Prop := (q.1.cls ≠ "java/lang/invoke/MethodHandle" ∧ q.1.cls ≠ "java/lang/invoke/VarHandle") ∧ Cond.instantiable q.1.cls q.2 ∈ tables_1 ∧ Cond.privateMethod q.1 ∈ tables_1 ∧ Cond.instanceMethod q.1 ∈ tables_1
theorem lw_p0 : lw_okq (⟨"SeaParcels", "finding", "(I)I"⟩, 7) := ⟨⟨by decide +kernel, by decide +kernel⟩, List.mem_of_getElem? (i := 15) (by decide +kernel), List.mem_of_getElem? (i := 185) (by decide +kernel), List.mem_of_getElem? (i := 186) (by decide +kernel)⟩
theorem lw_p1 : lw_okq (⟨"SeaParcels", "isNoParcel", "(I)Z"⟩, 7) := ⟨⟨by decide +kernel, by decide +kernel⟩, List.mem_of_getElem? (i := 15) (by decide +kernel), List.mem_of_getElem? (i := 214) (by decide +kernel), List.mem_of_getElem? (i := 215) (by decide +kernel)⟩
theorem lw_p2 : lw_okq (⟨"SeaParcels$Coast", "meet", "(LSeaParcels$Parcel;I)V"⟩, 9) := ⟨⟨by decide +kernel, by decide +kernel⟩, List.mem_of_getElem? (i := 23) (by decide +kernel), List.mem_of_getElem? (i := 288) (by decide +kernel), List.mem_of_getElem? (i := 289) (by decide +kernel)⟩
theorem lw_p3 : lw_okq (⟨"SeaParcels", "tried", "(I)LSeaParcels$Parcel;"⟩, 7) := ⟨⟨by decide +kernel, by decide +kernel⟩, List.mem_of_getElem? (i := 15) (by decide +kernel), List.mem_of_getElem? (i := 329) (by decide +kernel), List.mem_of_getElem? (i := 330) (by decide +kernel)⟩
theorem lw_p4 : lw_okq (⟨"SeaParcels", "isTakenOnTrial", "(LSeaParcels$Parcel;I)Z"⟩, 7) := ⟨⟨by decide +kernel, by decide +kernel⟩, List.mem_of_getElem? (i := 15) (by decide +kernel), List.mem_of_getElem? (i := 366) (by decide +kernel), List.mem_of_getElem? (i := 367) (by decide +kernel)⟩
theorem lw_p5 : lw_okq (⟨"SeaParcels", "allAsTold", "(III)I"⟩, 7) := ⟨⟨by decide +kernel, by decide +kernel⟩, List.mem_of_getElem? (i := 15) (by decide +kernel), List.mem_of_getElem? (i := 397) (by decide +kernel), List.mem_of_getElem? (i := 398) (by decide +kernel)⟩
theorem lw_p6 : lw_okq (⟨"SeaParcels", "wrongSheet", "(I)I"⟩, 7) := ⟨⟨by decide +kernel, by decide +kernel⟩, List.mem_of_getElem? (i := 15) (by decide +kernel), List.mem_of_getElem? (i := 401) (by decide +kernel), List.mem_of_getElem? (i := 402) (by decide +kernel)⟩
theorem lw_p7 : lw_okq (⟨"SeaParcels", "isAsTold", "(LSeaParcels$Parcel;LSeaParcels$Sheet;)Z"⟩, 7) := ⟨⟨by decide +kernel, by decide +kernel⟩, List.mem_of_getElem? (i := 15) (by decide +kernel), List.mem_of_getElem? (i := 413) (by decide +kernel), List.mem_of_getElem? (i := 414) (by decide +kernel)⟩
theorem lw_p8 : lw_okq (⟨"SeaParcels$Tape", "step", "()V"⟩, 6) := ⟨⟨by decide +kernel, by decide +kernel⟩, List.mem_of_getElem? (i := 108) (by decide +kernel), List.mem_of_getElem? (i := 458) (by decide +kernel), List.mem_of_getElem? (i := 459) (by decide +kernel)⟩
theorem lw_p9 : lw_okq (⟨"SeaParcels$Tape", "sortAt", "(I)I"⟩, 6) := ⟨⟨by decide +kernel, by decide +kernel⟩, List.mem_of_getElem? (i := 108) (by decide +kernel), List.mem_of_getElem? (i := 462) (by decide +kernel), List.mem_of_getElem? (i := 463) (by decide +kernel)⟩
theorem lw_p10 : lw_okq (⟨"SeaParcels$Tape", "tellItem", "(LSeaParcels$Coast;)Z"⟩, 6) := ⟨⟨by decide +kernel, by decide +kernel⟩, List.mem_of_getElem? (i := 108) (by decide +kernel), List.mem_of_getElem? (i := 466) (by decide +kernel), List.mem_of_getElem? (i := 467) (by decide +kernel)⟩
theorem lw_p11 : lw_okq (⟨"SeaParcels$Tape", "passes", "(Ljava/lang/String;)Z"⟩, 6) := ⟨⟨by decide +kernel, by decide +kernel⟩, List.mem_of_getElem? (i := 108) (by decide +kernel), List.mem_of_getElem? (i := 471) (by decide +kernel), List.mem_of_getElem? (i := 472) (by decide +kernel)⟩
theorem lw_p12 : lw_okq (⟨"SeaParcels$Tape", "isWord", "(Ljava/lang/String;)Z"⟩, 6) := ⟨⟨by decide +kernel, by decide +kernel⟩, List.mem_of_getElem? (i := 108) (by decide +kernel), List.mem_of_getElem? (i := 475) (by decide +kernel), List.mem_of_getElem? (i := 476) (by decide +kernel)⟩
theorem lw_p13 : lw_okq (⟨"SeaParcels$Tape", "tellTide", "(LSeaParcels$Coast;)Z"⟩, 6) := ⟨⟨by decide +kernel, by decide +kernel⟩, List.mem_of_getElem? (i := 108) (by decide +kernel), List.mem_of_getElem? (i := 527) (by decide +kernel), List.mem_of_getElem? (i := 528) (by decide +kernel)⟩
theorem lw_p14 : lw_okq (⟨"SeaParcels$Tape", "isNumber", "(II)Z"⟩, 6) := ⟨⟨by decide +kernel, by decide +kernel⟩, List.mem_of_getElem? (i := 108) (by decide +kernel), List.mem_of_getElem? (i := 531) (by decide +kernel), List.mem_of_getElem? (i := 532) (by decide +kernel)⟩
theorem lw_p15 : lw_okq (⟨"SeaParcels$Tape", "tellStorm", "(LSeaParcels$Coast;)Z"⟩, 6) := ⟨⟨by decide +kernel, by decide +kernel⟩, List.mem_of_getElem? (i := 108) (by decide +kernel), List.mem_of_getElem? (i := 536) (by decide +kernel), List.mem_of_getElem? (i := 537) (by decide +kernel)⟩
def lw_privs_1 : List (MethodName × Nat) := [(⟨"SeaParcels", "finding", "(I)I"⟩, 7), (⟨"SeaParcels", "isNoParcel", "(I)Z"⟩, 7), (⟨"SeaParcels$Coast", "meet", "(LSeaParcels$Parcel;I)V"⟩, 9), (⟨"SeaParcels", "tried", "(I)LSeaParcels$Parcel;"⟩, 7), (⟨"SeaParcels", "isTakenOnTrial", "(LSeaParcels$Parcel;I)Z"⟩, 7), (⟨"SeaParcels", "allAsTold", "(III)I"⟩, 7), (⟨"SeaParcels", "wrongSheet", "(I)I"⟩, 7), (⟨"SeaParcels", "isAsTold", "(LSeaParcels$Parcel;LSeaParcels$Sheet;)Z"⟩, 7), (⟨"SeaParcels$Tape", "step", "()V"⟩, 6), (⟨"SeaParcels$Tape", "sortAt", "(I)I"⟩, 6), (⟨"SeaParcels$Tape", "tellItem", "(LSeaParcels$Coast;)Z"⟩, 6), (⟨"SeaParcels$Tape", "passes", "(Ljava/lang/String;)Z"⟩, 6), (⟨"SeaParcels$Tape", "isWord", "(Ljava/lang/String;)Z"⟩, 6), (⟨"SeaParcels$Tape", "tellTide", "(LSeaParcels$Coast;)Z"⟩, 6), (⟨"SeaParcels$Tape", "isNumber", "(II)Z"⟩, 6), (⟨"SeaParcels$Tape", "tellStorm", "(LSeaParcels$Coast;)Z"⟩, 6)]
theorem lw_r1 : ∀ q ∈ lw_privs_1, lw_okq q := List.forall_mem_cons.mpr ⟨lw_p0, List.forall_mem_cons.mpr ⟨lw_p1, List.forall_mem_cons.mpr ⟨lw_p2, List.forall_mem_cons.mpr ⟨lw_p3, List.forall_mem_cons.mpr ⟨lw_p4, List.forall_mem_cons.mpr ⟨lw_p5, List.forall_mem_cons.mpr ⟨lw_p6, List.forall_mem_cons.mpr ⟨lw_p7, List.forall_mem_cons.mpr ⟨lw_p8, List.forall_mem_cons.mpr ⟨lw_p9, List.forall_mem_cons.mpr ⟨lw_p10, List.forall_mem_cons.mpr ⟨lw_p11, List.forall_mem_cons.mpr ⟨lw_p12, List.forall_mem_cons.mpr ⟨lw_p13, List.forall_mem_cons.mpr ⟨lw_p14, List.forall_mem_cons.mpr ⟨lw_p15, fun _ h => absurd h List.not_mem_nil⟩⟩⟩⟩⟩⟩⟩⟩⟩⟩⟩⟩⟩⟩⟩⟩
theorem lw_p16 : lw_okq (⟨"SeaParcels$Tape", "tellParcel", "(LSeaParcels$Coast;I)Z"⟩, 6) := ⟨⟨by decide +kernel, by decide +kernel⟩, List.mem_of_getElem? (i := 108) (by decide +kernel), List.mem_of_getElem? (i := 550) (by decide +kernel), List.mem_of_getElem? (i := 551) (by decide +kernel)⟩
theorem lw_p17 : lw_okq (⟨"SeaParcels$Tape", "tellPart", "(LSeaParcels$Parcel;Ljava/lang/String;II)Z"⟩, 6) := ⟨⟨by decide +kernel, by decide +kernel⟩, List.mem_of_getElem? (i := 108) (by decide +kernel), List.mem_of_getElem? (i := 556) (by decide +kernel), List.mem_of_getElem? (i := 557) (by decide +kernel)⟩
theorem lw_p18 : lw_okq (⟨"SeaParcelsModel", "no", "(I)I"⟩, 18) := ⟨⟨by decide +kernel, by decide +kernel⟩, List.mem_of_getElem? (i := 645) (by decide +kernel), List.mem_of_getElem? (i := 720) (by decide +kernel), List.mem_of_getElem? (i := 721) (by decide +kernel)⟩
theorem lw_p19 : lw_okq (⟨"SeaParcelsModel", "adds", "(I)V"⟩, 18) := ⟨⟨by decide +kernel, by decide +kernel⟩, List.mem_of_getElem? (i := 645) (by decide +kernel), List.mem_of_getElem? (i := 737) (by decide +kernel), List.mem_of_getElem? (i := 738) (by decide +kernel)⟩
theorem lw_p20 : lw_okq (⟨"SeaParcelsModel", "puts", "(III)V"⟩, 18) := ⟨⟨by decide +kernel, by decide +kernel⟩, List.mem_of_getElem? (i := 645) (by decide +kernel), List.mem_of_getElem? (i := 741) (by decide +kernel), List.mem_of_getElem? (i := 742) (by decide +kernel)⟩
theorem lw_p21 : lw_okq (⟨"SeaParcelsModel", "isParcel", "(I)Z"⟩, 18) := ⟨⟨by decide +kernel, by decide +kernel⟩, List.mem_of_getElem? (i := 645) (by decide +kernel), List.mem_of_getElem? (i := 749) (by decide +kernel), List.mem_of_getElem? (i := 750) (by decide +kernel)⟩
theorem lw_p22 : lw_okq (⟨"SeaParcelsModel", "movesOf", "(I)I"⟩, 18) := ⟨⟨by decide +kernel, by decide +kernel⟩, List.mem_of_getElem? (i := 645) (by decide +kernel), List.mem_of_getElem? (i := 753) (by decide +kernel), List.mem_of_getElem? (i := 754) (by decide +kernel)⟩
theorem lw_p23 : lw_okq (⟨"SeaParcelsModel", "get", "(II)I"⟩, 18) := ⟨⟨by decide +kernel, by decide +kernel⟩, List.mem_of_getElem? (i := 645) (by decide +kernel), List.mem_of_getElem? (i := 757) (by decide +kernel), List.mem_of_getElem? (i := 758) (by decide +kernel)⟩
theorem lw_p24 : lw_okq (⟨"SeaParcelsModel", "lastsOf", "(I)I"⟩, 18) := ⟨⟨by decide +kernel, by decide +kernel⟩, List.mem_of_getElem? (i := 645) (by decide +kernel), List.mem_of_getElem? (i := 761) (by decide +kernel), List.mem_of_getElem? (i := 762) (by decide +kernel)⟩
theorem lw_p25 : lw_okq (⟨"SeaParcelsModel", "paysOf", "(I)I"⟩, 18) := ⟨⟨by decide +kernel, by decide +kernel⟩, List.mem_of_getElem? (i := 645) (by decide +kernel), List.mem_of_getElem? (i := 765) (by decide +kernel), List.mem_of_getElem? (i := 766) (by decide +kernel)⟩
theorem lw_p26 : lw_okq (⟨"SeaParcelsModel", "delaysOf", "(I)I"⟩, 18) := ⟨⟨by decide +kernel, by decide +kernel⟩, List.mem_of_getElem? (i := 645) (by decide +kernel), List.mem_of_getElem? (i := 769) (by decide +kernel), List.mem_of_getElem? (i := 770) (by decide +kernel)⟩
theorem lw_p27 : lw_okq (⟨"SeaParcelsModel", "isSigned", "(II)Z"⟩, 18) := ⟨⟨by decide +kernel, by decide +kernel⟩, List.mem_of_getElem? (i := 645) (by decide +kernel), List.mem_of_getElem? (i := 784) (by decide +kernel), List.mem_of_getElem? (i := 785) (by decide +kernel)⟩
theorem lw_p28 : lw_okq (⟨"SeaParcelsModel", "goes", "(I)V"⟩, 18) := ⟨⟨by decide +kernel, by decide +kernel⟩, List.mem_of_getElem? (i := 645) (by decide +kernel), List.mem_of_getElem? (i := 797) (by decide +kernel), List.mem_of_getElem? (i := 798) (by decide +kernel)⟩
theorem lw_p29 : lw_okq (⟨"SeaParcelsModel", "day", "()V"⟩, 18) := ⟨⟨by decide +kernel, by decide +kernel⟩, List.mem_of_getElem? (i := 645) (by decide +kernel), List.mem_of_getElem? (i := 801) (by decide +kernel), List.mem_of_getElem? (i := 802) (by decide +kernel)⟩
theorem lw_p30 : lw_okq (⟨"SeaParcelsModel", "tideNow", "()I"⟩, 18) := ⟨⟨by decide +kernel, by decide +kernel⟩, List.mem_of_getElem? (i := 645) (by decide +kernel), List.mem_of_getElem? (i := 805) (by decide +kernel), List.mem_of_getElem? (i := 806) (by decide +kernel)⟩
theorem lw_p31 : lw_okq (⟨"SeaParcelsModel", "meetsTide", "(II)V"⟩, 18) := ⟨⟨by decide +kernel, by decide +kernel⟩, List.mem_of_getElem? (i := 645) (by decide +kernel), List.mem_of_getElem? (i := 809) (by decide +kernel), List.mem_of_getElem? (i := 810) (by decide +kernel)⟩
def lw_privs_2 : List (MethodName × Nat) := [(⟨"SeaParcels$Tape", "tellParcel", "(LSeaParcels$Coast;I)Z"⟩, 6), (⟨"SeaParcels$Tape", "tellPart", "(LSeaParcels$Parcel;Ljava/lang/String;II)Z"⟩, 6), (⟨"SeaParcelsModel", "no", "(I)I"⟩, 18), (⟨"SeaParcelsModel", "adds", "(I)V"⟩, 18), (⟨"SeaParcelsModel", "puts", "(III)V"⟩, 18), (⟨"SeaParcelsModel", "isParcel", "(I)Z"⟩, 18), (⟨"SeaParcelsModel", "movesOf", "(I)I"⟩, 18), (⟨"SeaParcelsModel", "get", "(II)I"⟩, 18), (⟨"SeaParcelsModel", "lastsOf", "(I)I"⟩, 18), (⟨"SeaParcelsModel", "paysOf", "(I)I"⟩, 18), (⟨"SeaParcelsModel", "delaysOf", "(I)I"⟩, 18), (⟨"SeaParcelsModel", "isSigned", "(II)Z"⟩, 18), (⟨"SeaParcelsModel", "goes", "(I)V"⟩, 18), (⟨"SeaParcelsModel", "day", "()V"⟩, 18), (⟨"SeaParcelsModel", "tideNow", "()I"⟩, 18), (⟨"SeaParcelsModel", "meetsTide", "(II)V"⟩, 18)]
theorem lw_r2 : ∀ q ∈ lw_privs_2, lw_okq q := List.forall_mem_cons.mpr ⟨lw_p16, List.forall_mem_cons.mpr ⟨lw_p17, List.forall_mem_cons.mpr ⟨lw_p18, List.forall_mem_cons.mpr ⟨lw_p19, List.forall_mem_cons.mpr ⟨lw_p20, List.forall_mem_cons.mpr ⟨lw_p21, List.forall_mem_cons.mpr ⟨lw_p22, List.forall_mem_cons.mpr ⟨lw_p23, List.forall_mem_cons.mpr ⟨lw_p24, List.forall_mem_cons.mpr ⟨lw_p25, List.forall_mem_cons.mpr ⟨lw_p26, List.forall_mem_cons.mpr ⟨lw_p27, List.forall_mem_cons.mpr ⟨lw_p28, List.forall_mem_cons.mpr ⟨lw_p29, List.forall_mem_cons.mpr ⟨lw_p30, List.forall_mem_cons.mpr ⟨lw_p31, fun _ h => absurd h List.not_mem_nil⟩⟩⟩⟩⟩⟩⟩⟩⟩⟩⟩⟩⟩⟩⟩⟩
theorem lw_p32 : lw_okq (⟨"SeaParcelsModel", "waitsOn", "(I)V"⟩, 18) := ⟨⟨by decide +kernel, by decide +kernel⟩, List.mem_of_getElem? (i := 645) (by decide +kernel), List.mem_of_getElem? (i := 816) (by decide +kernel), List.mem_of_getElem? (i := 817) (by decide +kernel)⟩
theorem lw_p33 : lw_okq (⟨"SeaParcelsModel", "those", "(I)I"⟩, 18) := ⟨⟨by decide +kernel, by decide +kernel⟩, List.mem_of_getElem? (i := 645) (by decide +kernel), List.mem_of_getElem? (i := 820) (by decide +kernel), List.mem_of_getElem? (i := 821) (by decide +kernel)⟩
theorem lw_p34 : lw_okq (⟨"SeaParcelsModel", "weightNow", "()I"⟩, 18) := ⟨⟨by decide +kernel, by decide +kernel⟩, List.mem_of_getElem? (i := 645) (by decide +kernel), List.mem_of_getElem? (i := 828) (by decide +kernel), List.mem_of_getElem? (i := 829) (by decide +kernel)⟩
theorem lw_p35 : lw_okq (⟨"SeaParcelsModel", "thenAt", "(II)I"⟩, 18) := ⟨⟨by decide +kernel, by decide +kernel⟩, List.mem_of_getElem? (i := 645) (by decide +kernel), List.mem_of_getElem? (i := 836) (by decide +kernel), List.mem_of_getElem? (i := 837) (by decide +kernel)⟩
theorem lw_p36 : lw_okq (⟨"SeaParcelsModel", "setsAside", "()V"⟩, 18) := ⟨⟨by decide +kernel, by decide +kernel⟩, List.mem_of_getElem? (i := 645) (by decide +kernel), List.mem_of_getElem? (i := 840) (by decide +kernel), List.mem_of_getElem? (i := 841) (by decide +kernel)⟩
theorem lw_p37 : lw_okq (⟨"SeaParcelsModel", "laysBack", "()V"⟩, 18) := ⟨⟨by decide +kernel, by decide +kernel⟩, List.mem_of_getElem? (i := 645) (by decide +kernel), List.mem_of_getElem? (i := 844) (by decide +kernel), List.mem_of_getElem? (i := 845) (by decide +kernel)⟩
theorem lw_p38 : lw_okq (⟨"SeaParcelsModel", "firstBy", "(II)I"⟩, 18) := ⟨⟨by decide +kernel, by decide +kernel⟩, List.mem_of_getElem? (i := 645) (by decide +kernel), List.mem_of_getElem? (i := 856) (by decide +kernel), List.mem_of_getElem? (i := 857) (by decide +kernel)⟩
theorem lw_p39 : lw_okq (⟨"SeaParcelsModel", "isSo", "(II)Z"⟩, 18) := ⟨⟨by decide +kernel, by decide +kernel⟩, List.mem_of_getElem? (i := 645) (by decide +kernel), List.mem_of_getElem? (i := 860) (by decide +kernel), List.mem_of_getElem? (i := 861) (by decide +kernel)⟩
theorem lw_p40 : lw_okq (⟨"SeaParcelsModel", "isAsked", "(II)Z"⟩, 18) := ⟨⟨by decide +kernel, by decide +kernel⟩, List.mem_of_getElem? (i := 645) (by decide +kernel), List.mem_of_getElem? (i := 876) (by decide +kernel), List.mem_of_getElem? (i := 877) (by decide +kernel)⟩
theorem lw_p41 : lw_okq (⟨"SeaParcelsModel", "greatestBy", "(IIII)I"⟩, 18) := ⟨⟨by decide +kernel, by decide +kernel⟩, List.mem_of_getElem? (i := 645) (by decide +kernel), List.mem_of_getElem? (i := 880) (by decide +kernel), List.mem_of_getElem? (i := 881) (by decide +kernel)⟩
theorem lw_p42 : lw_okq (⟨"SeaParcelsModel", "isTakenBy", "(II)Z"⟩, 18) := ⟨⟨by decide +kernel, by decide +kernel⟩, List.mem_of_getElem? (i := 645) (by decide +kernel), List.mem_of_getElem? (i := 884) (by decide +kernel), List.mem_of_getElem? (i := 885) (by decide +kernel)⟩
theorem lw_p43 : lw_okq (⟨"SeaParcelsModel", "lateWith", "(II)I"⟩, 18) := ⟨⟨by decide +kernel, by decide +kernel⟩, List.mem_of_getElem? (i := 645) (by decide +kernel), List.mem_of_getElem? (i := 907) (by decide +kernel), List.mem_of_getElem? (i := 908) (by decide +kernel)⟩
theorem lw_p44 : lw_okq (⟨"SeaParcelsModel", "wrongTold", "(II)I"⟩, 18) := ⟨⟨by decide +kernel, by decide +kernel⟩, List.mem_of_getElem? (i := 645) (by decide +kernel), List.mem_of_getElem? (i := 915) (by decide +kernel), List.mem_of_getElem? (i := 916) (by decide +kernel)⟩
theorem lw_p45 : lw_okq (⟨"SeaParcelsModel", "wrongSheet", "(I)I"⟩, 18) := ⟨⟨by decide +kernel, by decide +kernel⟩, List.mem_of_getElem? (i := 645) (by decide +kernel), List.mem_of_getElem? (i := 919) (by decide +kernel), List.mem_of_getElem? (i := 920) (by decide +kernel)⟩
theorem lw_p46 : lw_okq (⟨"SeaParcelsModel", "allThatFit", "(III)I"⟩, 18) := ⟨⟨by decide +kernel, by decide +kernel⟩, List.mem_of_getElem? (i := 645) (by decide +kernel), List.mem_of_getElem? (i := 926) (by decide +kernel), List.mem_of_getElem? (i := 927) (by decide +kernel)⟩
theorem lw_p47 : lw_okq (⟨"SeaParcelsModel", "told", "(II)I"⟩, 18) := ⟨⟨by decide +kernel, by decide +kernel⟩, List.mem_of_getElem? (i := 645) (by decide +kernel), List.mem_of_getElem? (i := 930) (by decide +kernel), List.mem_of_getElem? (i := 931) (by decide +kernel)⟩
def lw_privs_3 : List (MethodName × Nat) := [(⟨"SeaParcelsModel", "waitsOn", "(I)V"⟩, 18), (⟨"SeaParcelsModel", "those", "(I)I"⟩, 18), (⟨"SeaParcelsModel", "weightNow", "()I"⟩, 18), (⟨"SeaParcelsModel", "thenAt", "(II)I"⟩, 18), (⟨"SeaParcelsModel", "setsAside", "()V"⟩, 18), (⟨"SeaParcelsModel", "laysBack", "()V"⟩, 18), (⟨"SeaParcelsModel", "firstBy", "(II)I"⟩, 18), (⟨"SeaParcelsModel", "isSo", "(II)Z"⟩, 18), (⟨"SeaParcelsModel", "isAsked", "(II)Z"⟩, 18), (⟨"SeaParcelsModel", "greatestBy", "(IIII)I"⟩, 18), (⟨"SeaParcelsModel", "isTakenBy", "(II)Z"⟩, 18), (⟨"SeaParcelsModel", "lateWith", "(II)I"⟩, 18), (⟨"SeaParcelsModel", "wrongTold", "(II)I"⟩, 18), (⟨"SeaParcelsModel", "wrongSheet", "(I)I"⟩, 18), (⟨"SeaParcelsModel", "allThatFit", "(III)I"⟩, 18), (⟨"SeaParcelsModel", "told", "(II)I"⟩, 18)]
theorem lw_r3 : ∀ q ∈ lw_privs_3, lw_okq q := List.forall_mem_cons.mpr ⟨lw_p32, List.forall_mem_cons.mpr ⟨lw_p33, List.forall_mem_cons.mpr ⟨lw_p34, List.forall_mem_cons.mpr ⟨lw_p35, List.forall_mem_cons.mpr ⟨lw_p36, List.forall_mem_cons.mpr ⟨lw_p37, List.forall_mem_cons.mpr ⟨lw_p38, List.forall_mem_cons.mpr ⟨lw_p39, List.forall_mem_cons.mpr ⟨lw_p40, List.forall_mem_cons.mpr ⟨lw_p41, List.forall_mem_cons.mpr ⟨lw_p42, List.forall_mem_cons.mpr ⟨lw_p43, List.forall_mem_cons.mpr ⟨lw_p44, List.forall_mem_cons.mpr ⟨lw_p45, List.forall_mem_cons.mpr ⟨lw_p46, List.forall_mem_cons.mpr ⟨lw_p47, fun _ h => absurd h List.not_mem_nil⟩⟩⟩⟩⟩⟩⟩⟩⟩⟩⟩⟩⟩⟩⟩⟩
theorem lw_p48 : lw_okq (⟨"SeaParcelsModel", "draw", "()I"⟩, 18) := ⟨⟨by decide +kernel, by decide +kernel⟩, List.mem_of_getElem? (i := 645) (by decide +kernel), List.mem_of_getElem? (i := 942) (by decide +kernel), List.mem_of_getElem? (i := 943) (by decide +kernel)⟩
theorem lw_p49 : lw_okq (⟨"SeaParcelsModel", "nextToken", "()V"⟩, 18) := ⟨⟨by decide +kernel, by decide +kernel⟩, List.mem_of_getElem? (i := 645) (by decide +kernel), List.mem_of_getElem? (i := 968) (by decide +kernel), List.mem_of_getElem? (i := 969) (by decide +kernel)⟩
theorem lw_p50 : lw_okq (⟨"SeaParcelsModel", "readsItem", "()Z"⟩, 18) := ⟨⟨by decide +kernel, by decide +kernel⟩, List.mem_of_getElem? (i := 645) (by decide +kernel), List.mem_of_getElem? (i := 984) (by decide +kernel), List.mem_of_getElem? (i := 985) (by decide +kernel)⟩
theorem lw_p51 : lw_okq (⟨"SeaParcelsModel", "wordOf", "([C)I"⟩, 18) := ⟨⟨by decide +kernel, by decide +kernel⟩, List.mem_of_getElem? (i := 645) (by decide +kernel), List.mem_of_getElem? (i := 988) (by decide +kernel), List.mem_of_getElem? (i := 989) (by decide +kernel)⟩
theorem lw_p52 : lw_okq (⟨"SeaParcelsModel", "readsParcel", "(I)Z"⟩, 18) := ⟨⟨by decide +kernel, by decide +kernel⟩, List.mem_of_getElem? (i := 645) (by decide +kernel), List.mem_of_getElem? (i := 992) (by decide +kernel), List.mem_of_getElem? (i := 993) (by decide +kernel)⟩
theorem lw_p53 : lw_okq (⟨"SeaParcelsModel", "takesNumber", "(II)I"⟩, 18) := ⟨⟨by decide +kernel, by decide +kernel⟩, List.mem_of_getElem? (i := 645) (by decide +kernel), List.mem_of_getElem? (i := 996) (by decide +kernel), List.mem_of_getElem? (i := 997) (by decide +kernel)⟩
def lw_privs_4 : List (MethodName × Nat) := [(⟨"SeaParcelsModel", "draw", "()I"⟩, 18), (⟨"SeaParcelsModel", "nextToken", "()V"⟩, 18), (⟨"SeaParcelsModel", "readsItem", "()Z"⟩, 18), (⟨"SeaParcelsModel", "wordOf", "([C)I"⟩, 18), (⟨"SeaParcelsModel", "readsParcel", "(I)Z"⟩, 18), (⟨"SeaParcelsModel", "takesNumber", "(II)I"⟩, 18)]
theorem lw_r4 : ∀ q ∈ lw_privs_4, lw_okq q := List.forall_mem_cons.mpr ⟨lw_p48, List.forall_mem_cons.mpr ⟨lw_p49, List.forall_mem_cons.mpr ⟨lw_p50, List.forall_mem_cons.mpr ⟨lw_p51, List.forall_mem_cons.mpr ⟨lw_p52, List.forall_mem_cons.mpr ⟨lw_p53, fun _ h => absurd h List.not_mem_nil⟩⟩⟩⟩⟩⟩
def lw_privs : List (MethodName × Nat) := lw_privs_1 ++ (lw_privs_2 ++ (lw_privs_3 ++ (lw_privs_4)))
def lw_tbl : List Cond := k2_sels lw_privs ++ tables_1
theorem lw_privs_ok : ∀ q ∈ lw_privs, lw_okq q := by
  show ∀ q ∈ lw_privs_1 ++ (lw_privs_2 ++ (lw_privs_3 ++ (lw_privs_4))), lw_okq q
  exact List.forall_mem_append.mpr ⟨lw_r1, List.forall_mem_append.mpr ⟨lw_r2, List.forall_mem_append.mpr ⟨lw_r3, lw_r4⟩⟩⟩

/-! ===== BEGIN words of one list among another's, by their places ===== -/
theorem goodIn_r {big : List Cond} (ws : List Cond) (ps : List Nat) (hp : ws = ps.filterMap (fun i => big[i]?)) (h : ws.all goodWord = true) : GoodIn big ws := by
  intro w hw
  have h1 := List.all_eq_true.mp h w hw
  rw [hp] at hw
  obtain ⟨i, -, hi⟩ := List.mem_filterMap.mp hw
  have hm : w ∈ big := by first | exact List.mem_of_getElem? hi | exact List.getElem?_mem hi
  exact ⟨hm, good_of_word h1⟩
theorem goodIn_app {big a b : List Cond} (ha : GoodIn big a) (hb : GoodIn big b) : GoodIn big (a ++ b) := fun w h => (List.mem_append.mp h).elim (ha w) (hb w)
theorem goodIn_ca {big a b : List Cond} {c : Cond} (ha : GoodIn big (c :: a)) (hb : GoodIn big b) : GoodIn big (c :: (a ++ b)) := fun w h => (List.mem_cons.mp h).elim (fun e => ha w (List.mem_cons.mpr (Or.inl e))) (fun h => (List.mem_append.mp h).elim (fun h => ha w (List.mem_cons.mpr (Or.inr h))) (hb w))
theorem goodIn_sub {big ws : List Cond} (hm : ∀ w ∈ ws, w ∈ big) (h : ws.all goodWord = true) : GoodIn big ws := fun w hw => ⟨hm w hw, good_of_word (List.all_eq_true.mp h w hw)⟩
/-! ===== END ===== -/

/-! ===== BEGIN printed: names, fields, word lists, decode rows ===== -/
def RX0 : String := "SeaParcels$Coast"
def TX0 : u_T := fun k => match k with
  | 0 => ("SeaParcels$Coast", "list", "[I", true)
  | 1 => ("SeaParcels$Coast", "late", "I", false)
  | 2 => ("SeaParcels$Coast", "storm", "I", false)
  | 3 => ("SeaParcels$Coast", "amber", "I", false)
  | 4 => ("SeaParcels$Coast", "day", "I", false)
  | 5 => ("SeaParcels$Coast", "z", "I", false)
  | 6 => ("SeaParcels$Coast", "laid", "I", false)
  | 7 => ("SeaParcels$Coast", "slip", "[LSeaParcels$Parcel;", true)
  | _ => ("SeaParcels$Coast", "spots", "[I", true)
def tyX0 : Nat → FieldType := fun k => match k with
  | 0 => .array .int
  | 1 => .int
  | 2 => .int
  | 3 => .int
  | 4 => .int
  | 5 => .int
  | 6 => .int
  | 7 => .array (.object "SeaParcels$Parcel")
  | _ => .array .int
abbrev wsX00 : List Cond := u_ws RX0 TX0 9
theorem nmX0 : ∀ a, a < 9 → ∀ b, b < 9 → a ≠ b → (TX0 a).2.1 ≠ (TX0 b).2.1 := by decide +kernel
theorem tyX0_ok : ∀ k, k < 9 → parseFieldDescriptor (TX0 k).2.2.1 = some (tyX0 k) := by decide +kernel
abbrev cX0_init : ByteArray := prog_2_method_1_code
def yX0_init : MethodName := ⟨RX0, "<init>", "()V"⟩
abbrev cX0_becomeAs : ByteArray := prog_2_method_2_code
def yX0_becomeAs : MethodName := ⟨RX0, "becomeAs", "(LSeaParcels$Coast;)V"⟩
abbrev cX0_lay : ByteArray := prog_2_method_3_code
def yX0_lay : MethodName := ⟨RX0, "lay", "(I)LSeaParcels$Parcel;"⟩
abbrev cX0_tideOfDay : ByteArray := prog_2_method_4_code
def yX0_tideOfDay : MethodName := ⟨RX0, "tideOfDay", "()I"⟩
abbrev cX0_passDays : ByteArray := prog_2_method_5_code
def yX0_passDays : MethodName := ⟨RX0, "passDays", "(I)V"⟩
abbrev cX0_passDay : ByteArray := prog_2_method_6_code
def yX0_passDay : MethodName := ⟨RX0, "passDay", "()V"⟩
abbrev cX0_meet : ByteArray := prog_2_method_7_code
def yX0_meet : MethodName := ⟨RX0, "meet", "(LSeaParcels$Parcel;I)V"⟩
abbrev cX0_nextDraw : ByteArray := prog_2_method_8_code
def yX0_nextDraw : MethodName := ⟨RX0, "nextDraw", "()I"⟩
abbrev cX0_allThatAre : ByteArray := prog_2_method_9_code
def yX0_allThatAre : MethodName := ⟨RX0, "allThatAre", "(I)I"⟩
abbrev cX0_lyingOn : ByteArray := prog_2_method_10_code
def yX0_lyingOn : MethodName := ⟨RX0, "lyingOn", "(I)I"⟩
abbrev cX0_delaying : ByteArray := prog_2_method_11_code
def yX0_delaying : MethodName := ⟨RX0, "delaying", "(I)I"⟩
abbrev cX0_weightThatLies : ByteArray := prog_2_method_12_code
def yX0_weightThatLies : MethodName := ⟨RX0, "weightThatLies", "()I"⟩
abbrev cX0_spotsThatHold : ByteArray := prog_2_method_13_code
def yX0_spotsThatHold : MethodName := ⟨RX0, "spotsThatHold", "()I"⟩
def RX1 : String := "SeaParcels$Parcel"
def TX1 : u_T := fun k => match k with
  | 0 => ("SeaParcels$Parcel", "kind", "I", false)
  | 1 => ("SeaParcels$Parcel", "line", "I", false)
  | 2 => ("SeaParcels$Parcel", "weight", "I", false)
  | 3 => ("SeaParcels$Parcel", "waits", "I", false)
  | 4 => ("SeaParcels$Parcel", "state", "I", false)
  | 5 => ("SeaParcels$Parcel", "held", "I", false)
  | _ => ("SeaParcels$Parcel", "turned", "I", false)
def tyX1 : Nat → FieldType := fun k => match k with
  | 0 => .int
  | 1 => .int
  | 2 => .int
  | 3 => .int
  | 4 => .int
  | 5 => .int
  | _ => .int
abbrev wsX10 : List Cond := u_ws RX1 TX1 7
theorem nmX1 : ∀ a, a < 7 → ∀ b, b < 7 → a ≠ b → (TX1 a).2.1 ≠ (TX1 b).2.1 := by decide +kernel
theorem tyX1_ok : ∀ k, k < 7 → parseFieldDescriptor (TX1 k).2.2.1 = some (tyX1 k) := by decide +kernel
abbrev cX1_init : ByteArray := prog_3_method_1_code
def yX1_init : MethodName := ⟨RX1, "<init>", "()V"⟩
abbrev cX1_beNew : ByteArray := prog_3_method_2_code
def yX1_beNew : MethodName := ⟨RX1, "beNew", "(I)V"⟩
abbrev cX1_becomeAs : ByteArray := prog_3_method_3_code
def yX1_becomeAs : MethodName := ⟨RX1, "becomeAs", "(LSeaParcels$Parcel;)V"⟩
abbrev cX1_told : ByteArray := prog_3_method_4_code
def yX1_told : MethodName := ⟨RX1, "told", "(I)I"⟩
abbrev cX1_put : ByteArray := prog_3_method_5_code
def yX1_put : MethodName := ⟨RX1, "put", "(II)V"⟩
abbrev cX1_least : ByteArray := prog_3_method_6_code
def yX1_least : MethodName := ⟨RX1, "least", "(I)I"⟩
abbrev cX1_most : ByteArray := prog_3_method_7_code
def yX1_most : MethodName := ⟨RX1, "most", "(I)I"⟩
abbrev cX1_over : ByteArray := prog_3_method_8_code
def yX1_over : MethodName := ⟨RX1, "over", "(I)I"⟩
abbrev cX1_isA : ByteArray := prog_3_method_9_code
def yX1_isA : MethodName := ⟨RX1, "isA", "(I)Z"⟩
abbrev cX1_isSignedFor : ByteArray := prog_3_method_10_code
def yX1_isSignedFor : MethodName := ⟨RX1, "isSignedFor", "(II)Z"⟩
abbrev cX1_isStoned : ByteArray := prog_3_method_11_code
def yX1_isStoned : MethodName := ⟨RX1, "isStoned", "(I)Z"⟩
abbrev cX1_sinks : ByteArray := prog_3_method_12_code
def yX1_sinks : MethodName := ⟨RX1, "sinks", "(I)I"⟩
abbrev cX1_weighAlike : ByteArray := prog_3_method_13_code
def yX1_weighAlike : MethodName := ⟨RX1, "weighAlike", "(II)Z"⟩
abbrev cX1_isTouched : ByteArray := prog_3_method_14_code
def yX1_isTouched : MethodName := ⟨RX1, "isTouched", "(I)Z"⟩
abbrev cX1_moves : ByteArray := prog_3_method_15_code
def yX1_moves : MethodName := ⟨RX1, "moves", "(I)I"⟩
abbrev cX1_lasts : ByteArray := prog_3_method_16_code
def yX1_lasts : MethodName := ⟨RX1, "lasts", "(I)I"⟩
abbrev cX1_pays : ByteArray := prog_3_method_17_code
def yX1_pays : MethodName := ⟨RX1, "pays", "(II)I"⟩
abbrev cX1_delays : ByteArray := prog_3_method_18_code
def yX1_delays : MethodName := ⟨RX1, "delays", "(I)I"⟩
abbrev cX1_turnOver : ByteArray := prog_3_method_19_code
def yX1_turnOver : MethodName := ⟨RX1, "turnOver", "()V"⟩
abbrev cX1_waitOneDay : ByteArray := prog_3_method_20_code
def yX1_waitOneDay : MethodName := ⟨RX1, "waitOneDay", "()V"⟩
def RX2 : String := "SeaParcels$Sheet"
def TX2 : u_T := fun k => match k with
  | 0 => ("SeaParcels$Sheet", "bits", "I", false)
  | 1 => ("SeaParcels$Sheet", "length", "I", false)
  | _ => ("SeaParcels$Sheet", "numbers", "[I", true)
def tyX2 : Nat → FieldType := fun k => match k with
  | 0 => .int
  | 1 => .int
  | _ => .array .int
abbrev wsX20 : List Cond := u_ws RX2 TX2 3
theorem nmX2 : ∀ a, a < 3 → ∀ b, b < 3 → a ≠ b → (TX2 a).2.1 ≠ (TX2 b).2.1 := by decide +kernel
theorem tyX2_ok : ∀ k, k < 3 → parseFieldDescriptor (TX2 k).2.2.1 = some (tyX2 k) := by decide +kernel
abbrev cX2_init : ByteArray := prog_4_method_1_code
def yX2_init : MethodName := ⟨RX2, "<init>", "()V"⟩
abbrev cX2_isMissing : ByteArray := prog_4_method_2_code
def yX2_isMissing : MethodName := ⟨RX2, "isMissing", "()Z"⟩
abbrev cX2_begin : ByteArray := prog_4_method_3_code
def yX2_begin : MethodName := ⟨RX2, "begin", "(II)V"⟩
abbrev cX2_put : ByteArray := prog_4_method_4_code
def yX2_put : MethodName := ⟨RX2, "put", "(II)V"⟩
abbrev cX2_hasNot : ByteArray := prog_4_method_5_code
def yX2_hasNot : MethodName := ⟨RX2, "hasNot", "(II)Z"⟩
def RX3 : String := "SeaParcels$Tape"
def TX3 : u_T := fun k => match k with
  | 0 => ("SeaParcels$Tape", "bytes", "[B", true)
  | 1 => ("SeaParcels$Tape", "length", "I", false)
  | 2 => ("SeaParcels$Tape", "sort", "I", false)
  | 3 => ("SeaParcels$Tape", "start", "I", false)
  | 4 => ("SeaParcels$Tape", "end", "I", false)
  | _ => ("SeaParcels$Tape", "value", "I", false)
def tyX3 : Nat → FieldType := fun k => match k with
  | 0 => .array .byte
  | 1 => .int
  | 2 => .int
  | 3 => .int
  | 4 => .int
  | _ => .int
abbrev wsX30 : List Cond := u_ws RX3 TX3 6
theorem nmX3 : ∀ a, a < 6 → ∀ b, b < 6 → a ≠ b → (TX3 a).2.1 ≠ (TX3 b).2.1 := by decide +kernel
theorem tyX3_ok : ∀ k, k < 6 → parseFieldDescriptor (TX3 k).2.2.1 = some (tyX3 k) := by decide +kernel
abbrev cX3_init : ByteArray := prog_5_method_1_code
def yX3_init : MethodName := ⟨RX3, "<init>", "()V"⟩
abbrev cX3_append : ByteArray := prog_5_method_2_code
def yX3_append : MethodName := ⟨RX3, "append", "(B)V"⟩
abbrev cX3_tell : ByteArray := prog_5_method_3_code
def yX3_tell : MethodName := ⟨RX3, "tell", "(LSeaParcels$Coast;)I"⟩
abbrev cX3_tellItem : ByteArray := prog_5_method_4_code
def yX3_tellItem : MethodName := ⟨RX3, "tellItem", "(LSeaParcels$Coast;)Z"⟩
abbrev cX3_tellTide : ByteArray := prog_5_method_5_code
def yX3_tellTide : MethodName := ⟨RX3, "tellTide", "(LSeaParcels$Coast;)Z"⟩
abbrev cX3_tellStorm : ByteArray := prog_5_method_6_code
def yX3_tellStorm : MethodName := ⟨RX3, "tellStorm", "(LSeaParcels$Coast;)Z"⟩
abbrev cX3_tellParcel : ByteArray := prog_5_method_7_code
def yX3_tellParcel : MethodName := ⟨RX3, "tellParcel", "(LSeaParcels$Coast;I)Z"⟩
abbrev cX3_tellPart : ByteArray := prog_5_method_8_code
def yX3_tellPart : MethodName := ⟨RX3, "tellPart", "(LSeaParcels$Parcel;Ljava/lang/String;II)Z"⟩
abbrev cX3_wordOf : ByteArray := prog_5_method_9_code
def yX3_wordOf : MethodName := ⟨RX3, "wordOf", "(I)Ljava/lang/String;"⟩
abbrev cX3_passes : ByteArray := prog_5_method_10_code
def yX3_passes : MethodName := ⟨RX3, "passes", "(Ljava/lang/String;)Z"⟩
abbrev cX3_isWord : ByteArray := prog_5_method_11_code
def yX3_isWord : MethodName := ⟨RX3, "isWord", "(Ljava/lang/String;)Z"⟩
abbrev cX3_isNumber : ByteArray := prog_5_method_12_code
def yX3_isNumber : MethodName := ⟨RX3, "isNumber", "(II)Z"⟩
abbrev cX3_step : ByteArray := prog_5_method_13_code
def yX3_step : MethodName := ⟨RX3, "step", "()V"⟩
abbrev cX3_sortAt : ByteArray := prog_5_method_14_code
def yX3_sortAt : MethodName := ⟨RX3, "sortAt", "(I)I"⟩
def RX4 : String := "SeaParcels"
def TX4 : u_T := fun k => match k with
  | 0 => ("SeaParcels", "coast", "LSeaParcels$Coast;", true)
  | 1 => ("SeaParcels", "trial", "LSeaParcels$Coast;", true)
  | 2 => ("SeaParcels", "kept", "LSeaParcels$Coast;", true)
  | 3 => ("SeaParcels", "keeps", "Z", false)
  | 4 => ("SeaParcels", "tape", "LSeaParcels$Tape;", true)
  | 5 => ("SeaParcels", "sheets", "[LSeaParcels$Sheet;", true)
  | _ => ("SeaParcels", "found", "[I", true)
def tyX4 : Nat → FieldType := fun k => match k with
  | 0 => .object "SeaParcels$Coast"
  | 1 => .object "SeaParcels$Coast"
  | 2 => .object "SeaParcels$Coast"
  | 3 => .boolean
  | 4 => .object "SeaParcels$Tape"
  | 5 => .array (.object "SeaParcels$Sheet")
  | _ => .array .int
abbrev wsX40 : List Cond := u_ws RX4 TX4 7
theorem nmX4 : ∀ a, a < 7 → ∀ b, b < 7 → a ≠ b → (TX4 a).2.1 ≠ (TX4 b).2.1 := by decide +kernel
theorem tyX4_ok : ∀ k, k < 7 → parseFieldDescriptor (TX4 k).2.2.1 = some (tyX4 k) := by decide +kernel
abbrev cX4_init : ByteArray := prog_1_method_1_code
def yX4_init : MethodName := ⟨RX4, "<init>", "()V"⟩
abbrev cX4_tide : ByteArray := prog_1_method_2_code
def yX4_tide : MethodName := ⟨RX4, "tide", "(II)I"⟩
abbrev cX4_listed : ByteArray := prog_1_method_3_code
def yX4_listed : MethodName := ⟨RX4, "listed", "(I)I"⟩
abbrev cX4_set : ByteArray := prog_1_method_4_code
def yX4_set : MethodName := ⟨RX4, "set", "(II)I"⟩
abbrev cX4_parcel : ByteArray := prog_1_method_5_code
def yX4_parcel : MethodName := ⟨RX4, "parcel", "(II)I"⟩
abbrev cX4_of : ByteArray := prog_1_method_6_code
def yX4_of : MethodName := ⟨RX4, "of", "(II)I"⟩
abbrev cX4_change : ByteArray := prog_1_method_7_code
def yX4_change : MethodName := ⟨RX4, "change", "(III)I"⟩
abbrev cX4_signs : ByteArray := prog_1_method_8_code
def yX4_signs : MethodName := ⟨RX4, "signs", "(II)I"⟩
abbrev cX4_onLine : ByteArray := prog_1_method_9_code
def yX4_onLine : MethodName := ⟨RX4, "onLine", "(I)I"⟩
abbrev cX4_go : ByteArray := prog_1_method_10_code
def yX4_go : MethodName := ⟨RX4, "go", "(I)I"⟩
abbrev cX4_now : ByteArray := prog_1_method_11_code
def yX4_now : MethodName := ⟨RX4, "now", "(I)I"⟩
abbrev cX4_ahead : ByteArray := prog_1_method_12_code
def yX4_ahead : MethodName := ⟨RX4, "ahead", "(III)I"⟩
abbrev cX4_sea : ByteArray := prog_1_method_13_code
def yX4_sea : MethodName := ⟨RX4, "sea", "(II)I"⟩
abbrev cX4_when : ByteArray := prog_1_method_14_code
def yX4_when : MethodName := ⟨RX4, "when", "(II)I"⟩
abbrev cX4_cleared : ByteArray := prog_1_method_15_code
def yX4_cleared : MethodName := ⟨RX4, "cleared", "()I"⟩
abbrev cX4_paid : ByteArray := prog_1_method_16_code
def yX4_paid : MethodName := ⟨RX4, "paid", "(I)I"⟩
abbrev cX4_lineFor : ByteArray := prog_1_method_17_code
def yX4_lineFor : MethodName := ⟨RX4, "lineFor", "(II)I"⟩
abbrev cX4_weightFor : ByteArray := prog_1_method_18_code
def yX4_weightFor : MethodName := ⟨RX4, "weightFor", "(II)I"⟩
abbrev cX4_kindFor : ByteArray := prog_1_method_19_code
def yX4_kindFor : MethodName := ⟨RX4, "kindFor", "(II)I"⟩
abbrev cX4_stormFor : ByteArray := prog_1_method_20_code
def yX4_stormFor : MethodName := ⟨RX4, "stormFor", "(II)I"⟩
abbrev cX4_holdBack : ByteArray := prog_1_method_21_code
def yX4_holdBack : MethodName := ⟨RX4, "holdBack", "(I)I"⟩
abbrev cX4_fits : ByteArray := prog_1_method_22_code
def yX4_fits : MethodName := ⟨RX4, "fits", "(II)I"⟩
abbrev cX4_kinds : ByteArray := prog_1_method_23_code
def yX4_kinds : MethodName := ⟨RX4, "kinds", "(II)I"⟩
abbrev cX4_swell : ByteArray := prog_1_method_24_code
def yX4_swell : MethodName := ⟨RX4, "swell", "(I)I"⟩
abbrev cX4_odds : ByteArray := prog_1_method_25_code
def yX4_odds : MethodName := ⟨RX4, "odds", "(III)J"⟩
abbrev cX4_seed : ByteArray := prog_1_method_26_code
def yX4_seed : MethodName := ⟨RX4, "seed", "(I)I"⟩
abbrev cX4_feed : ByteArray := prog_1_method_27_code
def yX4_feed : MethodName := ⟨RX4, "feed", "(II)I"⟩
abbrev cX4_wipe : ByteArray := prog_1_method_28_code
def yX4_wipe : MethodName := ⟨RX4, "wipe", "()I"⟩
abbrev cX4_text : ByteArray := prog_1_method_29_code
def yX4_text : MethodName := ⟨RX4, "text", "()I"⟩
abbrev cX4_hold : ByteArray := prog_1_method_30_code
def yX4_hold : MethodName := ⟨RX4, "hold", "(II)I"⟩
abbrev cX4_as : ByteArray := prog_1_method_31_code
def yX4_as : MethodName := ⟨RX4, "as", "(II)I"⟩
abbrev cX4_sheet : ByteArray := prog_1_method_32_code
def yX4_sheet : MethodName := ⟨RX4, "sheet", "(III)I"⟩
abbrev cX4_write : ByteArray := prog_1_method_33_code
def yX4_write : MethodName := ⟨RX4, "write", "(III)I"⟩
abbrev cX4_copy : ByteArray := prog_1_method_34_code
def yX4_copy : MethodName := ⟨RX4, "copy", "(IIIII)I"⟩
abbrev cX4_load : ByteArray := prog_1_method_35_code
def yX4_load : MethodName := ⟨RX4, "load", "(I)I"⟩
abbrev cX4_judge : ByteArray := prog_1_method_36_code
def yX4_judge : MethodName := ⟨RX4, "judge", "(I)I"⟩
abbrev cX4_image : ByteArray := prog_1_method_37_code
def yX4_image : MethodName := ⟨RX4, "image", "()I"⟩
abbrev cX4_undo : ByteArray := prog_1_method_38_code
def yX4_undo : MethodName := ⟨RX4, "undo", "()I"⟩
abbrev cX4_tear : ByteArray := prog_1_method_39_code
def yX4_tear : MethodName := ⟨RX4, "tear", "()I"⟩
abbrev cX4_count : ByteArray := prog_1_method_40_code
def yX4_count : MethodName := ⟨RX4, "count", "(I)I"⟩
abbrev cX4_status : ByteArray := prog_1_method_41_code
def yX4_status : MethodName := ⟨RX4, "status", "(I)I"⟩
abbrev cX4_finding : ByteArray := prog_1_method_42_code
def yX4_finding : MethodName := ⟨RX4, "finding", "(I)I"⟩
abbrev cX4_isOut : ByteArray := prog_1_method_43_code
def yX4_isOut : MethodName := ⟨RX4, "isOut", "(III)Z"⟩
abbrev cX4_isNoParcel : ByteArray := prog_1_method_44_code
def yX4_isNoParcel : MethodName := ⟨RX4, "isNoParcel", "(I)Z"⟩
abbrev cX4_isNoSheet : ByteArray := prog_1_method_45_code
def yX4_isNoSheet : MethodName := ⟨RX4, "isNoSheet", "(I)Z"⟩
abbrev cX4_wrongSheet : ByteArray := prog_1_method_46_code
def yX4_wrongSheet : MethodName := ⟨RX4, "wrongSheet", "(I)I"⟩
abbrev cX4_tried : ByteArray := prog_1_method_47_code
def yX4_tried : MethodName := ⟨RX4, "tried", "(I)LSeaParcels$Parcel;"⟩
abbrev cX4_isTakenOnTrial : ByteArray := prog_1_method_48_code
def yX4_isTakenOnTrial : MethodName := ⟨RX4, "isTakenOnTrial", "(LSeaParcels$Parcel;I)Z"⟩
abbrev cX4_allAsTold : ByteArray := prog_1_method_49_code
def yX4_allAsTold : MethodName := ⟨RX4, "allAsTold", "(III)I"⟩
abbrev cX4_isAsTold : ByteArray := prog_1_method_50_code
def yX4_isAsTold : MethodName := ⟨RX4, "isAsTold", "(LSeaParcels$Parcel;LSeaParcels$Sheet;)Z"⟩
def RX5 : String := "SeaParcelsModel"
def TX5 : u_T := fun k => match k with
  | 0 => ("SeaParcelsModel", "s", "[I", true)
  | 1 => ("SeaParcelsModel", "kept", "[I", true)
  | 2 => ("SeaParcelsModel", "aside", "[I", true)
  | 3 => ("SeaParcelsModel", "isKept", "Z", false)
  | 4 => ("SeaParcelsModel", "found", "[I", true)
  | 5 => ("SeaParcelsModel", "tape", "[I", true)
  | 6 => ("SeaParcelsModel", "taped", "I", false)
  | 7 => ("SeaParcelsModel", "token", "I", false)
  | 8 => ("SeaParcelsModel", "begun", "I", false)
  | 9 => ("SeaParcelsModel", "ended", "I", false)
  | 10 => ("SeaParcelsModel", "value", "J", false)
  | 11 => ("SeaParcelsModel", "letters", "[C", true)
  | 12 => ("SeaParcelsModel", "more", "[C", true)
  | 13 => ("SeaParcelsModel", "others", "[C", true)
  | 14 => ("SeaParcelsModel", "widths", "[I", true)
  | 15 => ("SeaParcelsModel", "sizes", "[I", true)
  | 16 => ("SeaParcelsModel", "cells", "[I", true)
  | _ => ("SeaParcelsModel", "carried", "[I", true)
def tyX5 : Nat → FieldType := fun k => match k with
  | 0 => .array .int
  | 1 => .array .int
  | 2 => .array .int
  | 3 => .boolean
  | 4 => .array .int
  | 5 => .array .int
  | 6 => .int
  | 7 => .int
  | 8 => .int
  | 9 => .int
  | 10 => .long
  | 11 => .array .char
  | 12 => .array .char
  | 13 => .array .char
  | 14 => .array .int
  | 15 => .array .int
  | 16 => .array .int
  | _ => .array .int
abbrev wsX50 : List Cond := u_ws RX5 TX5 18
theorem nmX5 : ∀ a, a < 18 → ∀ b, b < 18 → a ≠ b → (TX5 a).2.1 ≠ (TX5 b).2.1 := by decide +kernel
theorem tyX5_ok : ∀ k, k < 18 → parseFieldDescriptor (TX5 k).2.2.1 = some (tyX5 k) := by decide +kernel
abbrev cX5_init : ByteArray := prog_7_method_1_code
def yX5_init : MethodName := ⟨RX5, "<init>", "()V"⟩
abbrev cX5_no : ByteArray := prog_7_method_2_code
def yX5_no : MethodName := ⟨RX5, "no", "(I)I"⟩
abbrev cX5_in1 : ByteArray := prog_7_method_3_code
def yX5_in1 : MethodName := ⟨RX5, "in1", "(III)Z"⟩
abbrev cX5_less : ByteArray := prog_7_method_4_code
def yX5_less : MethodName := ⟨RX5, "less", "(II)I"⟩
abbrev cX5_bits : ByteArray := prog_7_method_5_code
def yX5_bits : MethodName := ⟨RX5, "bits", "(I)I"⟩
abbrev cX5_isLine : ByteArray := prog_7_method_6_code
def yX5_isLine : MethodName := ⟨RX5, "isLine", "(I)Z"⟩
abbrev cX5_isParcel : ByteArray := prog_7_method_7_code
def yX5_isParcel : MethodName := ⟨RX5, "isParcel", "(I)Z"⟩
abbrev cX5_get : ByteArray := prog_7_method_8_code
def yX5_get : MethodName := ⟨RX5, "get", "(II)I"⟩
abbrev cX5_puts : ByteArray := prog_7_method_9_code
def yX5_puts : MethodName := ⟨RX5, "puts", "(III)V"⟩
abbrev cX5_setsAside : ByteArray := prog_7_method_10_code
def yX5_setsAside : MethodName := ⟨RX5, "setsAside", "()V"⟩
abbrev cX5_laysBack : ByteArray := prog_7_method_11_code
def yX5_laysBack : MethodName := ⟨RX5, "laysBack", "()V"⟩
abbrev cX5_isSigned : ByteArray := prog_7_method_12_code
def yX5_isSigned : MethodName := ⟨RX5, "isSigned", "(II)Z"⟩
abbrev cX5_movesOf : ByteArray := prog_7_method_13_code
def yX5_movesOf : MethodName := ⟨RX5, "movesOf", "(I)I"⟩
abbrev cX5_lastsOf : ByteArray := prog_7_method_14_code
def yX5_lastsOf : MethodName := ⟨RX5, "lastsOf", "(I)I"⟩
abbrev cX5_paysOf : ByteArray := prog_7_method_15_code
def yX5_paysOf : MethodName := ⟨RX5, "paysOf", "(I)I"⟩
abbrev cX5_delaysOf : ByteArray := prog_7_method_16_code
def yX5_delaysOf : MethodName := ⟨RX5, "delaysOf", "(I)I"⟩
abbrev cX5_tideNow : ByteArray := prog_7_method_17_code
def yX5_tideNow : MethodName := ⟨RX5, "tideNow", "()I"⟩
abbrev cX5_meetsTide : ByteArray := prog_7_method_18_code
def yX5_meetsTide : MethodName := ⟨RX5, "meetsTide", "(II)V"⟩
abbrev cX5_waitsOn : ByteArray := prog_7_method_19_code
def yX5_waitsOn : MethodName := ⟨RX5, "waitsOn", "(I)V"⟩
abbrev cX5_day : ByteArray := prog_7_method_20_code
def yX5_day : MethodName := ⟨RX5, "day", "()V"⟩
abbrev cX5_goes : ByteArray := prog_7_method_21_code
def yX5_goes : MethodName := ⟨RX5, "goes", "(I)V"⟩
abbrev cX5_those : ByteArray := prog_7_method_22_code
def yX5_those : MethodName := ⟨RX5, "those", "(I)I"⟩
abbrev cX5_isTurn : ByteArray := prog_7_method_23_code
def yX5_isTurn : MethodName := ⟨RX5, "isTurn", "(I)Z"⟩
abbrev cX5_tide : ByteArray := prog_7_method_24_code
def yX5_tide : MethodName := ⟨RX5, "tide", "(II)I"⟩
abbrev cX5_listed : ByteArray := prog_7_method_25_code
def yX5_listed : MethodName := ⟨RX5, "listed", "(I)I"⟩
abbrev cX5_set : ByteArray := prog_7_method_26_code
def yX5_set : MethodName := ⟨RX5, "set", "(II)I"⟩
abbrev cX5_adds : ByteArray := prog_7_method_27_code
def yX5_adds : MethodName := ⟨RX5, "adds", "(I)V"⟩
abbrev cX5_parcel : ByteArray := prog_7_method_28_code
def yX5_parcel : MethodName := ⟨RX5, "parcel", "(II)I"⟩
abbrev cX5_of : ByteArray := prog_7_method_29_code
def yX5_of : MethodName := ⟨RX5, "of", "(II)I"⟩
abbrev cX5_mostOf : ByteArray := prog_7_method_30_code
def yX5_mostOf : MethodName := ⟨RX5, "mostOf", "(I)I"⟩
abbrev cX5_change : ByteArray := prog_7_method_31_code
def yX5_change : MethodName := ⟨RX5, "change", "(III)I"⟩
abbrev cX5_signs : ByteArray := prog_7_method_32_code
def yX5_signs : MethodName := ⟨RX5, "signs", "(II)I"⟩
abbrev cX5_onLine : ByteArray := prog_7_method_33_code
def yX5_onLine : MethodName := ⟨RX5, "onLine", "(I)I"⟩
abbrev cX5_go : ByteArray := prog_7_method_34_code
def yX5_go : MethodName := ⟨RX5, "go", "(I)I"⟩
abbrev cX5_weightNow : ByteArray := prog_7_method_35_code
def yX5_weightNow : MethodName := ⟨RX5, "weightNow", "()I"⟩
abbrev cX5_now : ByteArray := prog_7_method_36_code
def yX5_now : MethodName := ⟨RX5, "now", "(I)I"⟩
abbrev cX5_thenAt : ByteArray := prog_7_method_37_code
def yX5_thenAt : MethodName := ⟨RX5, "thenAt", "(II)I"⟩
abbrev cX5_ahead : ByteArray := prog_7_method_38_code
def yX5_ahead : MethodName := ⟨RX5, "ahead", "(III)I"⟩
abbrev cX5_sea : ByteArray := prog_7_method_39_code
def yX5_sea : MethodName := ⟨RX5, "sea", "(II)I"⟩
abbrev cX5_isSo : ByteArray := prog_7_method_40_code
def yX5_isSo : MethodName := ⟨RX5, "isSo", "(II)Z"⟩
abbrev cX5_firstBy : ByteArray := prog_7_method_41_code
def yX5_firstBy : MethodName := ⟨RX5, "firstBy", "(II)I"⟩
abbrev cX5_when : ByteArray := prog_7_method_42_code
def yX5_when : MethodName := ⟨RX5, "when", "(II)I"⟩
abbrev cX5_cleared : ByteArray := prog_7_method_43_code
def yX5_cleared : MethodName := ⟨RX5, "cleared", "()I"⟩
abbrev cX5_paid : ByteArray := prog_7_method_44_code
def yX5_paid : MethodName := ⟨RX5, "paid", "(I)I"⟩
abbrev cX5_isTakenBy : ByteArray := prog_7_method_45_code
def yX5_isTakenBy : MethodName := ⟨RX5, "isTakenBy", "(II)Z"⟩
abbrev cX5_isAsked : ByteArray := prog_7_method_46_code
def yX5_isAsked : MethodName := ⟨RX5, "isAsked", "(II)Z"⟩
abbrev cX5_greatestBy : ByteArray := prog_7_method_47_code
def yX5_greatestBy : MethodName := ⟨RX5, "greatestBy", "(IIII)I"⟩
abbrev cX5_lineFor : ByteArray := prog_7_method_48_code
def yX5_lineFor : MethodName := ⟨RX5, "lineFor", "(II)I"⟩
abbrev cX5_weightFor : ByteArray := prog_7_method_49_code
def yX5_weightFor : MethodName := ⟨RX5, "weightFor", "(II)I"⟩
abbrev cX5_kindFor : ByteArray := prog_7_method_50_code
def yX5_kindFor : MethodName := ⟨RX5, "kindFor", "(II)I"⟩
abbrev cX5_stormFor : ByteArray := prog_7_method_51_code
def yX5_stormFor : MethodName := ⟨RX5, "stormFor", "(II)I"⟩
abbrev cX5_lateWith : ByteArray := prog_7_method_52_code
def yX5_lateWith : MethodName := ⟨RX5, "lateWith", "(II)I"⟩
abbrev cX5_holdBack : ByteArray := prog_7_method_53_code
def yX5_holdBack : MethodName := ⟨RX5, "holdBack", "(I)I"⟩
abbrev cX5_isSheet : ByteArray := prog_7_method_54_code
def yX5_isSheet : MethodName := ⟨RX5, "isSheet", "(I)Z"⟩
abbrev cX5_wrongSheet : ByteArray := prog_7_method_55_code
def yX5_wrongSheet : MethodName := ⟨RX5, "wrongSheet", "(I)I"⟩
abbrev cX5_wrongTold : ByteArray := prog_7_method_56_code
def yX5_wrongTold : MethodName := ⟨RX5, "wrongTold", "(II)I"⟩
abbrev cX5_told : ByteArray := prog_7_method_57_code
def yX5_told : MethodName := ⟨RX5, "told", "(II)I"⟩
abbrev cX5_allThatFit : ByteArray := prog_7_method_58_code
def yX5_allThatFit : MethodName := ⟨RX5, "allThatFit", "(III)I"⟩
abbrev cX5_fits : ByteArray := prog_7_method_59_code
def yX5_fits : MethodName := ⟨RX5, "fits", "(II)I"⟩
abbrev cX5_kinds : ByteArray := prog_7_method_60_code
def yX5_kinds : MethodName := ⟨RX5, "kinds", "(II)I"⟩
abbrev cX5_draw : ByteArray := prog_7_method_61_code
def yX5_draw : MethodName := ⟨RX5, "draw", "()I"⟩
abbrev cX5_swell : ByteArray := prog_7_method_62_code
def yX5_swell : MethodName := ⟨RX5, "swell", "(I)I"⟩
abbrev cX5_odds : ByteArray := prog_7_method_63_code
def yX5_odds : MethodName := ⟨RX5, "odds", "(III)J"⟩
abbrev cX5_seed : ByteArray := prog_7_method_64_code
def yX5_seed : MethodName := ⟨RX5, "seed", "(I)I"⟩
abbrev cX5_feed : ByteArray := prog_7_method_65_code
def yX5_feed : MethodName := ⟨RX5, "feed", "(II)I"⟩
abbrev cX5_wipe : ByteArray := prog_7_method_66_code
def yX5_wipe : MethodName := ⟨RX5, "wipe", "()I"⟩
abbrev cX5_isLetter : ByteArray := prog_7_method_67_code
def yX5_isLetter : MethodName := ⟨RX5, "isLetter", "(I)Z"⟩
abbrev cX5_isDigit : ByteArray := prog_7_method_68_code
def yX5_isDigit : MethodName := ⟨RX5, "isDigit", "(I)Z"⟩
abbrev cX5_nextToken : ByteArray := prog_7_method_69_code
def yX5_nextToken : MethodName := ⟨RX5, "nextToken", "()V"⟩
abbrev cX5_wordOf : ByteArray := prog_7_method_70_code
def yX5_wordOf : MethodName := ⟨RX5, "wordOf", "([C)I"⟩
abbrev cX5_takesNumber : ByteArray := prog_7_method_71_code
def yX5_takesNumber : MethodName := ⟨RX5, "takesNumber", "(II)I"⟩
abbrev cX5_readsParcel : ByteArray := prog_7_method_72_code
def yX5_readsParcel : MethodName := ⟨RX5, "readsParcel", "(I)Z"⟩
abbrev cX5_readsItem : ByteArray := prog_7_method_73_code
def yX5_readsItem : MethodName := ⟨RX5, "readsItem", "()Z"⟩
abbrev cX5_text : ByteArray := prog_7_method_74_code
def yX5_text : MethodName := ⟨RX5, "text", "()I"⟩
abbrev cX5_isSpot : ByteArray := prog_7_method_75_code
def yX5_isSpot : MethodName := ⟨RX5, "isSpot", "(I)Z"⟩
abbrev cX5_hold : ByteArray := prog_7_method_76_code
def yX5_hold : MethodName := ⟨RX5, "hold", "(II)I"⟩
abbrev cX5_above : ByteArray := prog_7_method_77_code
def yX5_above : MethodName := ⟨RX5, "above", "(I)I"⟩
abbrev cX5_as : ByteArray := prog_7_method_78_code
def yX5_as : MethodName := ⟨RX5, "as", "(II)I"⟩
abbrev cX5_sheet : ByteArray := prog_7_method_79_code
def yX5_sheet : MethodName := ⟨RX5, "sheet", "(III)I"⟩
abbrev cX5_write : ByteArray := prog_7_method_80_code
def yX5_write : MethodName := ⟨RX5, "write", "(III)I"⟩
abbrev cX5_copy : ByteArray := prog_7_method_81_code
def yX5_copy : MethodName := ⟨RX5, "copy", "(IIIII)I"⟩
abbrev cX5_load : ByteArray := prog_7_method_82_code
def yX5_load : MethodName := ⟨RX5, "load", "(I)I"⟩
abbrev cX5_judge : ByteArray := prog_7_method_83_code
def yX5_judge : MethodName := ⟨RX5, "judge", "(I)I"⟩
abbrev cX5_image : ByteArray := prog_7_method_84_code
def yX5_image : MethodName := ⟨RX5, "image", "()I"⟩
abbrev cX5_undo : ByteArray := prog_7_method_85_code
def yX5_undo : MethodName := ⟨RX5, "undo", "()I"⟩
abbrev cX5_tear : ByteArray := prog_7_method_86_code
def yX5_tear : MethodName := ⟨RX5, "tear", "()I"⟩
abbrev cX5_count : ByteArray := prog_7_method_87_code
def yX5_count : MethodName := ⟨RX5, "count", "(I)I"⟩
abbrev cX5_status : ByteArray := prog_7_method_88_code
def yX5_status : MethodName := ⟨RX5, "status", "(I)I"⟩
def RJ6 : String := "java/lang/Integer"
def TJ6 : u_T := fun k => match k with
  | _ => ("", "", "", false)
def tyJ6 : Nat → FieldType := fun k => match k with
  | _ => .int
abbrev wsJ60 : List Cond := u_ws RJ6 TJ6 0
theorem nmJ6 : ∀ a, a < 0 → ∀ b, b < 0 → a ≠ b → (TJ6 a).2.1 ≠ (TJ6 b).2.1 := by decide +kernel
theorem tyJ6_ok : ∀ k, k < 0 → parseFieldDescriptor (TJ6 k).2.2.1 = some (tyJ6 k) := by decide +kernel
abbrev cJ6_bitCount_0f7a4 : ByteArray := prog_8_method_49_code
def yJ6_bitCount_0f7a4 : MethodName := ⟨RJ6, "bitCount", "(I)I"⟩
def RJ9 : String := "java/lang/Math"
def TJ9 : u_T := fun k => match k with
  | _ => ("", "", "", false)
def tyJ9 : Nat → FieldType := fun k => match k with
  | _ => .int
abbrev wsJ90 : List Cond := u_ws RJ9 TJ9 0
theorem nmJ9 : ∀ a, a < 0 → ∀ b, b < 0 → a ≠ b → (TJ9 a).2.1 ≠ (TJ9 b).2.1 := by decide +kernel
theorem tyJ9_ok : ∀ k, k < 0 → parseFieldDescriptor (TJ9 k).2.2.1 = some (tyJ9 k) := by decide +kernel
abbrev cJ9_min_7cf53 : ByteArray := prog_9_method_69_code
def yJ9_min_7cf53 : MethodName := ⟨RJ9, "min", "(II)I"⟩
def RJ0 : String := "java/lang/String"
def TJ0 : u_T := fun k => match k with
  | _ => ("", "", "", false)
def tyJ0 : Nat → FieldType := fun k => match k with
  | _ => .int
abbrev wsJ00 : List Cond := u_ws RJ0 TJ0 0
theorem nmJ0 : ∀ a, a < 0 → ∀ b, b < 0 → a ≠ b → (TJ0 a).2.1 ≠ (TJ0 b).2.1 := by decide +kernel
theorem tyJ0_ok : ∀ k, k < 0 → parseFieldDescriptor (TJ0 k).2.2.1 = some (tyJ0 k) := by decide +kernel
abbrev cJ0_length_8abf5 : ByteArray := prog_10_method_54_code
def yJ0_length_8abf5 : MethodName := ⟨RJ0, "length", "()I"⟩
abbrev cJ0_charAt_5068e : ByteArray := prog_10_method_56_code
def yJ0_charAt_5068e : MethodName := ⟨RJ0, "charAt", "(I)C"⟩
abbrev cJ0_coder_7d493 : ByteArray := prog_10_method_152_code
def yJ0_coder_7d493 : MethodName := ⟨RJ0, "coder", "()B"⟩
abbrev cJ0_isLatin1_aae02 : ByteArray := prog_10_method_154_code
def yJ0_isLatin1_aae02 : MethodName := ⟨RJ0, "isLatin1", "()Z"⟩
abbrev cJ0_checkIndex_df160 : ByteArray := prog_10_method_155_code
def yJ0_checkIndex_df160 : MethodName := ⟨RJ0, "checkIndex", "(II)V"⟩
def RJ1 : String := "java/lang/StringLatin1"
def TJ1 : u_T := fun k => match k with
  | _ => ("", "", "", false)
def tyJ1 : Nat → FieldType := fun k => match k with
  | _ => .int
abbrev wsJ10 : List Cond := u_ws RJ1 TJ1 0
theorem nmJ1 : ∀ a, a < 0 → ∀ b, b < 0 → a ≠ b → (TJ1 a).2.1 ≠ (TJ1 b).2.1 := by decide +kernel
theorem tyJ1_ok : ∀ k, k < 0 → parseFieldDescriptor (TJ1 k).2.2.1 = some (tyJ1 k) := by decide +kernel
abbrev cJ1_charAt_3b067 : ByteArray := prog_11_method_2_code
def yJ1_charAt_3b067 : MethodName := ⟨RJ1, "charAt", "([BI)C"⟩
def RJ2 : String := "java/lang/StringUTF16"
def TJ2 : u_T := fun k => match k with
  | _ => ("", "", "", false)
def tyJ2 : Nat → FieldType := fun k => match k with
  | _ => .int
abbrev wsJ20 : List Cond := u_ws RJ2 TJ2 0
theorem nmJ2 : ∀ a, a < 0 → ∀ b, b < 0 → a ≠ b → (TJ2 a).2.1 ≠ (TJ2 b).2.1 := by decide +kernel
theorem tyJ2_ok : ∀ k, k < 0 → parseFieldDescriptor (TJ2 k).2.2.1 = some (tyJ2 k) := by decide +kernel
abbrev cJ2_getChar_3b067 : ByteArray := prog_12_method_5_code
def yJ2_getChar_3b067 : MethodName := ⟨RJ2, "getChar", "([BI)C"⟩
abbrev cJ2_length_9d52b : ByteArray := prog_12_method_6_code
def yJ2_length_9d52b : MethodName := ⟨RJ2, "length", "([B)I"⟩
abbrev cJ2_charAt_3b067 : ByteArray := prog_12_method_83_code
def yJ2_charAt_3b067 : MethodName := ⟨RJ2, "charAt", "([BI)C"⟩
abbrev cJ2_checkIndex_2214a : ByteArray := prog_12_method_91_code
def yJ2_checkIndex_2214a : MethodName := ⟨RJ2, "checkIndex", "(I[B)V"⟩
def RJ10 : String := "java/lang/System"
def TJ10 : u_T := fun k => match k with
  | _ => ("", "", "", false)
def tyJ10 : Nat → FieldType := fun k => match k with
  | _ => .int
abbrev wsJ100 : List Cond := u_ws RJ10 TJ10 0
theorem nmJ10 : ∀ a, a < 0 → ∀ b, b < 0 → a ≠ b → (TJ10 a).2.1 ≠ (TJ10 b).2.1 := by decide +kernel
theorem tyJ10_ok : ∀ k, k < 0 → parseFieldDescriptor (TJ10 k).2.2.1 = some (tyJ10 k) := by decide +kernel
def RJ3 : String := "jdk/internal/util/Preconditions"
def TJ3 : u_T := fun k => match k with
  | _ => ("", "", "", false)
def tyJ3 : Nat → FieldType := fun k => match k with
  | _ => .int
abbrev wsJ30 : List Cond := u_ws RJ3 TJ3 0
theorem nmJ3 : ∀ a, a < 0 → ∀ b, b < 0 → a ≠ b → (TJ3 a).2.1 ≠ (TJ3 b).2.1 := by decide +kernel
theorem tyJ3_ok : ∀ k, k < 0 → parseFieldDescriptor (TJ3 k).2.2.1 = some (tyJ3 k) := by decide +kernel
abbrev cJ3_checkIndex_8e157 : ByteArray := prog_14_method_11_code
def yJ3_checkIndex_8e157 : MethodName := ⟨RJ3, "checkIndex", "(IILjava/util/function/BiFunction;)I"⟩
def RL : String := "SeaParcelsLaw"
abbrev cL_law : ByteArray := code
def yL_law : MethodName := ⟨RL, "law", "([I)Z"⟩
abbrev vwCl : List vw_C := [(RX0, TX0, 9), (RX1, TX1, 7), (RX2, TX2, 3), (RX3, TX3, 6), (RX4, TX4, 7), (RX5, TX5, 18)]
end
section
/-- the words of the tables that stay good over a call -/
def WT : List Cond := lw_tbl.filter goodWord
theorem mw {w : Cond} (i : Nat) (h : lw_tbl[i]? = some w) (g : goodWord w = true) : w ∈ WT := List.mem_filter.mpr ⟨List.mem_of_getElem? h, g⟩
theorem wt_good {w : Cond} (h : w ∈ WT) : goodWord w = true := (List.mem_filter.mp h).2
def TT (ci : Nat) : u_T := match ci with
  | 0 => TX0
  | 1 => TX1
  | 2 => TX2
  | 3 => TX3
  | 4 => TX4
  | _ => TX5
def tyT (ci : Nat) : Nat → FieldType := match ci with
  | 0 => tyX0
  | 1 => tyX1
  | 2 => tyX2
  | 3 => tyX3
  | 4 => tyX4
  | _ => tyX5
def RR (ci : Nat) : String := match ci with
  | 0 => RX0
  | 1 => RX1
  | 2 => RX2
  | 3 => RX3
  | 4 => RX4
  | _ => RX5
def NN (ci : Nat) : Nat := match ci with
  | 0 => 9
  | 1 => 7
  | 2 => 3
  | 3 => 6
  | 4 => 7
  | _ => 18
/-- field k of class ci by the pool entry idx of the class own -/
def FL (own : String) (idx ci k : Nat) : Prop := Cond.fieldLink own idx (TT ci k).1 (TT ci k).2.1 (TT ci k).2.2.1 ∈ WT ∧ k < NN ci ∧ ci < 6
/-- what a call of a static method needs, but its link -/
def MS (y : MethodName) (cc : ByteArray) (mL : Nat) (rt : Option FieldType) (n : Nat) : Prop := Cond.static y ∈ WT ∧ Cond.initialized y.cls ∈ WT ∧ Cond.code y cc mL rt ∈ WT ∧ (y.cls ≠ "java/lang/invoke/MethodHandle" ∧ y.cls ≠ "java/lang/invoke/VarHandle" ∧ (parseMethodDescriptor y.desc).map (fun d => d.parameters.length) = some n)
/-- of an instance method -/
def MV (y : MethodName) (cc : ByteArray) (mL : Nat) (rt : Option FieldType) (n : Nat) : Prop := Cond.instanceMethod y ∈ WT ∧ Cond.selects y.cls y y ∈ WT ∧ Cond.initialized y.cls ∈ WT ∧ Cond.code y cc mL rt ∈ WT ∧ (y.cls ≠ "java/lang/invoke/MethodHandle" ∧ y.cls ≠ "java/lang/invoke/VarHandle" ∧ (parseMethodDescriptor y.desc).map (fun d => d.parameters.length) = some n)
theorem fl_X4_12 : FL RX4 12 4 0 := ⟨(mw 208 (by decide +kernel) (by decide +kernel)), by decide, by decide⟩
theorem fl_X4_16 : FL RX4 16 4 1 := ⟨(mw 209 (by decide +kernel) (by decide +kernel)), by decide, by decide⟩
theorem fl_X4_19 : FL RX4 19 4 2 := ⟨(mw 210 (by decide +kernel) (by decide +kernel)), by decide, by decide⟩
theorem fl_X4_22 : FL RX4 22 4 3 := ⟨(mw 211 (by decide +kernel) (by decide +kernel)), by decide, by decide⟩
theorem fl_X4_29 : FL RX4 29 4 4 := ⟨(mw 212 (by decide +kernel) (by decide +kernel)), by decide, by decide⟩
theorem fl_X4_35 : FL RX4 35 4 5 := ⟨(mw 213 (by decide +kernel) (by decide +kernel)), by decide, by decide⟩
theorem fl_X4_39 : FL RX4 39 4 6 := ⟨(mw 214 (by decide +kernel) (by decide +kernel)), by decide, by decide⟩
theorem fl_X4_53 : FL RX4 53 0 0 := ⟨(mw 123 (by decide +kernel) (by decide +kernel)), by decide, by decide⟩
theorem fl_X4_56 : FL RX4 56 0 1 := ⟨(mw 126 (by decide +kernel) (by decide +kernel)), by decide, by decide⟩
theorem fl_X4_60 : FL RX4 60 0 2 := ⟨(mw 128 (by decide +kernel) (by decide +kernel)), by decide, by decide⟩
theorem fl_X4_68 : FL RX4 68 1 1 := ⟨(mw 93 (by decide +kernel) (by decide +kernel)), by decide, by decide⟩
theorem fl_X4_73 : FL RX4 73 0 6 := ⟨(mw 137 (by decide +kernel) (by decide +kernel)), by decide, by decide⟩
theorem fl_X4_80 : FL RX4 80 0 7 := ⟨(mw 139 (by decide +kernel) (by decide +kernel)), by decide, by decide⟩
theorem fl_X4_97 : FL RX4 97 0 4 := ⟨(mw 133 (by decide +kernel) (by decide +kernel)), by decide, by decide⟩
theorem fl_X4_116 : FL RX4 116 0 3 := ⟨(mw 131 (by decide +kernel) (by decide +kernel)), by decide, by decide⟩
theorem fl_X4_133 : FL RX4 133 1 4 := ⟨(mw 101 (by decide +kernel) (by decide +kernel)), by decide, by decide⟩
theorem fl_X4_147 : FL RX4 147 1 2 := ⟨(mw 97 (by decide +kernel) (by decide +kernel)), by decide, by decide⟩
theorem fl_X4_150 : FL RX4 150 1 0 := ⟨(mw 91 (by decide +kernel) (by decide +kernel)), by decide, by decide⟩
theorem fl_X4_163 : FL RX4 163 0 5 := ⟨(mw 135 (by decide +kernel) (by decide +kernel)), by decide, by decide⟩
theorem fl_X4_166 : FL RX4 166 3 1 := ⟨(mw 169 (by decide +kernel) (by decide +kernel)), by decide, by decide⟩
theorem fl_X4_177 : FL RX4 177 0 8 := ⟨(mw 141 (by decide +kernel) (by decide +kernel)), by decide, by decide⟩
theorem fl_X4_192 : FL RX4 192 2 1 := ⟨(mw 198 (by decide +kernel) (by decide +kernel)), by decide, by decide⟩
theorem fl_X4_201 : FL RX4 201 2 0 := ⟨(mw 196 (by decide +kernel) (by decide +kernel)), by decide, by decide⟩
theorem fl_X4_207 : FL RX4 207 2 2 := ⟨(mw 200 (by decide +kernel) (by decide +kernel)), by decide, by decide⟩
theorem fl_X0_9 : FL RX0 9 0 0 := ⟨(mw 122 (by decide +kernel) (by decide +kernel)), by decide, by decide⟩
theorem fl_X0_15 : FL RX0 15 0 1 := ⟨(mw 125 (by decide +kernel) (by decide +kernel)), by decide, by decide⟩
theorem fl_X0_19 : FL RX0 19 0 2 := ⟨(mw 127 (by decide +kernel) (by decide +kernel)), by decide, by decide⟩
theorem fl_X0_22 : FL RX0 22 0 3 := ⟨(mw 130 (by decide +kernel) (by decide +kernel)), by decide, by decide⟩
theorem fl_X0_25 : FL RX0 25 0 4 := ⟨(mw 132 (by decide +kernel) (by decide +kernel)), by decide, by decide⟩
theorem fl_X0_28 : FL RX0 28 0 5 := ⟨(mw 134 (by decide +kernel) (by decide +kernel)), by decide, by decide⟩
theorem fl_X0_31 : FL RX0 31 0 6 := ⟨(mw 136 (by decide +kernel) (by decide +kernel)), by decide, by decide⟩
theorem fl_X0_36 : FL RX0 36 0 7 := ⟨(mw 138 (by decide +kernel) (by decide +kernel)), by decide, by decide⟩
theorem fl_X0_40 : FL RX0 40 0 8 := ⟨(mw 140 (by decide +kernel) (by decide +kernel)), by decide, by decide⟩
theorem fl_X0_65 : FL RX0 65 1 4 := ⟨(mw 100 (by decide +kernel) (by decide +kernel)), by decide, by decide⟩
theorem fl_X0_68 : FL RX0 68 1 5 := ⟨(mw 103 (by decide +kernel) (by decide +kernel)), by decide, by decide⟩
theorem fl_X0_89 : FL RX0 89 1 0 := ⟨(mw 90 (by decide +kernel) (by decide +kernel)), by decide, by decide⟩
theorem fl_X0_92 : FL RX0 92 1 2 := ⟨(mw 96 (by decide +kernel) (by decide +kernel)), by decide, by decide⟩
theorem fl_X0_110 : FL RX0 110 1 1 := ⟨(mw 94 (by decide +kernel) (by decide +kernel)), by decide, by decide⟩
theorem fl_X1_9 : FL RX1 9 1 0 := ⟨(mw 89 (by decide +kernel) (by decide +kernel)), by decide, by decide⟩
theorem fl_X1_15 : FL RX1 15 1 1 := ⟨(mw 92 (by decide +kernel) (by decide +kernel)), by decide, by decide⟩
theorem fl_X1_18 : FL RX1 18 1 2 := ⟨(mw 95 (by decide +kernel) (by decide +kernel)), by decide, by decide⟩
theorem fl_X1_21 : FL RX1 21 1 3 := ⟨(mw 98 (by decide +kernel) (by decide +kernel)), by decide, by decide⟩
theorem fl_X1_24 : FL RX1 24 1 4 := ⟨(mw 99 (by decide +kernel) (by decide +kernel)), by decide, by decide⟩
theorem fl_X1_27 : FL RX1 27 1 5 := ⟨(mw 102 (by decide +kernel) (by decide +kernel)), by decide, by decide⟩
theorem fl_X1_30 : FL RX1 30 1 6 := ⟨(mw 105 (by decide +kernel) (by decide +kernel)), by decide, by decide⟩
theorem fl_X2_9 : FL RX2 9 2 0 := ⟨(mw 195 (by decide +kernel) (by decide +kernel)), by decide, by decide⟩
theorem fl_X2_15 : FL RX2 15 2 1 := ⟨(mw 197 (by decide +kernel) (by decide +kernel)), by decide, by decide⟩
theorem fl_X2_18 : FL RX2 18 2 2 := ⟨(mw 199 (by decide +kernel) (by decide +kernel)), by decide, by decide⟩
theorem fl_X3_9 : FL RX3 9 3 0 := ⟨(mw 167 (by decide +kernel) (by decide +kernel)), by decide, by decide⟩
theorem fl_X3_15 : FL RX3 15 3 1 := ⟨(mw 168 (by decide +kernel) (by decide +kernel)), by decide, by decide⟩
theorem fl_X3_19 : FL RX3 19 3 2 := ⟨(mw 170 (by decide +kernel) (by decide +kernel)), by decide, by decide⟩
theorem fl_X3_22 : FL RX3 22 3 3 := ⟨(mw 171 (by decide +kernel) (by decide +kernel)), by decide, by decide⟩
theorem fl_X3_25 : FL RX3 25 3 4 := ⟨(mw 172 (by decide +kernel) (by decide +kernel)), by decide, by decide⟩
theorem fl_X3_28 : FL RX3 28 3 5 := ⟨(mw 173 (by decide +kernel) (by decide +kernel)), by decide, by decide⟩
theorem fl_X3_67 : FL RX3 67 0 0 := ⟨(mw 124 (by decide +kernel) (by decide +kernel)), by decide, by decide⟩
theorem fl_X3_73 : FL RX3 73 0 2 := ⟨(mw 129 (by decide +kernel) (by decide +kernel)), by decide, by decide⟩
theorem fl_X3_91 : FL RX3 91 1 5 := ⟨(mw 104 (by decide +kernel) (by decide +kernel)), by decide, by decide⟩
theorem fl_X5_9 : FL RX5 9 5 0 := ⟨(mw 704 (by decide +kernel) (by decide +kernel)), by decide, by decide⟩
theorem fl_X5_13 : FL RX5 13 5 1 := ⟨(mw 705 (by decide +kernel) (by decide +kernel)), by decide, by decide⟩
theorem fl_X5_16 : FL RX5 16 5 2 := ⟨(mw 706 (by decide +kernel) (by decide +kernel)), by decide, by decide⟩
theorem fl_X5_19 : FL RX5 19 5 4 := ⟨(mw 708 (by decide +kernel) (by decide +kernel)), by decide, by decide⟩
theorem fl_X5_22 : FL RX5 22 5 5 := ⟨(mw 709 (by decide +kernel) (by decide +kernel)), by decide, by decide⟩
theorem fl_X5_25 : FL RX5 25 5 11 := ⟨(mw 715 (by decide +kernel) (by decide +kernel)), by decide, by decide⟩
theorem fl_X5_29 : FL RX5 29 5 12 := ⟨(mw 716 (by decide +kernel) (by decide +kernel)), by decide, by decide⟩
theorem fl_X5_32 : FL RX5 32 5 13 := ⟨(mw 717 (by decide +kernel) (by decide +kernel)), by decide, by decide⟩
theorem fl_X5_35 : FL RX5 35 5 14 := ⟨(mw 718 (by decide +kernel) (by decide +kernel)), by decide, by decide⟩
theorem fl_X5_38 : FL RX5 38 5 15 := ⟨(mw 719 (by decide +kernel) (by decide +kernel)), by decide, by decide⟩
theorem fl_X5_41 : FL RX5 41 5 16 := ⟨(mw 720 (by decide +kernel) (by decide +kernel)), by decide, by decide⟩
theorem fl_X5_44 : FL RX5 44 5 17 := ⟨(mw 721 (by decide +kernel) (by decide +kernel)), by decide, by decide⟩
theorem fl_X5_177 : FL RX5 177 5 6 := ⟨(mw 710 (by decide +kernel) (by decide +kernel)), by decide, by decide⟩
theorem fl_X5_181 : FL RX5 181 5 9 := ⟨(mw 713 (by decide +kernel) (by decide +kernel)), by decide, by decide⟩
theorem fl_X5_184 : FL RX5 184 5 8 := ⟨(mw 712 (by decide +kernel) (by decide +kernel)), by decide, by decide⟩
theorem fl_X5_187 : FL RX5 187 5 10 := ⟨(mw 714 (by decide +kernel) (by decide +kernel)), by decide, by decide⟩
theorem fl_X5_191 : FL RX5 191 5 7 := ⟨(mw 711 (by decide +kernel) (by decide +kernel)), by decide, by decide⟩
theorem fl_X5_235 : FL RX5 235 5 3 := ⟨(mw 707 (by decide +kernel) (by decide +kernel)), by decide, by decide⟩
theorem fl_J0_9 : Cond.fieldLink RJ0 9 "java/lang/String" "value" "[B" ∈ WT := (mw 1107 (by decide +kernel) (by decide +kernel))
theorem fl_J0_15 : Cond.fieldLink RJ0 15 "java/lang/String" "coder" "B" ∈ WT := (mw 1108 (by decide +kernel) (by decide +kernel))
theorem fl_J0_38 : Cond.fieldLink RJ0 38 "java/lang/String" "COMPACT_STRINGS" "Z" ∈ WT := (mw 540 (by decide +kernel) (by decide +kernel))
theorem fl_J0_1053 : Cond.fieldLink RJ0 1053 "jdk/internal/util/Preconditions" "SIOOBE_FORMATTER" "Ljava/util/function/BiFunction;" ∈ WT := (mw 556 (by decide +kernel) (by decide +kernel))
theorem fl_J2_44 : Cond.fieldLink RJ2 44 "java/lang/StringUTF16" "$assertionsDisabled" "Z" ∈ WT := (mw 574 (by decide +kernel) (by decide +kernel))
theorem fl_J2_59 : Cond.fieldLink RJ2 59 "java/lang/StringUTF16" "HI_BYTE_SHIFT" "I" ∈ WT := (mw 576 (by decide +kernel) (by decide +kernel))
theorem fl_J2_63 : Cond.fieldLink RJ2 63 "java/lang/StringUTF16" "LO_BYTE_SHIFT" "I" ∈ WT := (mw 578 (by decide +kernel) (by decide +kernel))
theorem kc_X4_48 : Cond.constant RX4 48 (-1000001) ∈ WT := (mw 237 (by decide +kernel) (by decide +kernel))
theorem kc_X4_67 : Cond.constant RX4 67 (-1000002) ∈ WT := (mw 262 (by decide +kernel) (by decide +kernel))
theorem kc_X4_107 : Cond.constant RX4 107 (99999) ∈ WT := (mw 327 (by decide +kernel) (by decide +kernel))
theorem kc_X4_108 : Cond.constant RX4 108 (-1000005) ∈ WT := (mw 328 (by decide +kernel) (by decide +kernel))
theorem kc_X4_139 : Cond.constant RX4 139 (-1000004) ∈ WT := (mw 406 (by decide +kernel) (by decide +kernel))
theorem kc_X4_180 : Cond.constant RX4 180 (-1000006) ∈ WT := (mw 465 (by decide +kernel) (by decide +kernel))
theorem kc_X4_184 : Cond.constant RX4 184 (-1000003) ∈ WT := (mw 633 (by decide +kernel) (by decide +kernel))
theorem kc_X4_188 : Cond.constant RX4 188 (-1000007) ∈ WT := (mw 638 (by decide +kernel) (by decide +kernel))
theorem kc_X0_78 : Cond.constant RX0 78 (99999) ∈ WT := (mw 347 (by decide +kernel) (by decide +kernel))
theorem kc_X0_109 : Cond.constant RX0 109 (1103515245) ∈ WT := (mw 482 (by decide +kernel) (by decide +kernel))
theorem kc_X5_47 : Cond.constant RX5 47 (-1000001) ∈ WT := (mw 777 (by decide +kernel) (by decide +kernel))
theorem kc_X5_64 : Cond.constant RX5 64 (99999) ∈ WT := (mw 849 (by decide +kernel) (by decide +kernel))
theorem kc_X5_171 : Cond.constant RX5 171 (1103515245) ∈ WT := (mw 999 (by decide +kernel) (by decide +kernel))
theorem kc_J6_265 : Cond.constant RJ6 265 (1431655765) ∈ WT := (mw 687 (by decide +kernel) (by decide +kernel))
theorem kc_J6_266 : Cond.constant RJ6 266 (858993459) ∈ WT := (mw 688 (by decide +kernel) (by decide +kernel))
theorem kc_J6_267 : Cond.constant RJ6 267 (252645135) ∈ WT := (mw 689 (by decide +kernel) (by decide +kernel))
theorem kl_X5_175 : Cond.constantLong RX5 175 (21) ∈ WT := (mw 1004 (by decide +kernel) (by decide +kernel))
theorem kl_X5_197 : Cond.constantLong RX5 197 (999999999999999) ∈ WT := (mw 1028 (by decide +kernel) (by decide +kernel))
theorem kl_X5_199 : Cond.constantLong RX5 199 (27) ∈ WT := (mw 1029 (by decide +kernel) (by decide +kernel))
theorem kl_X5_201 : Cond.constantLong RX5 201 (96) ∈ WT := (mw 1030 (by decide +kernel) (by decide +kernel))
theorem kl_X5_206 : Cond.constantLong RX5 206 (999) ∈ WT := (mw 1034 (by decide +kernel) (by decide +kernel))
theorem kl_X5_208 : Cond.constantLong RX5 208 (10) ∈ WT := (mw 1035 (by decide +kernel) (by decide +kernel))
theorem kl_X5_210 : Cond.constantLong RX5 210 (48) ∈ WT := (mw 1036 (by decide +kernel) (by decide +kernel))
theorem in_L : Cond.initialized RL ∈ WT := (mw 54 (by decide +kernel) (by decide +kernel))
theorem in_X4 : Cond.initialized RX4 ∈ WT := (mw 55 (by decide +kernel) (by decide +kernel))
theorem in_X0 : Cond.initialized RX0 ∈ WT := (mw 56 (by decide +kernel) (by decide +kernel))
theorem in_X1 : Cond.initialized RX1 ∈ WT := (mw 57 (by decide +kernel) (by decide +kernel))
theorem in_X3 : Cond.initialized RX3 ∈ WT := (mw 58 (by decide +kernel) (by decide +kernel))
theorem in_X2 : Cond.initialized RX2 ∈ WT := (mw 59 (by decide +kernel) (by decide +kernel))
theorem in_X5 : Cond.initialized RX5 ∈ WT := (mw 60 (by decide +kernel) (by decide +kernel))
theorem in_J9 : Cond.initialized RJ9 ∈ WT := (mw 61 (by decide +kernel) (by decide +kernel))
theorem in_J10 : Cond.initialized RJ10 ∈ WT := (mw 62 (by decide +kernel) (by decide +kernel))
theorem in_J0 : Cond.initialized RJ0 ∈ WT := (mw 63 (by decide +kernel) (by decide +kernel))
theorem in_J1 : Cond.initialized RJ1 ∈ WT := (mw 64 (by decide +kernel) (by decide +kernel))
theorem in_J3 : Cond.initialized RJ3 ∈ WT := (mw 65 (by decide +kernel) (by decide +kernel))
theorem in_J2 : Cond.initialized RJ2 ∈ WT := (mw 66 (by decide +kernel) (by decide +kernel))
theorem in_J6 : Cond.initialized RJ6 ∈ WT := (mw 67 (by decide +kernel) (by decide +kernel))
theorem ml_X4_11 : Cond.methodLink RX4 11 yX0_init ∈ WT := (mw 78 (by decide +kernel) (by decide +kernel))
theorem ml_X4_44 : Cond.methodLink RX4 44 yX4_isOut ∈ WT := (mw 234 (by decide +kernel) (by decide +kernel))
theorem ml_X4_49 : Cond.methodLink RX4 49 yX4_finding ∈ WT := (mw 238 (by decide +kernel) (by decide +kernel))
theorem ml_X4_63 : Cond.methodLink RX4 63 yX0_lay ∈ WT := (mw 254 (by decide +kernel) (by decide +kernel))
theorem ml_X4_76 : Cond.methodLink RX4 76 yX4_isNoParcel ∈ WT := (mw 267 (by decide +kernel) (by decide +kernel))
theorem ml_X4_84 : Cond.methodLink RX4 84 yX1_told ∈ WT := (mw 271 (by decide +kernel) (by decide +kernel))
theorem ml_X4_87 : Cond.methodLink RX4 87 yX1_least ∈ WT := (mw 291 (by decide +kernel) (by decide +kernel))
theorem ml_X4_90 : Cond.methodLink RX4 90 yX1_most ∈ WT := (mw 294 (by decide +kernel) (by decide +kernel))
theorem ml_X4_93 : Cond.methodLink RX4 93 yX1_put ∈ WT := (mw 297 (by decide +kernel) (by decide +kernel))
theorem ml_X4_100 : Cond.methodLink RX4 100 yX1_isSignedFor ∈ WT := (mw 305 (by decide +kernel) (by decide +kernel))
theorem ml_X4_104 : Cond.methodLink RX4 104 yX0_lyingOn ∈ WT := (mw 319 (by decide +kernel) (by decide +kernel))
theorem ml_X4_109 : Cond.methodLink RX4 109 yX0_passDays ∈ WT := (mw 329 (by decide +kernel) (by decide +kernel))
theorem ml_X4_113 : Cond.methodLink RX4 113 yX0_allThatAre ∈ WT := (mw 365 (by decide +kernel) (by decide +kernel))
theorem ml_X4_119 : Cond.methodLink RX4 119 yX0_tideOfDay ∈ WT := (mw 373 (by decide +kernel) (by decide +kernel))
theorem ml_X4_123 : Cond.methodLink RX4 123 yX0_weightThatLies ∈ WT := (mw 374 (by decide +kernel) (by decide +kernel))
theorem ml_X4_126 : Cond.methodLink RX4 126 yX4_tried ∈ WT := (mw 382 (by decide +kernel) (by decide +kernel))
theorem ml_X4_129 : Cond.methodLink RX4 129 yX0_becomeAs ∈ WT := (mw 386 (by decide +kernel) (by decide +kernel))
theorem ml_X4_136 : Cond.methodLink RX4 136 yX0_passDay ∈ WT := (mw 405 (by decide +kernel) (by decide +kernel))
theorem ml_X4_140 : Cond.methodLink RX4 140 yX4_isTakenOnTrial ∈ WT := (mw 419 (by decide +kernel) (by decide +kernel))
theorem ml_X4_144 : Cond.methodLink RX4 144 yX1_weighAlike ∈ WT := (mw 427 (by decide +kernel) (by decide +kernel))
theorem ml_X4_153 : Cond.methodLink RX4 153 yX0_delaying ∈ WT := (mw 442 (by decide +kernel) (by decide +kernel))
theorem ml_X4_156 : Cond.methodLink RX4 156 yX4_allAsTold ∈ WT := (mw 450 (by decide +kernel) (by decide +kernel))
theorem ml_X4_160 : Cond.methodLink RX4 160 yX0_nextDraw ∈ WT := (mw 478 (by decide +kernel) (by decide +kernel))
theorem ml_X4_169 : Cond.methodLink RX4 169 yX3_append ∈ WT := (mw 495 (by decide +kernel) (by decide +kernel))
theorem ml_X4_173 : Cond.methodLink RX4 173 yX3_tell ∈ WT := (mw 507 (by decide +kernel) (by decide +kernel))
theorem ml_X4_181 : Cond.methodLink RX4 181 yX1_isA ∈ WT := (mw 626 (by decide +kernel) (by decide +kernel))
theorem ml_X4_185 : Cond.methodLink RX4 185 yX4_isNoSheet ∈ WT := (mw 458 (by decide +kernel) (by decide +kernel))
theorem ml_X4_189 : Cond.methodLink RX4 189 yX2_begin ∈ WT := (mw 639 (by decide +kernel) (by decide +kernel))
theorem ml_X4_193 : Cond.methodLink RX4 193 yX4_wrongSheet ∈ WT := (mw 454 (by decide +kernel) (by decide +kernel))
theorem ml_X4_196 : Cond.methodLink RX4 196 yX2_put ∈ WT := (mw 647 (by decide +kernel) (by decide +kernel))
theorem ml_X4_197 : Cond.methodLink RX4 197 yX2_isMissing ∈ WT := (mw 461 (by decide +kernel) (by decide +kernel))
theorem ml_X4_204 : Cond.methodLink RX4 204 yX2_hasNot ∈ WT := (mw 655 (by decide +kernel) (by decide +kernel))
theorem ml_X4_216 : Cond.methodLink RX4 216 yJ6_bitCount_0f7a4 ∈ WT := (mw 684 (by decide +kernel) (by decide +kernel))
theorem ml_X4_221 : Cond.methodLink RX4 221 yX0_spotsThatHold ∈ WT := (mw 690 (by decide +kernel) (by decide +kernel))
theorem ml_X4_224 : Cond.methodLink RX4 224 yX4_isAsTold ∈ WT := (mw 466 (by decide +kernel) (by decide +kernel))
theorem ml_X0_50 : Cond.methodLink RX0 50 yX1_becomeAs ∈ WT := (mw 393 (by decide +kernel) (by decide +kernel))
theorem ml_X0_54 : Cond.methodLink RX0 54 yX1_beNew ∈ WT := (mw 258 (by decide +kernel) (by decide +kernel))
theorem ml_X0_58 : Cond.methodLink RX0 58 yX0_passDay ∈ WT := (mw 333 (by decide +kernel) (by decide +kernel))
theorem ml_X0_61 : Cond.methodLink RX0 61 yX0_tideOfDay ∈ WT := (mw 337 (by decide +kernel) (by decide +kernel))
theorem ml_X0_71 : Cond.methodLink RX0 71 yX0_meet ∈ WT := (mw 341 (by decide +kernel) (by decide +kernel))
theorem ml_X0_75 : Cond.methodLink RX0 75 yX1_waitOneDay ∈ WT := (mw 361 (by decide +kernel) (by decide +kernel))
theorem ml_X0_79 : Cond.methodLink RX0 79 yJ9_min_7cf53 ∈ WT := (mw 348 (by decide +kernel) (by decide +kernel))
theorem ml_X0_85 : Cond.methodLink RX0 85 yX1_isSignedFor ∈ WT := (mw 345 (by decide +kernel) (by decide +kernel))
theorem ml_X0_95 : Cond.methodLink RX0 95 yX1_pays ∈ WT := (mw 346 (by decide +kernel) (by decide +kernel))
theorem ml_X0_98 : Cond.methodLink RX0 98 yX1_delays ∈ WT := (mw 351 (by decide +kernel) (by decide +kernel))
theorem ml_X0_102 : Cond.methodLink RX0 102 yX1_isTouched ∈ WT := (mw 352 (by decide +kernel) (by decide +kernel))
theorem ml_X0_106 : Cond.methodLink RX0 106 yX1_turnOver ∈ WT := (mw 356 (by decide +kernel) (by decide +kernel))
theorem ml_X1_33 : Cond.methodLink RX1 33 yX1_moves ∈ WT := (mw 275 (by decide +kernel) (by decide +kernel))
theorem ml_X1_37 : Cond.methodLink RX1 37 yX1_lasts ∈ WT := (mw 278 (by decide +kernel) (by decide +kernel))
theorem ml_X1_40 : Cond.methodLink RX1 40 yX1_pays ∈ WT := (mw 281 (by decide +kernel) (by decide +kernel))
theorem ml_X1_44 : Cond.methodLink RX1 44 yX1_delays ∈ WT := (mw 284 (by decide +kernel) (by decide +kernel))
theorem ml_X1_47 : Cond.methodLink RX1 47 yX1_over ∈ WT := (mw 630 (by decide +kernel) (by decide +kernel))
theorem ml_X1_50 : Cond.methodLink RX1 50 yX1_isStoned ∈ WT := (mw 309 (by decide +kernel) (by decide +kernel))
theorem ml_X1_54 : Cond.methodLink RX1 54 yX1_sinks ∈ WT := (mw 312 (by decide +kernel) (by decide +kernel))
theorem ml_X1_57 : Cond.methodLink RX1 57 yJ9_min_7cf53 ∈ WT := (mw 360 (by decide +kernel) (by decide +kernel))
theorem ml_X3_31 : Cond.methodLink RX3 31 yX3_step ∈ WT := (mw 511 (by decide +kernel) (by decide +kernel))
theorem ml_X3_34 : Cond.methodLink RX3 34 yX3_tellItem ∈ WT := (mw 519 (by decide +kernel) (by decide +kernel))
theorem ml_X3_40 : Cond.methodLink RX3 40 yX3_passes ∈ WT := (mw 524 (by decide +kernel) (by decide +kernel))
theorem ml_X3_44 : Cond.methodLink RX3 44 yX3_tellTide ∈ WT := (mw 580 (by decide +kernel) (by decide +kernel))
theorem ml_X3_49 : Cond.methodLink RX3 49 yX3_tellStorm ∈ WT := (mw 589 (by decide +kernel) (by decide +kernel))
theorem ml_X3_52 : Cond.methodLink RX3 52 yX3_wordOf ∈ WT := (mw 593 (by decide +kernel) (by decide +kernel))
theorem ml_X3_56 : Cond.methodLink RX3 56 yX3_isWord ∈ WT := (mw 528 (by decide +kernel) (by decide +kernel))
theorem ml_X3_59 : Cond.methodLink RX3 59 yX3_tellParcel ∈ WT := (mw 603 (by decide +kernel) (by decide +kernel))
theorem ml_X3_63 : Cond.methodLink RX3 63 yX3_isNumber ∈ WT := (mw 584 (by decide +kernel) (by decide +kernel))
theorem ml_X3_75 : Cond.methodLink RX3 75 yX0_lay ∈ WT := (mw 607 (by decide +kernel) (by decide +kernel))
theorem ml_X3_81 : Cond.methodLink RX3 81 yX3_tellPart ∈ WT := (mw 609 (by decide +kernel) (by decide +kernel))
theorem ml_X3_95 : Cond.methodLink RX3 95 yX1_least ∈ WT := (mw 613 (by decide +kernel) (by decide +kernel))
theorem ml_X3_99 : Cond.methodLink RX3 99 yX1_put ∈ WT := (mw 614 (by decide +kernel) (by decide +kernel))
theorem ml_X3_117 : Cond.methodLink RX3 117 yJ0_length_8abf5 ∈ WT := (mw 532 (by decide +kernel) (by decide +kernel))
theorem ml_X3_122 : Cond.methodLink RX3 122 yJ0_charAt_5068e ∈ WT := (mw 542 (by decide +kernel) (by decide +kernel))
theorem ml_X3_126 : Cond.methodLink RX3 126 yX3_sortAt ∈ WT := (mw 515 (by decide +kernel) (by decide +kernel))
theorem ml_L_9 : Cond.methodLink RL 9 yX4_init ∈ WT := (mw 70 (by decide +kernel) (by decide +kernel))
theorem ml_L_12 : Cond.methodLink RL 12 yX5_init ∈ WT := (mw 700 (by decide +kernel) (by decide +kernel))
theorem ml_L_13 : Cond.methodLink RL 13 yX4_tide ∈ WT := (mw 230 (by decide +kernel) (by decide +kernel))
theorem ml_L_17 : Cond.methodLink RL 17 yX5_tide ∈ WT := (mw 760 (by decide +kernel) (by decide +kernel))
theorem ml_L_18 : Cond.methodLink RL 18 yX4_listed ∈ WT := (mw 242 (by decide +kernel) (by decide +kernel))
theorem ml_L_22 : Cond.methodLink RL 22 yX5_listed ∈ WT := (mw 778 (by decide +kernel) (by decide +kernel))
theorem ml_L_23 : Cond.methodLink RL 23 yX4_set ∈ WT := (mw 246 (by decide +kernel) (by decide +kernel))
theorem ml_L_26 : Cond.methodLink RL 26 yX5_set ∈ WT := (mw 782 (by decide +kernel) (by decide +kernel))
theorem ml_L_27 : Cond.methodLink RL 27 yX4_parcel ∈ WT := (mw 250 (by decide +kernel) (by decide +kernel))
theorem ml_L_30 : Cond.methodLink RL 30 yX5_parcel ∈ WT := (mw 786 (by decide +kernel) (by decide +kernel))
theorem ml_L_31 : Cond.methodLink RL 31 yX4_of ∈ WT := (mw 263 (by decide +kernel) (by decide +kernel))
theorem ml_L_34 : Cond.methodLink RL 34 yX5_of ∈ WT := (mw 798 (by decide +kernel) (by decide +kernel))
theorem ml_L_35 : Cond.methodLink RL 35 yX4_change ∈ WT := (mw 287 (by decide +kernel) (by decide +kernel))
theorem ml_L_39 : Cond.methodLink RL 39 yX5_change ∈ WT := (mw 826 (by decide +kernel) (by decide +kernel))
theorem ml_L_40 : Cond.methodLink RL 40 yX4_signs ∈ WT := (mw 301 (by decide +kernel) (by decide +kernel))
theorem ml_L_43 : Cond.methodLink RL 43 yX5_signs ∈ WT := (mw 833 (by decide +kernel) (by decide +kernel))
theorem ml_L_44 : Cond.methodLink RL 44 yX4_onLine ∈ WT := (mw 315 (by decide +kernel) (by decide +kernel))
theorem ml_L_47 : Cond.methodLink RL 47 yX5_onLine ∈ WT := (mw 841 (by decide +kernel) (by decide +kernel))
theorem ml_L_48 : Cond.methodLink RL 48 yX4_go ∈ WT := (mw 323 (by decide +kernel) (by decide +kernel))
theorem ml_L_51 : Cond.methodLink RL 51 yX5_go ∈ WT := (mw 845 (by decide +kernel) (by decide +kernel))
theorem ml_L_52 : Cond.methodLink RL 52 yX4_now ∈ WT := (mw 369 (by decide +kernel) (by decide +kernel))
theorem ml_L_55 : Cond.methodLink RL 55 yX5_now ∈ WT := (mw 877 (by decide +kernel) (by decide +kernel))
theorem ml_L_56 : Cond.methodLink RL 56 yX4_ahead ∈ WT := (mw 378 (by decide +kernel) (by decide +kernel))
theorem ml_L_59 : Cond.methodLink RL 59 yX5_ahead ∈ WT := (mw 885 (by decide +kernel) (by decide +kernel))
theorem ml_L_60 : Cond.methodLink RL 60 yX4_sea ∈ WT := (mw 397 (by decide +kernel) (by decide +kernel))
theorem ml_L_63 : Cond.methodLink RL 63 yX5_sea ∈ WT := (mw 901 (by decide +kernel) (by decide +kernel))
theorem ml_L_64 : Cond.methodLink RL 64 yX4_when ∈ WT := (mw 401 (by decide +kernel) (by decide +kernel))
theorem ml_L_67 : Cond.methodLink RL 67 yX5_when ∈ WT := (mw 905 (by decide +kernel) (by decide +kernel))
theorem ml_L_68 : Cond.methodLink RL 68 yX4_cleared ∈ WT := (mw 407 (by decide +kernel) (by decide +kernel))
theorem ml_L_72 : Cond.methodLink RL 72 yX5_cleared ∈ WT := (mw 917 (by decide +kernel) (by decide +kernel))
theorem ml_L_73 : Cond.methodLink RL 73 yX4_paid ∈ WT := (mw 411 (by decide +kernel) (by decide +kernel))
theorem ml_L_76 : Cond.methodLink RL 76 yX5_paid ∈ WT := (mw 921 (by decide +kernel) (by decide +kernel))
theorem ml_L_77 : Cond.methodLink RL 77 yX4_lineFor ∈ WT := (mw 415 (by decide +kernel) (by decide +kernel))
theorem ml_L_80 : Cond.methodLink RL 80 yX5_lineFor ∈ WT := (mw 925 (by decide +kernel) (by decide +kernel))
theorem ml_L_81 : Cond.methodLink RL 81 yX4_weightFor ∈ WT := (mw 423 (by decide +kernel) (by decide +kernel))
theorem ml_L_84 : Cond.methodLink RL 84 yX5_weightFor ∈ WT := (mw 941 (by decide +kernel) (by decide +kernel))
theorem ml_L_85 : Cond.methodLink RL 85 yX4_kindFor ∈ WT := (mw 430 (by decide +kernel) (by decide +kernel))
theorem ml_L_88 : Cond.methodLink RL 88 yX5_kindFor ∈ WT := (mw 945 (by decide +kernel) (by decide +kernel))
theorem ml_L_89 : Cond.methodLink RL 89 yX4_stormFor ∈ WT := (mw 434 (by decide +kernel) (by decide +kernel))
theorem ml_L_92 : Cond.methodLink RL 92 yX5_stormFor ∈ WT := (mw 949 (by decide +kernel) (by decide +kernel))
theorem ml_L_93 : Cond.methodLink RL 93 yX4_holdBack ∈ WT := (mw 438 (by decide +kernel) (by decide +kernel))
theorem ml_L_96 : Cond.methodLink RL 96 yX5_holdBack ∈ WT := (mw 953 (by decide +kernel) (by decide +kernel))
theorem ml_L_97 : Cond.methodLink RL 97 yX4_fits ∈ WT := (mw 446 (by decide +kernel) (by decide +kernel))
theorem ml_L_100 : Cond.methodLink RL 100 yX5_fits ∈ WT := (mw 964 (by decide +kernel) (by decide +kernel))
theorem ml_L_101 : Cond.methodLink RL 101 yX4_kinds ∈ WT := (mw 470 (by decide +kernel) (by decide +kernel))
theorem ml_L_104 : Cond.methodLink RL 104 yX5_kinds ∈ WT := (mw 987 (by decide +kernel) (by decide +kernel))
theorem ml_L_105 : Cond.methodLink RL 105 yX4_swell ∈ WT := (mw 474 (by decide +kernel) (by decide +kernel))
theorem ml_L_108 : Cond.methodLink RL 108 yX5_swell ∈ WT := (mw 991 (by decide +kernel) (by decide +kernel))
theorem ml_L_109 : Cond.methodLink RL 109 yX4_odds ∈ WT := (mw 483 (by decide +kernel) (by decide +kernel))
theorem ml_L_113 : Cond.methodLink RL 113 yX5_odds ∈ WT := (mw 1000 (by decide +kernel) (by decide +kernel))
theorem ml_L_114 : Cond.methodLink RL 114 yX4_seed ∈ WT := (mw 487 (by decide +kernel) (by decide +kernel))
theorem ml_L_117 : Cond.methodLink RL 117 yX5_seed ∈ WT := (mw 1005 (by decide +kernel) (by decide +kernel))
theorem ml_L_118 : Cond.methodLink RL 118 yX4_feed ∈ WT := (mw 491 (by decide +kernel) (by decide +kernel))
theorem ml_L_121 : Cond.methodLink RL 121 yX5_feed ∈ WT := (mw 1009 (by decide +kernel) (by decide +kernel))
theorem ml_L_122 : Cond.methodLink RL 122 yX4_wipe ∈ WT := (mw 499 (by decide +kernel) (by decide +kernel))
theorem ml_L_125 : Cond.methodLink RL 125 yX5_wipe ∈ WT := (mw 1013 (by decide +kernel) (by decide +kernel))
theorem ml_L_126 : Cond.methodLink RL 126 yX4_text ∈ WT := (mw 503 (by decide +kernel) (by decide +kernel))
theorem ml_L_129 : Cond.methodLink RL 129 yX5_text ∈ WT := (mw 1017 (by decide +kernel) (by decide +kernel))
theorem ml_L_130 : Cond.methodLink RL 130 yX4_hold ∈ WT := (mw 618 (by decide +kernel) (by decide +kernel))
theorem ml_L_133 : Cond.methodLink RL 133 yX5_hold ∈ WT := (mw 1053 (by decide +kernel) (by decide +kernel))
theorem ml_L_134 : Cond.methodLink RL 134 yX4_as ∈ WT := (mw 622 (by decide +kernel) (by decide +kernel))
theorem ml_L_137 : Cond.methodLink RL 137 yX5_as ∈ WT := (mw 1060 (by decide +kernel) (by decide +kernel))
theorem ml_L_138 : Cond.methodLink RL 138 yX4_sheet ∈ WT := (mw 634 (by decide +kernel) (by decide +kernel))
theorem ml_L_141 : Cond.methodLink RL 141 yX5_sheet ∈ WT := (mw 1067 (by decide +kernel) (by decide +kernel))
theorem ml_L_142 : Cond.methodLink RL 142 yX4_write ∈ WT := (mw 643 (by decide +kernel) (by decide +kernel))
theorem ml_L_145 : Cond.methodLink RL 145 yX5_write ∈ WT := (mw 1071 (by decide +kernel) (by decide +kernel))
theorem ml_L_146 : Cond.methodLink RL 146 yX4_copy ∈ WT := (mw 651 (by decide +kernel) (by decide +kernel))
theorem ml_L_150 : Cond.methodLink RL 150 yX5_copy ∈ WT := (mw 1075 (by decide +kernel) (by decide +kernel))
theorem ml_L_151 : Cond.methodLink RL 151 yX4_load ∈ WT := (mw 660 (by decide +kernel) (by decide +kernel))
theorem ml_L_154 : Cond.methodLink RL 154 yX5_load ∈ WT := (mw 1079 (by decide +kernel) (by decide +kernel))
theorem ml_L_155 : Cond.methodLink RL 155 yX4_judge ∈ WT := (mw 664 (by decide +kernel) (by decide +kernel))
theorem ml_L_158 : Cond.methodLink RL 158 yX5_judge ∈ WT := (mw 1083 (by decide +kernel) (by decide +kernel))
theorem ml_L_159 : Cond.methodLink RL 159 yX4_image ∈ WT := (mw 668 (by decide +kernel) (by decide +kernel))
theorem ml_L_162 : Cond.methodLink RL 162 yX5_image ∈ WT := (mw 1087 (by decide +kernel) (by decide +kernel))
theorem ml_L_163 : Cond.methodLink RL 163 yX4_undo ∈ WT := (mw 672 (by decide +kernel) (by decide +kernel))
theorem ml_L_166 : Cond.methodLink RL 166 yX5_undo ∈ WT := (mw 1091 (by decide +kernel) (by decide +kernel))
theorem ml_L_167 : Cond.methodLink RL 167 yX4_tear ∈ WT := (mw 676 (by decide +kernel) (by decide +kernel))
theorem ml_L_170 : Cond.methodLink RL 170 yX5_tear ∈ WT := (mw 1095 (by decide +kernel) (by decide +kernel))
theorem ml_L_171 : Cond.methodLink RL 171 yX4_count ∈ WT := (mw 680 (by decide +kernel) (by decide +kernel))
theorem ml_L_174 : Cond.methodLink RL 174 yX5_count ∈ WT := (mw 1099 (by decide +kernel) (by decide +kernel))
theorem ml_L_175 : Cond.methodLink RL 175 yX4_status ∈ WT := (mw 694 (by decide +kernel) (by decide +kernel))
theorem ml_L_178 : Cond.methodLink RL 178 yX5_status ∈ WT := (mw 1103 (by decide +kernel) (by decide +kernel))
theorem ml_X5_48 : Cond.methodLink RX5 48 yX5_in1 ∈ WT := (mw 767 (by decide +kernel) (by decide +kernel))
theorem ml_X5_52 : Cond.methodLink RX5 52 yX5_get ∈ WT := (mw 810 (by decide +kernel) (by decide +kernel))
theorem ml_X5_56 : Cond.methodLink RX5 56 yX5_isSigned ∈ WT := (mw 837 (by decide +kernel) (by decide +kernel))
theorem ml_X5_60 : Cond.methodLink RX5 60 yX5_puts ∈ WT := (mw 794 (by decide +kernel) (by decide +kernel))
theorem ml_X5_65 : Cond.methodLink RX5 65 yX5_paysOf ∈ WT := (mw 818 (by decide +kernel) (by decide +kernel))
theorem ml_X5_69 : Cond.methodLink RX5 69 yX5_less ∈ WT := (mw 866 (by decide +kernel) (by decide +kernel))
theorem ml_X5_72 : Cond.methodLink RX5 72 yX5_delaysOf ∈ WT := (mw 822 (by decide +kernel) (by decide +kernel))
theorem ml_X5_75 : Cond.methodLink RX5 75 yX5_movesOf ∈ WT := (mw 806 (by decide +kernel) (by decide +kernel))
theorem ml_X5_78 : Cond.methodLink RX5 78 yX5_lastsOf ∈ WT := (mw 814 (by decide +kernel) (by decide +kernel))
theorem ml_X5_81 : Cond.methodLink RX5 81 yX5_tideNow ∈ WT := (mw 858 (by decide +kernel) (by decide +kernel))
theorem ml_X5_85 : Cond.methodLink RX5 85 yX5_meetsTide ∈ WT := (mw 862 (by decide +kernel) (by decide +kernel))
theorem ml_X5_89 : Cond.methodLink RX5 89 yX5_waitsOn ∈ WT := (mw 869 (by decide +kernel) (by decide +kernel))
theorem ml_X5_93 : Cond.methodLink RX5 93 yX5_day ∈ WT := (mw 854 (by decide +kernel) (by decide +kernel))
theorem ml_X5_96 : Cond.methodLink RX5 96 yX5_isTurn ∈ WT := (mw 764 (by decide +kernel) (by decide +kernel))
theorem ml_X5_100 : Cond.methodLink RX5 100 yX5_isLine ∈ WT := (mw 770 (by decide +kernel) (by decide +kernel))
theorem ml_X5_103 : Cond.methodLink RX5 103 yX5_no ∈ WT := (mw 773 (by decide +kernel) (by decide +kernel))
theorem ml_X5_106 : Cond.methodLink RX5 106 yX5_adds ∈ WT := (mw 790 (by decide +kernel) (by decide +kernel))
theorem ml_X5_109 : Cond.methodLink RX5 109 yX5_isParcel ∈ WT := (mw 802 (by decide +kernel) (by decide +kernel))
theorem ml_X5_112 : Cond.methodLink RX5 112 yX5_mostOf ∈ WT := (mw 830 (by decide +kernel) (by decide +kernel))
theorem ml_X5_115 : Cond.methodLink RX5 115 yX5_goes ∈ WT := (mw 850 (by decide +kernel) (by decide +kernel))
theorem ml_X5_118 : Cond.methodLink RX5 118 yX5_those ∈ WT := (mw 873 (by decide +kernel) (by decide +kernel))
theorem ml_X5_121 : Cond.methodLink RX5 121 yX5_weightNow ∈ WT := (mw 881 (by decide +kernel) (by decide +kernel))
theorem ml_X5_124 : Cond.methodLink RX5 124 yX5_setsAside ∈ WT := (mw 893 (by decide +kernel) (by decide +kernel))
theorem ml_X5_127 : Cond.methodLink RX5 127 yX5_laysBack ∈ WT := (mw 897 (by decide +kernel) (by decide +kernel))
theorem ml_X5_130 : Cond.methodLink RX5 130 yX5_thenAt ∈ WT := (mw 889 (by decide +kernel) (by decide +kernel))
theorem ml_X5_133 : Cond.methodLink RX5 133 yX5_isSo ∈ WT := (mw 913 (by decide +kernel) (by decide +kernel))
theorem ml_X5_136 : Cond.methodLink RX5 136 yX5_firstBy ∈ WT := (mw 909 (by decide +kernel) (by decide +kernel))
theorem ml_X5_139 : Cond.methodLink RX5 139 yX5_isTakenBy ∈ WT := (mw 937 (by decide +kernel) (by decide +kernel))
theorem ml_X5_142 : Cond.methodLink RX5 142 yX5_isAsked ∈ WT := (mw 929 (by decide +kernel) (by decide +kernel))
theorem ml_X5_145 : Cond.methodLink RX5 145 yX5_greatestBy ∈ WT := (mw 933 (by decide +kernel) (by decide +kernel))
theorem ml_X5_149 : Cond.methodLink RX5 149 yX5_bits ∈ WT := (mw 957 (by decide +kernel) (by decide +kernel))
theorem ml_X5_152 : Cond.methodLink RX5 152 yX5_lateWith ∈ WT := (mw 960 (by decide +kernel) (by decide +kernel))
theorem ml_X5_155 : Cond.methodLink RX5 155 yX5_isSheet ∈ WT := (mw 976 (by decide +kernel) (by decide +kernel))
theorem ml_X5_158 : Cond.methodLink RX5 158 yX5_wrongSheet ∈ WT := (mw 972 (by decide +kernel) (by decide +kernel))
theorem ml_X5_161 : Cond.methodLink RX5 161 yX5_told ∈ WT := (mw 983 (by decide +kernel) (by decide +kernel))
theorem ml_X5_164 : Cond.methodLink RX5 164 yX5_wrongTold ∈ WT := (mw 968 (by decide +kernel) (by decide +kernel))
theorem ml_X5_167 : Cond.methodLink RX5 167 yX5_allThatFit ∈ WT := (mw 979 (by decide +kernel) (by decide +kernel))
theorem ml_X5_172 : Cond.methodLink RX5 172 yX5_draw ∈ WT := (mw 995 (by decide +kernel) (by decide +kernel))
theorem ml_X5_194 : Cond.methodLink RX5 194 yX5_isLetter ∈ WT := (mw 1025 (by decide +kernel) (by decide +kernel))
theorem ml_X5_203 : Cond.methodLink RX5 203 yX5_isDigit ∈ WT := (mw 1031 (by decide +kernel) (by decide +kernel))
theorem ml_X5_212 : Cond.methodLink RX5 212 yX5_nextToken ∈ WT := (mw 1021 (by decide +kernel) (by decide +kernel))
theorem ml_X5_215 : Cond.methodLink RX5 215 yX5_wordOf ∈ WT := (mw 1041 (by decide +kernel) (by decide +kernel))
theorem ml_X5_219 : Cond.methodLink RX5 219 yX5_takesNumber ∈ WT := (mw 1049 (by decide +kernel) (by decide +kernel))
theorem ml_X5_222 : Cond.methodLink RX5 222 yX5_readsParcel ∈ WT := (mw 1045 (by decide +kernel) (by decide +kernel))
theorem ml_X5_225 : Cond.methodLink RX5 225 yX5_readsItem ∈ WT := (mw 1037 (by decide +kernel) (by decide +kernel))
theorem ml_X5_229 : Cond.methodLink RX5 229 yX5_isSpot ∈ WT := (mw 1057 (by decide +kernel) (by decide +kernel))
theorem ml_X5_232 : Cond.methodLink RX5 232 yX5_above ∈ WT := (mw 1064 (by decide +kernel) (by decide +kernel))
theorem ml_J0_335 : Cond.methodLink RJ0 335 yJ0_coder_7d493 ∈ WT := (mw 536 (by decide +kernel) (by decide +kernel))
theorem ml_J0_492 : Cond.methodLink RJ0 492 yJ0_isLatin1_aae02 ∈ WT := (mw 546 (by decide +kernel) (by decide +kernel))
theorem ml_J0_495 : Cond.methodLink RJ0 495 yJ1_charAt_3b067 ∈ WT := (mw 550 (by decide +kernel) (by decide +kernel))
theorem ml_J0_498 : Cond.methodLink RJ0 498 yJ2_charAt_3b067 ∈ WT := (mw 561 (by decide +kernel) (by decide +kernel))
theorem ml_J0_1059 : Cond.methodLink RJ0 1059 yJ3_checkIndex_8e157 ∈ WT := (mw 558 (by decide +kernel) (by decide +kernel))
theorem ml_J1_9 : Cond.methodLink RJ1 9 yJ0_checkIndex_df160 ∈ WT := (mw 553 (by decide +kernel) (by decide +kernel))
theorem ml_J2_48 : Cond.methodLink RJ2 48 yJ2_length_9d52b ∈ WT := (mw 567 (by decide +kernel) (by decide +kernel))
theorem ml_J2_67 : Cond.methodLink RJ2 67 yJ2_checkIndex_2214a ∈ WT := (mw 564 (by decide +kernel) (by decide +kernel))
theorem ml_J2_71 : Cond.methodLink RJ2 71 yJ2_getChar_3b067 ∈ WT := (mw 571 (by decide +kernel) (by decide +kernel))
theorem ml_J2_414 : Cond.methodLink RJ2 414 yJ0_checkIndex_df160 ∈ WT := (mw 570 (by decide +kernel) (by decide +kernel))
theorem mv_X0_becomeAs : MV yX0_becomeAs cX0_becomeAs 3 none 1 := ⟨(mw 387 (by decide +kernel) (by decide +kernel)), (mw 388 (by decide +kernel) (by decide +kernel)), in_X0, (mw 389 (by decide +kernel) (by decide +kernel)), ⟨by decide +kernel, by decide +kernel, by decide +kernel⟩⟩
theorem mv_X0_lay : MV yX0_lay cX0_lay 3 (some (.object "SeaParcels$Parcel")) 1 := ⟨(mw 255 (by decide +kernel) (by decide +kernel)), (mw 256 (by decide +kernel) (by decide +kernel)), in_X0, (mw 257 (by decide +kernel) (by decide +kernel)), ⟨by decide +kernel, by decide +kernel, by decide +kernel⟩⟩
theorem mv_X0_tideOfDay : MV yX0_tideOfDay cX0_tideOfDay 1 (some .int) 0 := ⟨(mw 338 (by decide +kernel) (by decide +kernel)), (mw 339 (by decide +kernel) (by decide +kernel)), in_X0, (mw 340 (by decide +kernel) (by decide +kernel)), ⟨by decide +kernel, by decide +kernel, by decide +kernel⟩⟩
theorem mv_X0_passDays : MV yX0_passDays cX0_passDays 3 none 1 := ⟨(mw 330 (by decide +kernel) (by decide +kernel)), (mw 331 (by decide +kernel) (by decide +kernel)), in_X0, (mw 332 (by decide +kernel) (by decide +kernel)), ⟨by decide +kernel, by decide +kernel, by decide +kernel⟩⟩
theorem mv_X0_passDay : MV yX0_passDay cX0_passDay 4 none 0 := ⟨(mw 334 (by decide +kernel) (by decide +kernel)), (mw 335 (by decide +kernel) (by decide +kernel)), in_X0, (mw 336 (by decide +kernel) (by decide +kernel)), ⟨by decide +kernel, by decide +kernel, by decide +kernel⟩⟩
theorem mv_X0_meet : MV yX0_meet cX0_meet 3 none 2 := ⟨(mw 343 (by decide +kernel) (by decide +kernel)), (mw 2 (by decide +kernel) (by decide +kernel)), in_X0, (mw 344 (by decide +kernel) (by decide +kernel)), ⟨by decide +kernel, by decide +kernel, by decide +kernel⟩⟩
theorem mv_X0_nextDraw : MV yX0_nextDraw cX0_nextDraw 1 (some .int) 0 := ⟨(mw 479 (by decide +kernel) (by decide +kernel)), (mw 480 (by decide +kernel) (by decide +kernel)), in_X0, (mw 481 (by decide +kernel) (by decide +kernel)), ⟨by decide +kernel, by decide +kernel, by decide +kernel⟩⟩
theorem mv_X0_allThatAre : MV yX0_allThatAre cX0_allThatAre 4 (some .int) 1 := ⟨(mw 366 (by decide +kernel) (by decide +kernel)), (mw 367 (by decide +kernel) (by decide +kernel)), in_X0, (mw 368 (by decide +kernel) (by decide +kernel)), ⟨by decide +kernel, by decide +kernel, by decide +kernel⟩⟩
theorem mv_X0_lyingOn : MV yX0_lyingOn cX0_lyingOn 4 (some .int) 1 := ⟨(mw 320 (by decide +kernel) (by decide +kernel)), (mw 321 (by decide +kernel) (by decide +kernel)), in_X0, (mw 322 (by decide +kernel) (by decide +kernel)), ⟨by decide +kernel, by decide +kernel, by decide +kernel⟩⟩
theorem mv_X0_delaying : MV yX0_delaying cX0_delaying 4 (some .int) 1 := ⟨(mw 443 (by decide +kernel) (by decide +kernel)), (mw 444 (by decide +kernel) (by decide +kernel)), in_X0, (mw 445 (by decide +kernel) (by decide +kernel)), ⟨by decide +kernel, by decide +kernel, by decide +kernel⟩⟩
theorem mv_X0_weightThatLies : MV yX0_weightThatLies cX0_weightThatLies 3 (some .int) 0 := ⟨(mw 375 (by decide +kernel) (by decide +kernel)), (mw 376 (by decide +kernel) (by decide +kernel)), in_X0, (mw 377 (by decide +kernel) (by decide +kernel)), ⟨by decide +kernel, by decide +kernel, by decide +kernel⟩⟩
theorem mv_X0_spotsThatHold : MV yX0_spotsThatHold cX0_spotsThatHold 6 (some .int) 0 := ⟨(mw 691 (by decide +kernel) (by decide +kernel)), (mw 692 (by decide +kernel) (by decide +kernel)), in_X0, (mw 693 (by decide +kernel) (by decide +kernel)), ⟨by decide +kernel, by decide +kernel, by decide +kernel⟩⟩
theorem mv_X1_beNew : MV yX1_beNew cX1_beNew 2 none 1 := ⟨(mw 259 (by decide +kernel) (by decide +kernel)), (mw 260 (by decide +kernel) (by decide +kernel)), in_X1, (mw 261 (by decide +kernel) (by decide +kernel)), ⟨by decide +kernel, by decide +kernel, by decide +kernel⟩⟩
theorem mv_X1_becomeAs : MV yX1_becomeAs cX1_becomeAs 2 none 1 := ⟨(mw 394 (by decide +kernel) (by decide +kernel)), (mw 395 (by decide +kernel) (by decide +kernel)), in_X1, (mw 396 (by decide +kernel) (by decide +kernel)), ⟨by decide +kernel, by decide +kernel, by decide +kernel⟩⟩
theorem mv_X1_told : MV yX1_told cX1_told 2 (some .int) 1 := ⟨(mw 272 (by decide +kernel) (by decide +kernel)), (mw 273 (by decide +kernel) (by decide +kernel)), in_X1, (mw 274 (by decide +kernel) (by decide +kernel)), ⟨by decide +kernel, by decide +kernel, by decide +kernel⟩⟩
theorem mv_X1_put : MV yX1_put cX1_put 3 none 2 := ⟨(mw 298 (by decide +kernel) (by decide +kernel)), (mw 299 (by decide +kernel) (by decide +kernel)), in_X1, (mw 300 (by decide +kernel) (by decide +kernel)), ⟨by decide +kernel, by decide +kernel, by decide +kernel⟩⟩
theorem ms_X1_least : MS yX1_least cX1_least 1 (some .int) 1 := ⟨(mw 292 (by decide +kernel) (by decide +kernel)), in_X1, (mw 293 (by decide +kernel) (by decide +kernel)), ⟨by decide +kernel, by decide +kernel, by decide +kernel⟩⟩
theorem ms_X1_most : MS yX1_most cX1_most 1 (some .int) 1 := ⟨(mw 295 (by decide +kernel) (by decide +kernel)), in_X1, (mw 296 (by decide +kernel) (by decide +kernel)), ⟨by decide +kernel, by decide +kernel, by decide +kernel⟩⟩
theorem ms_X1_over : MS yX1_over cX1_over 1 (some .int) 1 := ⟨(mw 631 (by decide +kernel) (by decide +kernel)), in_X1, (mw 632 (by decide +kernel) (by decide +kernel)), ⟨by decide +kernel, by decide +kernel, by decide +kernel⟩⟩
theorem mv_X1_isA : MV yX1_isA cX1_isA 4 (some .boolean) 1 := ⟨(mw 627 (by decide +kernel) (by decide +kernel)), (mw 628 (by decide +kernel) (by decide +kernel)), in_X1, (mw 629 (by decide +kernel) (by decide +kernel)), ⟨by decide +kernel, by decide +kernel, by decide +kernel⟩⟩
theorem mv_X1_isSignedFor : MV yX1_isSignedFor cX1_isSignedFor 3 (some .boolean) 2 := ⟨(mw 306 (by decide +kernel) (by decide +kernel)), (mw 307 (by decide +kernel) (by decide +kernel)), in_X1, (mw 308 (by decide +kernel) (by decide +kernel)), ⟨by decide +kernel, by decide +kernel, by decide +kernel⟩⟩
theorem ms_X1_isStoned : MS yX1_isStoned cX1_isStoned 1 (some .boolean) 1 := ⟨(mw 310 (by decide +kernel) (by decide +kernel)), in_X1, (mw 311 (by decide +kernel) (by decide +kernel)), ⟨by decide +kernel, by decide +kernel, by decide +kernel⟩⟩
theorem ms_X1_sinks : MS yX1_sinks cX1_sinks 1 (some .int) 1 := ⟨(mw 313 (by decide +kernel) (by decide +kernel)), in_X1, (mw 314 (by decide +kernel) (by decide +kernel)), ⟨by decide +kernel, by decide +kernel, by decide +kernel⟩⟩
theorem ms_X1_weighAlike : MS yX1_weighAlike cX1_weighAlike 2 (some .boolean) 2 := ⟨(mw 428 (by decide +kernel) (by decide +kernel)), in_X1, (mw 429 (by decide +kernel) (by decide +kernel)), ⟨by decide +kernel, by decide +kernel, by decide +kernel⟩⟩
theorem mv_X1_isTouched : MV yX1_isTouched cX1_isTouched 2 (some .boolean) 1 := ⟨(mw 353 (by decide +kernel) (by decide +kernel)), (mw 354 (by decide +kernel) (by decide +kernel)), in_X1, (mw 355 (by decide +kernel) (by decide +kernel)), ⟨by decide +kernel, by decide +kernel, by decide +kernel⟩⟩
theorem ms_X1_moves : MS yX1_moves cX1_moves 1 (some .int) 1 := ⟨(mw 276 (by decide +kernel) (by decide +kernel)), in_X1, (mw 277 (by decide +kernel) (by decide +kernel)), ⟨by decide +kernel, by decide +kernel, by decide +kernel⟩⟩
theorem ms_X1_lasts : MS yX1_lasts cX1_lasts 1 (some .int) 1 := ⟨(mw 279 (by decide +kernel) (by decide +kernel)), in_X1, (mw 280 (by decide +kernel) (by decide +kernel)), ⟨by decide +kernel, by decide +kernel, by decide +kernel⟩⟩
theorem ms_X1_pays : MS yX1_pays cX1_pays 3 (some .int) 2 := ⟨(mw 282 (by decide +kernel) (by decide +kernel)), in_X1, (mw 283 (by decide +kernel) (by decide +kernel)), ⟨by decide +kernel, by decide +kernel, by decide +kernel⟩⟩
theorem ms_X1_delays : MS yX1_delays cX1_delays 1 (some .int) 1 := ⟨(mw 285 (by decide +kernel) (by decide +kernel)), in_X1, (mw 286 (by decide +kernel) (by decide +kernel)), ⟨by decide +kernel, by decide +kernel, by decide +kernel⟩⟩
theorem mv_X1_turnOver : MV yX1_turnOver cX1_turnOver 1 none 0 := ⟨(mw 357 (by decide +kernel) (by decide +kernel)), (mw 358 (by decide +kernel) (by decide +kernel)), in_X1, (mw 359 (by decide +kernel) (by decide +kernel)), ⟨by decide +kernel, by decide +kernel, by decide +kernel⟩⟩
theorem mv_X1_waitOneDay : MV yX1_waitOneDay cX1_waitOneDay 1 none 0 := ⟨(mw 362 (by decide +kernel) (by decide +kernel)), (mw 363 (by decide +kernel) (by decide +kernel)), in_X1, (mw 364 (by decide +kernel) (by decide +kernel)), ⟨by decide +kernel, by decide +kernel, by decide +kernel⟩⟩
theorem mv_X2_isMissing : MV yX2_isMissing cX2_isMissing 1 (some .boolean) 0 := ⟨(mw 462 (by decide +kernel) (by decide +kernel)), (mw 463 (by decide +kernel) (by decide +kernel)), in_X2, (mw 464 (by decide +kernel) (by decide +kernel)), ⟨by decide +kernel, by decide +kernel, by decide +kernel⟩⟩
theorem mv_X2_begin : MV yX2_begin cX2_begin 4 none 2 := ⟨(mw 640 (by decide +kernel) (by decide +kernel)), (mw 641 (by decide +kernel) (by decide +kernel)), in_X2, (mw 642 (by decide +kernel) (by decide +kernel)), ⟨by decide +kernel, by decide +kernel, by decide +kernel⟩⟩
theorem mv_X2_put : MV yX2_put cX2_put 3 none 2 := ⟨(mw 648 (by decide +kernel) (by decide +kernel)), (mw 649 (by decide +kernel) (by decide +kernel)), in_X2, (mw 650 (by decide +kernel) (by decide +kernel)), ⟨by decide +kernel, by decide +kernel, by decide +kernel⟩⟩
theorem mv_X2_hasNot : MV yX2_hasNot cX2_hasNot 3 (some .boolean) 2 := ⟨(mw 656 (by decide +kernel) (by decide +kernel)), (mw 657 (by decide +kernel) (by decide +kernel)), in_X2, (mw 658 (by decide +kernel) (by decide +kernel)), ⟨by decide +kernel, by decide +kernel, by decide +kernel⟩⟩
theorem mv_X3_append : MV yX3_append cX3_append 2 none 1 := ⟨(mw 496 (by decide +kernel) (by decide +kernel)), (mw 497 (by decide +kernel) (by decide +kernel)), in_X3, (mw 498 (by decide +kernel) (by decide +kernel)), ⟨by decide +kernel, by decide +kernel, by decide +kernel⟩⟩
theorem mv_X3_tell : MV yX3_tell cX3_tell 3 (some .int) 1 := ⟨(mw 508 (by decide +kernel) (by decide +kernel)), (mw 509 (by decide +kernel) (by decide +kernel)), in_X3, (mw 510 (by decide +kernel) (by decide +kernel)), ⟨by decide +kernel, by decide +kernel, by decide +kernel⟩⟩
theorem mv_X3_tellItem : MV yX3_tellItem cX3_tellItem 3 (some .boolean) 1 := ⟨(mw 521 (by decide +kernel) (by decide +kernel)), (mw 10 (by decide +kernel) (by decide +kernel)), in_X3, (mw 522 (by decide +kernel) (by decide +kernel)), ⟨by decide +kernel, by decide +kernel, by decide +kernel⟩⟩
theorem mv_X3_tellTide : MV yX3_tellTide cX3_tellTide 3 (some .boolean) 1 := ⟨(mw 582 (by decide +kernel) (by decide +kernel)), (mw 13 (by decide +kernel) (by decide +kernel)), in_X3, (mw 583 (by decide +kernel) (by decide +kernel)), ⟨by decide +kernel, by decide +kernel, by decide +kernel⟩⟩
theorem mv_X3_tellStorm : MV yX3_tellStorm cX3_tellStorm 2 (some .boolean) 1 := ⟨(mw 591 (by decide +kernel) (by decide +kernel)), (mw 15 (by decide +kernel) (by decide +kernel)), in_X3, (mw 592 (by decide +kernel) (by decide +kernel)), ⟨by decide +kernel, by decide +kernel, by decide +kernel⟩⟩
theorem mv_X3_tellParcel : MV yX3_tellParcel cX3_tellParcel 4 (some .boolean) 2 := ⟨(mw 605 (by decide +kernel) (by decide +kernel)), (mw 16 (by decide +kernel) (by decide +kernel)), in_X3, (mw 606 (by decide +kernel) (by decide +kernel)), ⟨by decide +kernel, by decide +kernel, by decide +kernel⟩⟩
theorem mv_X3_tellPart : MV yX3_tellPart cX3_tellPart 5 (some .boolean) 4 := ⟨(mw 611 (by decide +kernel) (by decide +kernel)), (mw 17 (by decide +kernel) (by decide +kernel)), in_X3, (mw 612 (by decide +kernel) (by decide +kernel)), ⟨by decide +kernel, by decide +kernel, by decide +kernel⟩⟩
theorem ms_X3_wordOf : MS yX3_wordOf cX3_wordOf 1 (some (.object "java/lang/String")) 1 := ⟨(mw 594 (by decide +kernel) (by decide +kernel)), in_X3, (mw 595 (by decide +kernel) (by decide +kernel)), ⟨by decide +kernel, by decide +kernel, by decide +kernel⟩⟩
theorem mv_X3_passes : MV yX3_passes cX3_passes 2 (some .boolean) 1 := ⟨(mw 526 (by decide +kernel) (by decide +kernel)), (mw 11 (by decide +kernel) (by decide +kernel)), in_X3, (mw 527 (by decide +kernel) (by decide +kernel)), ⟨by decide +kernel, by decide +kernel, by decide +kernel⟩⟩
theorem mv_X3_isWord : MV yX3_isWord cX3_isWord 3 (some .boolean) 1 := ⟨(mw 530 (by decide +kernel) (by decide +kernel)), (mw 12 (by decide +kernel) (by decide +kernel)), in_X3, (mw 531 (by decide +kernel) (by decide +kernel)), ⟨by decide +kernel, by decide +kernel, by decide +kernel⟩⟩
theorem mv_X3_isNumber : MV yX3_isNumber cX3_isNumber 3 (some .boolean) 2 := ⟨(mw 586 (by decide +kernel) (by decide +kernel)), (mw 14 (by decide +kernel) (by decide +kernel)), in_X3, (mw 587 (by decide +kernel) (by decide +kernel)), ⟨by decide +kernel, by decide +kernel, by decide +kernel⟩⟩
theorem mv_X3_step : MV yX3_step cX3_step 1 none 0 := ⟨(mw 513 (by decide +kernel) (by decide +kernel)), (mw 8 (by decide +kernel) (by decide +kernel)), in_X3, (mw 514 (by decide +kernel) (by decide +kernel)), ⟨by decide +kernel, by decide +kernel, by decide +kernel⟩⟩
theorem mv_X3_sortAt : MV yX3_sortAt cX3_sortAt 3 (some .int) 1 := ⟨(mw 517 (by decide +kernel) (by decide +kernel)), (mw 9 (by decide +kernel) (by decide +kernel)), in_X3, (mw 518 (by decide +kernel) (by decide +kernel)), ⟨by decide +kernel, by decide +kernel, by decide +kernel⟩⟩
theorem mv_X4_tide : MV yX4_tide cX4_tide 4 (some .int) 2 := ⟨(mw 231 (by decide +kernel) (by decide +kernel)), (mw 232 (by decide +kernel) (by decide +kernel)), in_X4, (mw 233 (by decide +kernel) (by decide +kernel)), ⟨by decide +kernel, by decide +kernel, by decide +kernel⟩⟩
theorem mv_X4_listed : MV yX4_listed cX4_listed 2 (some .int) 1 := ⟨(mw 243 (by decide +kernel) (by decide +kernel)), (mw 244 (by decide +kernel) (by decide +kernel)), in_X4, (mw 245 (by decide +kernel) (by decide +kernel)), ⟨by decide +kernel, by decide +kernel, by decide +kernel⟩⟩
theorem mv_X4_set : MV yX4_set cX4_set 4 (some .int) 2 := ⟨(mw 247 (by decide +kernel) (by decide +kernel)), (mw 248 (by decide +kernel) (by decide +kernel)), in_X4, (mw 249 (by decide +kernel) (by decide +kernel)), ⟨by decide +kernel, by decide +kernel, by decide +kernel⟩⟩
theorem mv_X4_parcel : MV yX4_parcel cX4_parcel 4 (some .int) 2 := ⟨(mw 251 (by decide +kernel) (by decide +kernel)), (mw 252 (by decide +kernel) (by decide +kernel)), in_X4, (mw 253 (by decide +kernel) (by decide +kernel)), ⟨by decide +kernel, by decide +kernel, by decide +kernel⟩⟩
theorem mv_X4_of : MV yX4_of cX4_of 3 (some .int) 2 := ⟨(mw 264 (by decide +kernel) (by decide +kernel)), (mw 265 (by decide +kernel) (by decide +kernel)), in_X4, (mw 266 (by decide +kernel) (by decide +kernel)), ⟨by decide +kernel, by decide +kernel, by decide +kernel⟩⟩
theorem mv_X4_change : MV yX4_change cX4_change 5 (some .int) 3 := ⟨(mw 288 (by decide +kernel) (by decide +kernel)), (mw 289 (by decide +kernel) (by decide +kernel)), in_X4, (mw 290 (by decide +kernel) (by decide +kernel)), ⟨by decide +kernel, by decide +kernel, by decide +kernel⟩⟩
theorem mv_X4_signs : MV yX4_signs cX4_signs 3 (some .int) 2 := ⟨(mw 302 (by decide +kernel) (by decide +kernel)), (mw 303 (by decide +kernel) (by decide +kernel)), in_X4, (mw 304 (by decide +kernel) (by decide +kernel)), ⟨by decide +kernel, by decide +kernel, by decide +kernel⟩⟩
theorem mv_X4_onLine : MV yX4_onLine cX4_onLine 2 (some .int) 1 := ⟨(mw 316 (by decide +kernel) (by decide +kernel)), (mw 317 (by decide +kernel) (by decide +kernel)), in_X4, (mw 318 (by decide +kernel) (by decide +kernel)), ⟨by decide +kernel, by decide +kernel, by decide +kernel⟩⟩
theorem mv_X4_go : MV yX4_go cX4_go 2 (some .int) 1 := ⟨(mw 324 (by decide +kernel) (by decide +kernel)), (mw 325 (by decide +kernel) (by decide +kernel)), in_X4, (mw 326 (by decide +kernel) (by decide +kernel)), ⟨by decide +kernel, by decide +kernel, by decide +kernel⟩⟩
theorem mv_X4_now : MV yX4_now cX4_now 2 (some .int) 1 := ⟨(mw 370 (by decide +kernel) (by decide +kernel)), (mw 371 (by decide +kernel) (by decide +kernel)), in_X4, (mw 372 (by decide +kernel) (by decide +kernel)), ⟨by decide +kernel, by decide +kernel, by decide +kernel⟩⟩
theorem mv_X4_ahead : MV yX4_ahead cX4_ahead 6 (some .int) 3 := ⟨(mw 379 (by decide +kernel) (by decide +kernel)), (mw 380 (by decide +kernel) (by decide +kernel)), in_X4, (mw 381 (by decide +kernel) (by decide +kernel)), ⟨by decide +kernel, by decide +kernel, by decide +kernel⟩⟩
theorem mv_X4_sea : MV yX4_sea cX4_sea 4 (some .int) 2 := ⟨(mw 398 (by decide +kernel) (by decide +kernel)), (mw 399 (by decide +kernel) (by decide +kernel)), in_X4, (mw 400 (by decide +kernel) (by decide +kernel)), ⟨by decide +kernel, by decide +kernel, by decide +kernel⟩⟩
theorem mv_X4_when : MV yX4_when cX4_when 5 (some .int) 2 := ⟨(mw 402 (by decide +kernel) (by decide +kernel)), (mw 403 (by decide +kernel) (by decide +kernel)), in_X4, (mw 404 (by decide +kernel) (by decide +kernel)), ⟨by decide +kernel, by decide +kernel, by decide +kernel⟩⟩
theorem mv_X4_cleared : MV yX4_cleared cX4_cleared 2 (some .int) 0 := ⟨(mw 408 (by decide +kernel) (by decide +kernel)), (mw 409 (by decide +kernel) (by decide +kernel)), in_X4, (mw 410 (by decide +kernel) (by decide +kernel)), ⟨by decide +kernel, by decide +kernel, by decide +kernel⟩⟩
theorem mv_X4_paid : MV yX4_paid cX4_paid 3 (some .int) 1 := ⟨(mw 412 (by decide +kernel) (by decide +kernel)), (mw 413 (by decide +kernel) (by decide +kernel)), in_X4, (mw 414 (by decide +kernel) (by decide +kernel)), ⟨by decide +kernel, by decide +kernel, by decide +kernel⟩⟩
theorem mv_X4_lineFor : MV yX4_lineFor cX4_lineFor 5 (some .int) 2 := ⟨(mw 416 (by decide +kernel) (by decide +kernel)), (mw 417 (by decide +kernel) (by decide +kernel)), in_X4, (mw 418 (by decide +kernel) (by decide +kernel)), ⟨by decide +kernel, by decide +kernel, by decide +kernel⟩⟩
theorem mv_X4_weightFor : MV yX4_weightFor cX4_weightFor 5 (some .int) 2 := ⟨(mw 424 (by decide +kernel) (by decide +kernel)), (mw 425 (by decide +kernel) (by decide +kernel)), in_X4, (mw 426 (by decide +kernel) (by decide +kernel)), ⟨by decide +kernel, by decide +kernel, by decide +kernel⟩⟩
theorem mv_X4_kindFor : MV yX4_kindFor cX4_kindFor 7 (some .int) 2 := ⟨(mw 431 (by decide +kernel) (by decide +kernel)), (mw 432 (by decide +kernel) (by decide +kernel)), in_X4, (mw 433 (by decide +kernel) (by decide +kernel)), ⟨by decide +kernel, by decide +kernel, by decide +kernel⟩⟩
theorem mv_X4_stormFor : MV yX4_stormFor cX4_stormFor 5 (some .int) 2 := ⟨(mw 435 (by decide +kernel) (by decide +kernel)), (mw 436 (by decide +kernel) (by decide +kernel)), in_X4, (mw 437 (by decide +kernel) (by decide +kernel)), ⟨by decide +kernel, by decide +kernel, by decide +kernel⟩⟩
theorem mv_X4_holdBack : MV yX4_holdBack cX4_holdBack 5 (some .int) 1 := ⟨(mw 439 (by decide +kernel) (by decide +kernel)), (mw 440 (by decide +kernel) (by decide +kernel)), in_X4, (mw 441 (by decide +kernel) (by decide +kernel)), ⟨by decide +kernel, by decide +kernel, by decide +kernel⟩⟩
theorem mv_X4_fits : MV yX4_fits cX4_fits 3 (some .int) 2 := ⟨(mw 447 (by decide +kernel) (by decide +kernel)), (mw 448 (by decide +kernel) (by decide +kernel)), in_X4, (mw 449 (by decide +kernel) (by decide +kernel)), ⟨by decide +kernel, by decide +kernel, by decide +kernel⟩⟩
theorem mv_X4_kinds : MV yX4_kinds cX4_kinds 3 (some .int) 2 := ⟨(mw 471 (by decide +kernel) (by decide +kernel)), (mw 472 (by decide +kernel) (by decide +kernel)), in_X4, (mw 473 (by decide +kernel) (by decide +kernel)), ⟨by decide +kernel, by decide +kernel, by decide +kernel⟩⟩
theorem mv_X4_swell : MV yX4_swell cX4_swell 4 (some .int) 1 := ⟨(mw 475 (by decide +kernel) (by decide +kernel)), (mw 476 (by decide +kernel) (by decide +kernel)), in_X4, (mw 477 (by decide +kernel) (by decide +kernel)), ⟨by decide +kernel, by decide +kernel, by decide +kernel⟩⟩
theorem mv_X4_odds : MV yX4_odds cX4_odds 11 (some .long) 3 := ⟨(mw 484 (by decide +kernel) (by decide +kernel)), (mw 485 (by decide +kernel) (by decide +kernel)), in_X4, (mw 486 (by decide +kernel) (by decide +kernel)), ⟨by decide +kernel, by decide +kernel, by decide +kernel⟩⟩
theorem mv_X4_seed : MV yX4_seed cX4_seed 3 (some .int) 1 := ⟨(mw 488 (by decide +kernel) (by decide +kernel)), (mw 489 (by decide +kernel) (by decide +kernel)), in_X4, (mw 490 (by decide +kernel) (by decide +kernel)), ⟨by decide +kernel, by decide +kernel, by decide +kernel⟩⟩
theorem mv_X4_feed : MV yX4_feed cX4_feed 4 (some .int) 2 := ⟨(mw 492 (by decide +kernel) (by decide +kernel)), (mw 493 (by decide +kernel) (by decide +kernel)), in_X4, (mw 494 (by decide +kernel) (by decide +kernel)), ⟨by decide +kernel, by decide +kernel, by decide +kernel⟩⟩
theorem mv_X4_wipe : MV yX4_wipe cX4_wipe 2 (some .int) 0 := ⟨(mw 500 (by decide +kernel) (by decide +kernel)), (mw 501 (by decide +kernel) (by decide +kernel)), in_X4, (mw 502 (by decide +kernel) (by decide +kernel)), ⟨by decide +kernel, by decide +kernel, by decide +kernel⟩⟩
theorem mv_X4_text : MV yX4_text cX4_text 2 (some .int) 0 := ⟨(mw 504 (by decide +kernel) (by decide +kernel)), (mw 505 (by decide +kernel) (by decide +kernel)), in_X4, (mw 506 (by decide +kernel) (by decide +kernel)), ⟨by decide +kernel, by decide +kernel, by decide +kernel⟩⟩
theorem mv_X4_hold : MV yX4_hold cX4_hold 3 (some .int) 2 := ⟨(mw 619 (by decide +kernel) (by decide +kernel)), (mw 620 (by decide +kernel) (by decide +kernel)), in_X4, (mw 621 (by decide +kernel) (by decide +kernel)), ⟨by decide +kernel, by decide +kernel, by decide +kernel⟩⟩
theorem mv_X4_as : MV yX4_as cX4_as 4 (some .int) 2 := ⟨(mw 623 (by decide +kernel) (by decide +kernel)), (mw 624 (by decide +kernel) (by decide +kernel)), in_X4, (mw 625 (by decide +kernel) (by decide +kernel)), ⟨by decide +kernel, by decide +kernel, by decide +kernel⟩⟩
theorem mv_X4_sheet : MV yX4_sheet cX4_sheet 4 (some .int) 3 := ⟨(mw 635 (by decide +kernel) (by decide +kernel)), (mw 636 (by decide +kernel) (by decide +kernel)), in_X4, (mw 637 (by decide +kernel) (by decide +kernel)), ⟨by decide +kernel, by decide +kernel, by decide +kernel⟩⟩
theorem mv_X4_write : MV yX4_write cX4_write 5 (some .int) 3 := ⟨(mw 644 (by decide +kernel) (by decide +kernel)), (mw 645 (by decide +kernel) (by decide +kernel)), in_X4, (mw 646 (by decide +kernel) (by decide +kernel)), ⟨by decide +kernel, by decide +kernel, by decide +kernel⟩⟩
theorem mv_X4_copy : MV yX4_copy cX4_copy 8 (some .int) 5 := ⟨(mw 652 (by decide +kernel) (by decide +kernel)), (mw 653 (by decide +kernel) (by decide +kernel)), in_X4, (mw 654 (by decide +kernel) (by decide +kernel)), ⟨by decide +kernel, by decide +kernel, by decide +kernel⟩⟩
theorem mv_X4_load : MV yX4_load cX4_load 5 (some .int) 1 := ⟨(mw 661 (by decide +kernel) (by decide +kernel)), (mw 662 (by decide +kernel) (by decide +kernel)), in_X4, (mw 663 (by decide +kernel) (by decide +kernel)), ⟨by decide +kernel, by decide +kernel, by decide +kernel⟩⟩
theorem mv_X4_judge : MV yX4_judge cX4_judge 5 (some .int) 1 := ⟨(mw 665 (by decide +kernel) (by decide +kernel)), (mw 666 (by decide +kernel) (by decide +kernel)), in_X4, (mw 667 (by decide +kernel) (by decide +kernel)), ⟨by decide +kernel, by decide +kernel, by decide +kernel⟩⟩
theorem mv_X4_image : MV yX4_image cX4_image 1 (some .int) 0 := ⟨(mw 669 (by decide +kernel) (by decide +kernel)), (mw 670 (by decide +kernel) (by decide +kernel)), in_X4, (mw 671 (by decide +kernel) (by decide +kernel)), ⟨by decide +kernel, by decide +kernel, by decide +kernel⟩⟩
theorem mv_X4_undo : MV yX4_undo cX4_undo 1 (some .int) 0 := ⟨(mw 673 (by decide +kernel) (by decide +kernel)), (mw 674 (by decide +kernel) (by decide +kernel)), in_X4, (mw 675 (by decide +kernel) (by decide +kernel)), ⟨by decide +kernel, by decide +kernel, by decide +kernel⟩⟩
theorem mv_X4_tear : MV yX4_tear cX4_tear 2 (some .int) 0 := ⟨(mw 677 (by decide +kernel) (by decide +kernel)), (mw 678 (by decide +kernel) (by decide +kernel)), in_X4, (mw 679 (by decide +kernel) (by decide +kernel)), ⟨by decide +kernel, by decide +kernel, by decide +kernel⟩⟩
theorem mv_X4_count : MV yX4_count cX4_count 2 (some .int) 1 := ⟨(mw 681 (by decide +kernel) (by decide +kernel)), (mw 682 (by decide +kernel) (by decide +kernel)), in_X4, (mw 683 (by decide +kernel) (by decide +kernel)), ⟨by decide +kernel, by decide +kernel, by decide +kernel⟩⟩
theorem mv_X4_status : MV yX4_status cX4_status 7 (some .int) 1 := ⟨(mw 695 (by decide +kernel) (by decide +kernel)), (mw 696 (by decide +kernel) (by decide +kernel)), in_X4, (mw 697 (by decide +kernel) (by decide +kernel)), ⟨by decide +kernel, by decide +kernel, by decide +kernel⟩⟩
theorem mv_X4_finding : MV yX4_finding cX4_finding 3 (some .int) 1 := ⟨(mw 240 (by decide +kernel) (by decide +kernel)), (mw 0 (by decide +kernel) (by decide +kernel)), in_X4, (mw 241 (by decide +kernel) (by decide +kernel)), ⟨by decide +kernel, by decide +kernel, by decide +kernel⟩⟩
theorem ms_X4_isOut : MS yX4_isOut cX4_isOut 3 (some .boolean) 3 := ⟨(mw 235 (by decide +kernel) (by decide +kernel)), in_X4, (mw 236 (by decide +kernel) (by decide +kernel)), ⟨by decide +kernel, by decide +kernel, by decide +kernel⟩⟩
theorem mv_X4_isNoParcel : MV yX4_isNoParcel cX4_isNoParcel 2 (some .boolean) 1 := ⟨(mw 269 (by decide +kernel) (by decide +kernel)), (mw 1 (by decide +kernel) (by decide +kernel)), in_X4, (mw 270 (by decide +kernel) (by decide +kernel)), ⟨by decide +kernel, by decide +kernel, by decide +kernel⟩⟩
theorem ms_X4_isNoSheet : MS yX4_isNoSheet cX4_isNoSheet 1 (some .boolean) 1 := ⟨(mw 459 (by decide +kernel) (by decide +kernel)), in_X4, (mw 460 (by decide +kernel) (by decide +kernel)), ⟨by decide +kernel, by decide +kernel, by decide +kernel⟩⟩
theorem mv_X4_wrongSheet : MV yX4_wrongSheet cX4_wrongSheet 2 (some .int) 1 := ⟨(mw 456 (by decide +kernel) (by decide +kernel)), (mw 6 (by decide +kernel) (by decide +kernel)), in_X4, (mw 457 (by decide +kernel) (by decide +kernel)), ⟨by decide +kernel, by decide +kernel, by decide +kernel⟩⟩
theorem mv_X4_tried : MV yX4_tried cX4_tried 2 (some (.object "SeaParcels$Parcel")) 1 := ⟨(mw 384 (by decide +kernel) (by decide +kernel)), (mw 3 (by decide +kernel) (by decide +kernel)), in_X4, (mw 385 (by decide +kernel) (by decide +kernel)), ⟨by decide +kernel, by decide +kernel, by decide +kernel⟩⟩
theorem mv_X4_isTakenOnTrial : MV yX4_isTakenOnTrial cX4_isTakenOnTrial 4 (some .boolean) 2 := ⟨(mw 421 (by decide +kernel) (by decide +kernel)), (mw 4 (by decide +kernel) (by decide +kernel)), in_X4, (mw 422 (by decide +kernel) (by decide +kernel)), ⟨by decide +kernel, by decide +kernel, by decide +kernel⟩⟩
theorem mv_X4_allAsTold : MV yX4_allAsTold cX4_allAsTold 8 (some .int) 3 := ⟨(mw 452 (by decide +kernel) (by decide +kernel)), (mw 5 (by decide +kernel) (by decide +kernel)), in_X4, (mw 453 (by decide +kernel) (by decide +kernel)), ⟨by decide +kernel, by decide +kernel, by decide +kernel⟩⟩
theorem mv_X4_isAsTold : MV yX4_isAsTold cX4_isAsTold 5 (some .boolean) 2 := ⟨(mw 468 (by decide +kernel) (by decide +kernel)), (mw 7 (by decide +kernel) (by decide +kernel)), in_X4, (mw 469 (by decide +kernel) (by decide +kernel)), ⟨by decide +kernel, by decide +kernel, by decide +kernel⟩⟩
theorem mv_X5_no : MV yX5_no cX5_no 2 (some .int) 1 := ⟨(mw 775 (by decide +kernel) (by decide +kernel)), (mw 18 (by decide +kernel) (by decide +kernel)), in_X5, (mw 776 (by decide +kernel) (by decide +kernel)), ⟨by decide +kernel, by decide +kernel, by decide +kernel⟩⟩
theorem ms_X5_in1 : MS yX5_in1 cX5_in1 3 (some .boolean) 3 := ⟨(mw 768 (by decide +kernel) (by decide +kernel)), in_X5, (mw 769 (by decide +kernel) (by decide +kernel)), ⟨by decide +kernel, by decide +kernel, by decide +kernel⟩⟩
theorem ms_X5_less : MS yX5_less cX5_less 2 (some .int) 2 := ⟨(mw 867 (by decide +kernel) (by decide +kernel)), in_X5, (mw 868 (by decide +kernel) (by decide +kernel)), ⟨by decide +kernel, by decide +kernel, by decide +kernel⟩⟩
theorem ms_X5_bits : MS yX5_bits cX5_bits 3 (some .int) 1 := ⟨(mw 958 (by decide +kernel) (by decide +kernel)), in_X5, (mw 959 (by decide +kernel) (by decide +kernel)), ⟨by decide +kernel, by decide +kernel, by decide +kernel⟩⟩
theorem ms_X5_isLine : MS yX5_isLine cX5_isLine 1 (some .boolean) 1 := ⟨(mw 771 (by decide +kernel) (by decide +kernel)), in_X5, (mw 772 (by decide +kernel) (by decide +kernel)), ⟨by decide +kernel, by decide +kernel, by decide +kernel⟩⟩
theorem mv_X5_isParcel : MV yX5_isParcel cX5_isParcel 2 (some .boolean) 1 := ⟨(mw 804 (by decide +kernel) (by decide +kernel)), (mw 21 (by decide +kernel) (by decide +kernel)), in_X5, (mw 805 (by decide +kernel) (by decide +kernel)), ⟨by decide +kernel, by decide +kernel, by decide +kernel⟩⟩
theorem mv_X5_get : MV yX5_get cX5_get 3 (some .int) 2 := ⟨(mw 812 (by decide +kernel) (by decide +kernel)), (mw 23 (by decide +kernel) (by decide +kernel)), in_X5, (mw 813 (by decide +kernel) (by decide +kernel)), ⟨by decide +kernel, by decide +kernel, by decide +kernel⟩⟩
theorem mv_X5_puts : MV yX5_puts cX5_puts 4 none 3 := ⟨(mw 796 (by decide +kernel) (by decide +kernel)), (mw 20 (by decide +kernel) (by decide +kernel)), in_X5, (mw 797 (by decide +kernel) (by decide +kernel)), ⟨by decide +kernel, by decide +kernel, by decide +kernel⟩⟩
theorem mv_X5_setsAside : MV yX5_setsAside cX5_setsAside 2 none 0 := ⟨(mw 895 (by decide +kernel) (by decide +kernel)), (mw 36 (by decide +kernel) (by decide +kernel)), in_X5, (mw 896 (by decide +kernel) (by decide +kernel)), ⟨by decide +kernel, by decide +kernel, by decide +kernel⟩⟩
theorem mv_X5_laysBack : MV yX5_laysBack cX5_laysBack 2 none 0 := ⟨(mw 899 (by decide +kernel) (by decide +kernel)), (mw 37 (by decide +kernel) (by decide +kernel)), in_X5, (mw 900 (by decide +kernel) (by decide +kernel)), ⟨by decide +kernel, by decide +kernel, by decide +kernel⟩⟩
theorem mv_X5_isSigned : MV yX5_isSigned cX5_isSigned 6 (some .boolean) 2 := ⟨(mw 839 (by decide +kernel) (by decide +kernel)), (mw 27 (by decide +kernel) (by decide +kernel)), in_X5, (mw 840 (by decide +kernel) (by decide +kernel)), ⟨by decide +kernel, by decide +kernel, by decide +kernel⟩⟩
theorem mv_X5_movesOf : MV yX5_movesOf cX5_movesOf 3 (some .int) 1 := ⟨(mw 808 (by decide +kernel) (by decide +kernel)), (mw 22 (by decide +kernel) (by decide +kernel)), in_X5, (mw 809 (by decide +kernel) (by decide +kernel)), ⟨by decide +kernel, by decide +kernel, by decide +kernel⟩⟩
theorem mv_X5_lastsOf : MV yX5_lastsOf cX5_lastsOf 2 (some .int) 1 := ⟨(mw 816 (by decide +kernel) (by decide +kernel)), (mw 24 (by decide +kernel) (by decide +kernel)), in_X5, (mw 817 (by decide +kernel) (by decide +kernel)), ⟨by decide +kernel, by decide +kernel, by decide +kernel⟩⟩
theorem mv_X5_paysOf : MV yX5_paysOf cX5_paysOf 3 (some .int) 1 := ⟨(mw 820 (by decide +kernel) (by decide +kernel)), (mw 25 (by decide +kernel) (by decide +kernel)), in_X5, (mw 821 (by decide +kernel) (by decide +kernel)), ⟨by decide +kernel, by decide +kernel, by decide +kernel⟩⟩
theorem mv_X5_delaysOf : MV yX5_delaysOf cX5_delaysOf 3 (some .int) 1 := ⟨(mw 824 (by decide +kernel) (by decide +kernel)), (mw 26 (by decide +kernel) (by decide +kernel)), in_X5, (mw 825 (by decide +kernel) (by decide +kernel)), ⟨by decide +kernel, by decide +kernel, by decide +kernel⟩⟩
theorem mv_X5_tideNow : MV yX5_tideNow cX5_tideNow 1 (some .int) 0 := ⟨(mw 860 (by decide +kernel) (by decide +kernel)), (mw 30 (by decide +kernel) (by decide +kernel)), in_X5, (mw 861 (by decide +kernel) (by decide +kernel)), ⟨by decide +kernel, by decide +kernel, by decide +kernel⟩⟩
theorem mv_X5_meetsTide : MV yX5_meetsTide cX5_meetsTide 3 none 2 := ⟨(mw 864 (by decide +kernel) (by decide +kernel)), (mw 31 (by decide +kernel) (by decide +kernel)), in_X5, (mw 865 (by decide +kernel) (by decide +kernel)), ⟨by decide +kernel, by decide +kernel, by decide +kernel⟩⟩
theorem mv_X5_waitsOn : MV yX5_waitsOn cX5_waitsOn 2 none 1 := ⟨(mw 871 (by decide +kernel) (by decide +kernel)), (mw 32 (by decide +kernel) (by decide +kernel)), in_X5, (mw 872 (by decide +kernel) (by decide +kernel)), ⟨by decide +kernel, by decide +kernel, by decide +kernel⟩⟩
theorem mv_X5_day : MV yX5_day cX5_day 3 none 0 := ⟨(mw 856 (by decide +kernel) (by decide +kernel)), (mw 29 (by decide +kernel) (by decide +kernel)), in_X5, (mw 857 (by decide +kernel) (by decide +kernel)), ⟨by decide +kernel, by decide +kernel, by decide +kernel⟩⟩
theorem mv_X5_goes : MV yX5_goes cX5_goes 3 none 1 := ⟨(mw 852 (by decide +kernel) (by decide +kernel)), (mw 28 (by decide +kernel) (by decide +kernel)), in_X5, (mw 853 (by decide +kernel) (by decide +kernel)), ⟨by decide +kernel, by decide +kernel, by decide +kernel⟩⟩
theorem mv_X5_those : MV yX5_those cX5_those 4 (some .int) 1 := ⟨(mw 875 (by decide +kernel) (by decide +kernel)), (mw 33 (by decide +kernel) (by decide +kernel)), in_X5, (mw 876 (by decide +kernel) (by decide +kernel)), ⟨by decide +kernel, by decide +kernel, by decide +kernel⟩⟩
theorem ms_X5_isTurn : MS yX5_isTurn cX5_isTurn 1 (some .boolean) 1 := ⟨(mw 765 (by decide +kernel) (by decide +kernel)), in_X5, (mw 766 (by decide +kernel) (by decide +kernel)), ⟨by decide +kernel, by decide +kernel, by decide +kernel⟩⟩
theorem mv_X5_tide : MV yX5_tide cX5_tide 4 (some .int) 2 := ⟨(mw 761 (by decide +kernel) (by decide +kernel)), (mw 762 (by decide +kernel) (by decide +kernel)), in_X5, (mw 763 (by decide +kernel) (by decide +kernel)), ⟨by decide +kernel, by decide +kernel, by decide +kernel⟩⟩
theorem mv_X5_listed : MV yX5_listed cX5_listed 2 (some .int) 1 := ⟨(mw 779 (by decide +kernel) (by decide +kernel)), (mw 780 (by decide +kernel) (by decide +kernel)), in_X5, (mw 781 (by decide +kernel) (by decide +kernel)), ⟨by decide +kernel, by decide +kernel, by decide +kernel⟩⟩
theorem mv_X5_set : MV yX5_set cX5_set 4 (some .int) 2 := ⟨(mw 783 (by decide +kernel) (by decide +kernel)), (mw 784 (by decide +kernel) (by decide +kernel)), in_X5, (mw 785 (by decide +kernel) (by decide +kernel)), ⟨by decide +kernel, by decide +kernel, by decide +kernel⟩⟩
theorem mv_X5_adds : MV yX5_adds cX5_adds 4 none 1 := ⟨(mw 792 (by decide +kernel) (by decide +kernel)), (mw 19 (by decide +kernel) (by decide +kernel)), in_X5, (mw 793 (by decide +kernel) (by decide +kernel)), ⟨by decide +kernel, by decide +kernel, by decide +kernel⟩⟩
theorem mv_X5_parcel : MV yX5_parcel cX5_parcel 3 (some .int) 2 := ⟨(mw 787 (by decide +kernel) (by decide +kernel)), (mw 788 (by decide +kernel) (by decide +kernel)), in_X5, (mw 789 (by decide +kernel) (by decide +kernel)), ⟨by decide +kernel, by decide +kernel, by decide +kernel⟩⟩
theorem mv_X5_of : MV yX5_of cX5_of 3 (some .int) 2 := ⟨(mw 799 (by decide +kernel) (by decide +kernel)), (mw 800 (by decide +kernel) (by decide +kernel)), in_X5, (mw 801 (by decide +kernel) (by decide +kernel)), ⟨by decide +kernel, by decide +kernel, by decide +kernel⟩⟩
theorem ms_X5_mostOf : MS yX5_mostOf cX5_mostOf 1 (some .int) 1 := ⟨(mw 831 (by decide +kernel) (by decide +kernel)), in_X5, (mw 832 (by decide +kernel) (by decide +kernel)), ⟨by decide +kernel, by decide +kernel, by decide +kernel⟩⟩
theorem mv_X5_change : MV yX5_change cX5_change 5 (some .int) 3 := ⟨(mw 827 (by decide +kernel) (by decide +kernel)), (mw 828 (by decide +kernel) (by decide +kernel)), in_X5, (mw 829 (by decide +kernel) (by decide +kernel)), ⟨by decide +kernel, by decide +kernel, by decide +kernel⟩⟩
theorem mv_X5_signs : MV yX5_signs cX5_signs 3 (some .int) 2 := ⟨(mw 834 (by decide +kernel) (by decide +kernel)), (mw 835 (by decide +kernel) (by decide +kernel)), in_X5, (mw 836 (by decide +kernel) (by decide +kernel)), ⟨by decide +kernel, by decide +kernel, by decide +kernel⟩⟩
theorem mv_X5_onLine : MV yX5_onLine cX5_onLine 4 (some .int) 1 := ⟨(mw 842 (by decide +kernel) (by decide +kernel)), (mw 843 (by decide +kernel) (by decide +kernel)), in_X5, (mw 844 (by decide +kernel) (by decide +kernel)), ⟨by decide +kernel, by decide +kernel, by decide +kernel⟩⟩
theorem mv_X5_go : MV yX5_go cX5_go 2 (some .int) 1 := ⟨(mw 846 (by decide +kernel) (by decide +kernel)), (mw 847 (by decide +kernel) (by decide +kernel)), in_X5, (mw 848 (by decide +kernel) (by decide +kernel)), ⟨by decide +kernel, by decide +kernel, by decide +kernel⟩⟩
theorem mv_X5_weightNow : MV yX5_weightNow cX5_weightNow 3 (some .int) 0 := ⟨(mw 883 (by decide +kernel) (by decide +kernel)), (mw 34 (by decide +kernel) (by decide +kernel)), in_X5, (mw 884 (by decide +kernel) (by decide +kernel)), ⟨by decide +kernel, by decide +kernel, by decide +kernel⟩⟩
theorem mv_X5_now : MV yX5_now cX5_now 2 (some .int) 1 := ⟨(mw 878 (by decide +kernel) (by decide +kernel)), (mw 879 (by decide +kernel) (by decide +kernel)), in_X5, (mw 880 (by decide +kernel) (by decide +kernel)), ⟨by decide +kernel, by decide +kernel, by decide +kernel⟩⟩
theorem mv_X5_thenAt : MV yX5_thenAt cX5_thenAt 4 (some .int) 2 := ⟨(mw 891 (by decide +kernel) (by decide +kernel)), (mw 35 (by decide +kernel) (by decide +kernel)), in_X5, (mw 892 (by decide +kernel) (by decide +kernel)), ⟨by decide +kernel, by decide +kernel, by decide +kernel⟩⟩
theorem mv_X5_ahead : MV yX5_ahead cX5_ahead 5 (some .int) 3 := ⟨(mw 886 (by decide +kernel) (by decide +kernel)), (mw 887 (by decide +kernel) (by decide +kernel)), in_X5, (mw 888 (by decide +kernel) (by decide +kernel)), ⟨by decide +kernel, by decide +kernel, by decide +kernel⟩⟩
theorem mv_X5_sea : MV yX5_sea cX5_sea 4 (some .int) 2 := ⟨(mw 902 (by decide +kernel) (by decide +kernel)), (mw 903 (by decide +kernel) (by decide +kernel)), in_X5, (mw 904 (by decide +kernel) (by decide +kernel)), ⟨by decide +kernel, by decide +kernel, by decide +kernel⟩⟩
theorem mv_X5_isSo : MV yX5_isSo cX5_isSo 3 (some .boolean) 2 := ⟨(mw 915 (by decide +kernel) (by decide +kernel)), (mw 39 (by decide +kernel) (by decide +kernel)), in_X5, (mw 916 (by decide +kernel) (by decide +kernel)), ⟨by decide +kernel, by decide +kernel, by decide +kernel⟩⟩
theorem mv_X5_firstBy : MV yX5_firstBy cX5_firstBy 4 (some .int) 2 := ⟨(mw 911 (by decide +kernel) (by decide +kernel)), (mw 38 (by decide +kernel) (by decide +kernel)), in_X5, (mw 912 (by decide +kernel) (by decide +kernel)), ⟨by decide +kernel, by decide +kernel, by decide +kernel⟩⟩
theorem mv_X5_when : MV yX5_when cX5_when 3 (some .int) 2 := ⟨(mw 906 (by decide +kernel) (by decide +kernel)), (mw 907 (by decide +kernel) (by decide +kernel)), in_X5, (mw 908 (by decide +kernel) (by decide +kernel)), ⟨by decide +kernel, by decide +kernel, by decide +kernel⟩⟩
theorem mv_X5_cleared : MV yX5_cleared cX5_cleared 1 (some .int) 0 := ⟨(mw 918 (by decide +kernel) (by decide +kernel)), (mw 919 (by decide +kernel) (by decide +kernel)), in_X5, (mw 920 (by decide +kernel) (by decide +kernel)), ⟨by decide +kernel, by decide +kernel, by decide +kernel⟩⟩
theorem mv_X5_paid : MV yX5_paid cX5_paid 2 (some .int) 1 := ⟨(mw 922 (by decide +kernel) (by decide +kernel)), (mw 923 (by decide +kernel) (by decide +kernel)), in_X5, (mw 924 (by decide +kernel) (by decide +kernel)), ⟨by decide +kernel, by decide +kernel, by decide +kernel⟩⟩
theorem mv_X5_isTakenBy : MV yX5_isTakenBy cX5_isTakenBy 4 (some .boolean) 2 := ⟨(mw 939 (by decide +kernel) (by decide +kernel)), (mw 42 (by decide +kernel) (by decide +kernel)), in_X5, (mw 940 (by decide +kernel) (by decide +kernel)), ⟨by decide +kernel, by decide +kernel, by decide +kernel⟩⟩
theorem mv_X5_isAsked : MV yX5_isAsked cX5_isAsked 3 (some .boolean) 2 := ⟨(mw 931 (by decide +kernel) (by decide +kernel)), (mw 40 (by decide +kernel) (by decide +kernel)), in_X5, (mw 932 (by decide +kernel) (by decide +kernel)), ⟨by decide +kernel, by decide +kernel, by decide +kernel⟩⟩
theorem mv_X5_greatestBy : MV yX5_greatestBy cX5_greatestBy 6 (some .int) 4 := ⟨(mw 935 (by decide +kernel) (by decide +kernel)), (mw 41 (by decide +kernel) (by decide +kernel)), in_X5, (mw 936 (by decide +kernel) (by decide +kernel)), ⟨by decide +kernel, by decide +kernel, by decide +kernel⟩⟩
theorem mv_X5_lineFor : MV yX5_lineFor cX5_lineFor 3 (some .int) 2 := ⟨(mw 926 (by decide +kernel) (by decide +kernel)), (mw 927 (by decide +kernel) (by decide +kernel)), in_X5, (mw 928 (by decide +kernel) (by decide +kernel)), ⟨by decide +kernel, by decide +kernel, by decide +kernel⟩⟩
theorem mv_X5_weightFor : MV yX5_weightFor cX5_weightFor 3 (some .int) 2 := ⟨(mw 942 (by decide +kernel) (by decide +kernel)), (mw 943 (by decide +kernel) (by decide +kernel)), in_X5, (mw 944 (by decide +kernel) (by decide +kernel)), ⟨by decide +kernel, by decide +kernel, by decide +kernel⟩⟩
theorem mv_X5_kindFor : MV yX5_kindFor cX5_kindFor 7 (some .int) 2 := ⟨(mw 946 (by decide +kernel) (by decide +kernel)), (mw 947 (by decide +kernel) (by decide +kernel)), in_X5, (mw 948 (by decide +kernel) (by decide +kernel)), ⟨by decide +kernel, by decide +kernel, by decide +kernel⟩⟩
theorem mv_X5_stormFor : MV yX5_stormFor cX5_stormFor 4 (some .int) 2 := ⟨(mw 950 (by decide +kernel) (by decide +kernel)), (mw 951 (by decide +kernel) (by decide +kernel)), in_X5, (mw 952 (by decide +kernel) (by decide +kernel)), ⟨by decide +kernel, by decide +kernel, by decide +kernel⟩⟩
theorem mv_X5_lateWith : MV yX5_lateWith cX5_lateWith 4 (some .int) 2 := ⟨(mw 962 (by decide +kernel) (by decide +kernel)), (mw 43 (by decide +kernel) (by decide +kernel)), in_X5, (mw 963 (by decide +kernel) (by decide +kernel)), ⟨by decide +kernel, by decide +kernel, by decide +kernel⟩⟩
theorem mv_X5_holdBack : MV yX5_holdBack cX5_holdBack 5 (some .int) 1 := ⟨(mw 954 (by decide +kernel) (by decide +kernel)), (mw 955 (by decide +kernel) (by decide +kernel)), in_X5, (mw 956 (by decide +kernel) (by decide +kernel)), ⟨by decide +kernel, by decide +kernel, by decide +kernel⟩⟩
theorem ms_X5_isSheet : MS yX5_isSheet cX5_isSheet 1 (some .boolean) 1 := ⟨(mw 977 (by decide +kernel) (by decide +kernel)), in_X5, (mw 978 (by decide +kernel) (by decide +kernel)), ⟨by decide +kernel, by decide +kernel, by decide +kernel⟩⟩
theorem mv_X5_wrongSheet : MV yX5_wrongSheet cX5_wrongSheet 2 (some .int) 1 := ⟨(mw 974 (by decide +kernel) (by decide +kernel)), (mw 45 (by decide +kernel) (by decide +kernel)), in_X5, (mw 975 (by decide +kernel) (by decide +kernel)), ⟨by decide +kernel, by decide +kernel, by decide +kernel⟩⟩
theorem mv_X5_wrongTold : MV yX5_wrongTold cX5_wrongTold 4 (some .int) 2 := ⟨(mw 970 (by decide +kernel) (by decide +kernel)), (mw 44 (by decide +kernel) (by decide +kernel)), in_X5, (mw 971 (by decide +kernel) (by decide +kernel)), ⟨by decide +kernel, by decide +kernel, by decide +kernel⟩⟩
theorem mv_X5_told : MV yX5_told cX5_told 3 (some .int) 2 := ⟨(mw 985 (by decide +kernel) (by decide +kernel)), (mw 47 (by decide +kernel) (by decide +kernel)), in_X5, (mw 986 (by decide +kernel) (by decide +kernel)), ⟨by decide +kernel, by decide +kernel, by decide +kernel⟩⟩
theorem mv_X5_allThatFit : MV yX5_allThatFit cX5_allThatFit 8 (some .int) 3 := ⟨(mw 981 (by decide +kernel) (by decide +kernel)), (mw 46 (by decide +kernel) (by decide +kernel)), in_X5, (mw 982 (by decide +kernel) (by decide +kernel)), ⟨by decide +kernel, by decide +kernel, by decide +kernel⟩⟩
theorem mv_X5_fits : MV yX5_fits cX5_fits 4 (some .int) 2 := ⟨(mw 965 (by decide +kernel) (by decide +kernel)), (mw 966 (by decide +kernel) (by decide +kernel)), in_X5, (mw 967 (by decide +kernel) (by decide +kernel)), ⟨by decide +kernel, by decide +kernel, by decide +kernel⟩⟩
theorem mv_X5_kinds : MV yX5_kinds cX5_kinds 4 (some .int) 2 := ⟨(mw 988 (by decide +kernel) (by decide +kernel)), (mw 989 (by decide +kernel) (by decide +kernel)), in_X5, (mw 990 (by decide +kernel) (by decide +kernel)), ⟨by decide +kernel, by decide +kernel, by decide +kernel⟩⟩
theorem mv_X5_draw : MV yX5_draw cX5_draw 1 (some .int) 0 := ⟨(mw 997 (by decide +kernel) (by decide +kernel)), (mw 48 (by decide +kernel) (by decide +kernel)), in_X5, (mw 998 (by decide +kernel) (by decide +kernel)), ⟨by decide +kernel, by decide +kernel, by decide +kernel⟩⟩
theorem mv_X5_swell : MV yX5_swell cX5_swell 4 (some .int) 1 := ⟨(mw 992 (by decide +kernel) (by decide +kernel)), (mw 993 (by decide +kernel) (by decide +kernel)), in_X5, (mw 994 (by decide +kernel) (by decide +kernel)), ⟨by decide +kernel, by decide +kernel, by decide +kernel⟩⟩
theorem mv_X5_odds : MV yX5_odds cX5_odds 15 (some .long) 3 := ⟨(mw 1001 (by decide +kernel) (by decide +kernel)), (mw 1002 (by decide +kernel) (by decide +kernel)), in_X5, (mw 1003 (by decide +kernel) (by decide +kernel)), ⟨by decide +kernel, by decide +kernel, by decide +kernel⟩⟩
theorem mv_X5_seed : MV yX5_seed cX5_seed 3 (some .int) 1 := ⟨(mw 1006 (by decide +kernel) (by decide +kernel)), (mw 1007 (by decide +kernel) (by decide +kernel)), in_X5, (mw 1008 (by decide +kernel) (by decide +kernel)), ⟨by decide +kernel, by decide +kernel, by decide +kernel⟩⟩
theorem mv_X5_feed : MV yX5_feed cX5_feed 4 (some .int) 2 := ⟨(mw 1010 (by decide +kernel) (by decide +kernel)), (mw 1011 (by decide +kernel) (by decide +kernel)), in_X5, (mw 1012 (by decide +kernel) (by decide +kernel)), ⟨by decide +kernel, by decide +kernel, by decide +kernel⟩⟩
theorem mv_X5_wipe : MV yX5_wipe cX5_wipe 2 (some .int) 0 := ⟨(mw 1014 (by decide +kernel) (by decide +kernel)), (mw 1015 (by decide +kernel) (by decide +kernel)), in_X5, (mw 1016 (by decide +kernel) (by decide +kernel)), ⟨by decide +kernel, by decide +kernel, by decide +kernel⟩⟩
theorem ms_X5_isLetter : MS yX5_isLetter cX5_isLetter 1 (some .boolean) 1 := ⟨(mw 1026 (by decide +kernel) (by decide +kernel)), in_X5, (mw 1027 (by decide +kernel) (by decide +kernel)), ⟨by decide +kernel, by decide +kernel, by decide +kernel⟩⟩
theorem ms_X5_isDigit : MS yX5_isDigit cX5_isDigit 1 (some .boolean) 1 := ⟨(mw 1032 (by decide +kernel) (by decide +kernel)), in_X5, (mw 1033 (by decide +kernel) (by decide +kernel)), ⟨by decide +kernel, by decide +kernel, by decide +kernel⟩⟩
theorem mv_X5_nextToken : MV yX5_nextToken cX5_nextToken 1 none 0 := ⟨(mw 1023 (by decide +kernel) (by decide +kernel)), (mw 49 (by decide +kernel) (by decide +kernel)), in_X5, (mw 1024 (by decide +kernel) (by decide +kernel)), ⟨by decide +kernel, by decide +kernel, by decide +kernel⟩⟩
theorem mv_X5_wordOf : MV yX5_wordOf cX5_wordOf 7 (some .int) 1 := ⟨(mw 1043 (by decide +kernel) (by decide +kernel)), (mw 51 (by decide +kernel) (by decide +kernel)), in_X5, (mw 1044 (by decide +kernel) (by decide +kernel)), ⟨by decide +kernel, by decide +kernel, by decide +kernel⟩⟩
theorem mv_X5_takesNumber : MV yX5_takesNumber cX5_takesNumber 4 (some .int) 2 := ⟨(mw 1051 (by decide +kernel) (by decide +kernel)), (mw 53 (by decide +kernel) (by decide +kernel)), in_X5, (mw 1052 (by decide +kernel) (by decide +kernel)), ⟨by decide +kernel, by decide +kernel, by decide +kernel⟩⟩
theorem mv_X5_readsParcel : MV yX5_readsParcel cX5_readsParcel 5 (some .boolean) 1 := ⟨(mw 1047 (by decide +kernel) (by decide +kernel)), (mw 52 (by decide +kernel) (by decide +kernel)), in_X5, (mw 1048 (by decide +kernel) (by decide +kernel)), ⟨by decide +kernel, by decide +kernel, by decide +kernel⟩⟩
theorem mv_X5_readsItem : MV yX5_readsItem cX5_readsItem 5 (some .boolean) 0 := ⟨(mw 1039 (by decide +kernel) (by decide +kernel)), (mw 50 (by decide +kernel) (by decide +kernel)), in_X5, (mw 1040 (by decide +kernel) (by decide +kernel)), ⟨by decide +kernel, by decide +kernel, by decide +kernel⟩⟩
theorem mv_X5_text : MV yX5_text cX5_text 3 (some .int) 0 := ⟨(mw 1018 (by decide +kernel) (by decide +kernel)), (mw 1019 (by decide +kernel) (by decide +kernel)), in_X5, (mw 1020 (by decide +kernel) (by decide +kernel)), ⟨by decide +kernel, by decide +kernel, by decide +kernel⟩⟩
theorem ms_X5_isSpot : MS yX5_isSpot cX5_isSpot 1 (some .boolean) 1 := ⟨(mw 1058 (by decide +kernel) (by decide +kernel)), in_X5, (mw 1059 (by decide +kernel) (by decide +kernel)), ⟨by decide +kernel, by decide +kernel, by decide +kernel⟩⟩
theorem mv_X5_hold : MV yX5_hold cX5_hold 3 (some .int) 2 := ⟨(mw 1054 (by decide +kernel) (by decide +kernel)), (mw 1055 (by decide +kernel) (by decide +kernel)), in_X5, (mw 1056 (by decide +kernel) (by decide +kernel)), ⟨by decide +kernel, by decide +kernel, by decide +kernel⟩⟩
theorem ms_X5_above : MS yX5_above cX5_above 1 (some .int) 1 := ⟨(mw 1065 (by decide +kernel) (by decide +kernel)), in_X5, (mw 1066 (by decide +kernel) (by decide +kernel)), ⟨by decide +kernel, by decide +kernel, by decide +kernel⟩⟩
theorem mv_X5_as : MV yX5_as cX5_as 5 (some .int) 2 := ⟨(mw 1061 (by decide +kernel) (by decide +kernel)), (mw 1062 (by decide +kernel) (by decide +kernel)), in_X5, (mw 1063 (by decide +kernel) (by decide +kernel)), ⟨by decide +kernel, by decide +kernel, by decide +kernel⟩⟩
theorem mv_X5_sheet : MV yX5_sheet cX5_sheet 5 (some .int) 3 := ⟨(mw 1068 (by decide +kernel) (by decide +kernel)), (mw 1069 (by decide +kernel) (by decide +kernel)), in_X5, (mw 1070 (by decide +kernel) (by decide +kernel)), ⟨by decide +kernel, by decide +kernel, by decide +kernel⟩⟩
theorem mv_X5_write : MV yX5_write cX5_write 5 (some .int) 3 := ⟨(mw 1072 (by decide +kernel) (by decide +kernel)), (mw 1073 (by decide +kernel) (by decide +kernel)), in_X5, (mw 1074 (by decide +kernel) (by decide +kernel)), ⟨by decide +kernel, by decide +kernel, by decide +kernel⟩⟩
theorem mv_X5_copy : MV yX5_copy cX5_copy 7 (some .int) 5 := ⟨(mw 1076 (by decide +kernel) (by decide +kernel)), (mw 1077 (by decide +kernel) (by decide +kernel)), in_X5, (mw 1078 (by decide +kernel) (by decide +kernel)), ⟨by decide +kernel, by decide +kernel, by decide +kernel⟩⟩
theorem mv_X5_load : MV yX5_load cX5_load 4 (some .int) 1 := ⟨(mw 1080 (by decide +kernel) (by decide +kernel)), (mw 1081 (by decide +kernel) (by decide +kernel)), in_X5, (mw 1082 (by decide +kernel) (by decide +kernel)), ⟨by decide +kernel, by decide +kernel, by decide +kernel⟩⟩
theorem mv_X5_judge : MV yX5_judge cX5_judge 4 (some .int) 1 := ⟨(mw 1084 (by decide +kernel) (by decide +kernel)), (mw 1085 (by decide +kernel) (by decide +kernel)), in_X5, (mw 1086 (by decide +kernel) (by decide +kernel)), ⟨by decide +kernel, by decide +kernel, by decide +kernel⟩⟩
theorem mv_X5_image : MV yX5_image cX5_image 2 (some .int) 0 := ⟨(mw 1088 (by decide +kernel) (by decide +kernel)), (mw 1089 (by decide +kernel) (by decide +kernel)), in_X5, (mw 1090 (by decide +kernel) (by decide +kernel)), ⟨by decide +kernel, by decide +kernel, by decide +kernel⟩⟩
theorem mv_X5_undo : MV yX5_undo cX5_undo 2 (some .int) 0 := ⟨(mw 1092 (by decide +kernel) (by decide +kernel)), (mw 1093 (by decide +kernel) (by decide +kernel)), in_X5, (mw 1094 (by decide +kernel) (by decide +kernel)), ⟨by decide +kernel, by decide +kernel, by decide +kernel⟩⟩
theorem mv_X5_tear : MV yX5_tear cX5_tear 2 (some .int) 0 := ⟨(mw 1096 (by decide +kernel) (by decide +kernel)), (mw 1097 (by decide +kernel) (by decide +kernel)), in_X5, (mw 1098 (by decide +kernel) (by decide +kernel)), ⟨by decide +kernel, by decide +kernel, by decide +kernel⟩⟩
theorem mv_X5_count : MV yX5_count cX5_count 4 (some .int) 1 := ⟨(mw 1100 (by decide +kernel) (by decide +kernel)), (mw 1101 (by decide +kernel) (by decide +kernel)), in_X5, (mw 1102 (by decide +kernel) (by decide +kernel)), ⟨by decide +kernel, by decide +kernel, by decide +kernel⟩⟩
theorem mv_X5_status : MV yX5_status cX5_status 4 (some .int) 1 := ⟨(mw 1104 (by decide +kernel) (by decide +kernel)), (mw 1105 (by decide +kernel) (by decide +kernel)), in_X5, (mw 1106 (by decide +kernel) (by decide +kernel)), ⟨by decide +kernel, by decide +kernel, by decide +kernel⟩⟩
theorem ms_J6_bitCount_0f7a4 : MS yJ6_bitCount_0f7a4 cJ6_bitCount_0f7a4 1 (some .int) 1 := ⟨(mw 685 (by decide +kernel) (by decide +kernel)), in_J6, (mw 686 (by decide +kernel) (by decide +kernel)), ⟨by decide +kernel, by decide +kernel, by decide +kernel⟩⟩
theorem ms_J9_min_7cf53 : MS yJ9_min_7cf53 cJ9_min_7cf53 2 (some .int) 2 := ⟨(mw 349 (by decide +kernel) (by decide +kernel)), in_J9, (mw 350 (by decide +kernel) (by decide +kernel)), ⟨by decide +kernel, by decide +kernel, by decide +kernel⟩⟩
theorem mv_J0_length_8abf5 : MV yJ0_length_8abf5 cJ0_length_8abf5 1 (some .int) 0 := ⟨(mw 533 (by decide +kernel) (by decide +kernel)), (mw 534 (by decide +kernel) (by decide +kernel)), in_J0, (mw 535 (by decide +kernel) (by decide +kernel)), ⟨by decide +kernel, by decide +kernel, by decide +kernel⟩⟩
theorem mv_J0_charAt_5068e : MV yJ0_charAt_5068e cJ0_charAt_5068e 2 (some .char) 1 := ⟨(mw 543 (by decide +kernel) (by decide +kernel)), (mw 544 (by decide +kernel) (by decide +kernel)), in_J0, (mw 545 (by decide +kernel) (by decide +kernel)), ⟨by decide +kernel, by decide +kernel, by decide +kernel⟩⟩
theorem mv_J0_coder_7d493 : MV yJ0_coder_7d493 cJ0_coder_7d493 1 (some .byte) 0 := ⟨(mw 537 (by decide +kernel) (by decide +kernel)), (mw 538 (by decide +kernel) (by decide +kernel)), in_J0, (mw 539 (by decide +kernel) (by decide +kernel)), ⟨by decide +kernel, by decide +kernel, by decide +kernel⟩⟩
theorem mv_J0_isLatin1_aae02 : MV yJ0_isLatin1_aae02 cJ0_isLatin1_aae02 1 (some .boolean) 0 := ⟨(mw 547 (by decide +kernel) (by decide +kernel)), (mw 548 (by decide +kernel) (by decide +kernel)), in_J0, (mw 549 (by decide +kernel) (by decide +kernel)), ⟨by decide +kernel, by decide +kernel, by decide +kernel⟩⟩
theorem ms_J0_checkIndex_df160 : MS yJ0_checkIndex_df160 cJ0_checkIndex_df160 2 none 2 := ⟨(mw 554 (by decide +kernel) (by decide +kernel)), in_J0, (mw 555 (by decide +kernel) (by decide +kernel)), ⟨by decide +kernel, by decide +kernel, by decide +kernel⟩⟩
theorem ms_J1_charAt_3b067 : MS yJ1_charAt_3b067 cJ1_charAt_3b067 2 (some .char) 2 := ⟨(mw 551 (by decide +kernel) (by decide +kernel)), in_J1, (mw 552 (by decide +kernel) (by decide +kernel)), ⟨by decide +kernel, by decide +kernel, by decide +kernel⟩⟩
theorem ms_J2_getChar_3b067 : MS yJ2_getChar_3b067 cJ2_getChar_3b067 2 (some .char) 2 := ⟨(mw 572 (by decide +kernel) (by decide +kernel)), in_J2, (mw 573 (by decide +kernel) (by decide +kernel)), ⟨by decide +kernel, by decide +kernel, by decide +kernel⟩⟩
theorem ms_J2_length_9d52b : MS yJ2_length_9d52b cJ2_length_9d52b 1 (some .int) 1 := ⟨(mw 568 (by decide +kernel) (by decide +kernel)), in_J2, (mw 569 (by decide +kernel) (by decide +kernel)), ⟨by decide +kernel, by decide +kernel, by decide +kernel⟩⟩
theorem ms_J2_charAt_3b067 : MS yJ2_charAt_3b067 cJ2_charAt_3b067 2 (some .char) 2 := ⟨(mw 562 (by decide +kernel) (by decide +kernel)), in_J2, (mw 563 (by decide +kernel) (by decide +kernel)), ⟨by decide +kernel, by decide +kernel, by decide +kernel⟩⟩
theorem ms_J2_checkIndex_2214a : MS yJ2_checkIndex_2214a cJ2_checkIndex_2214a 2 none 2 := ⟨(mw 565 (by decide +kernel) (by decide +kernel)), in_J2, (mw 566 (by decide +kernel) (by decide +kernel)), ⟨by decide +kernel, by decide +kernel, by decide +kernel⟩⟩
theorem ms_J3_checkIndex_8e157 : MS yJ3_checkIndex_8e157 cJ3_checkIndex_8e157 3 (some .int) 3 := ⟨(mw 559 (by decide +kernel) (by decide +kernel)), in_J3, (mw 560 (by decide +kernel) (by decide +kernel)), ⟨by decide +kernel, by decide +kernel, by decide +kernel⟩⟩
end
section
/-! THE TYPED MEMORY: logical rows of ints, and one long; how the world's cells are read off it -/
abbrev TM : Type := (Nat → Nat → Int32) × Int64
abbrev Cx : Type := Launch × va_G × (Nat → Nat) × (Nat → ClassId) × (Nat → Nat) × (Nat → Nat) × Nat × Nat
def kL (K : Cx) : Launch := K.1
def kD (K : Cx) : va_G := K.2.1
def kad (K : Cx) : Nat → Nat := K.2.2.1
def kcA (K : Cx) : Nat → ClassId := K.2.2.2.1
def kK (K : Cx) : Nat → Nat := K.2.2.2.2.1
def kV (K : Cx) : Nat → Nat := K.2.2.2.2.2.1
def kz (K : Cx) : Nat := K.2.2.2.2.2.2.1
def kF (K : Cx) : Nat := K.2.2.2.2.2.2.2
def AA (K : Cx) : Nat → Prop := fun q => kz K ≤ q
def kdL : List Nat := [4, 0, 8, 9, 8, 1, 1, 1, 1, 1, 1, 1, 1, 0, 8, 9, 8, 1, 1, 1, 1, 1, 1, 1, 1, 0, 8, 9, 8, 1, 1, 1, 1, 1, 1, 1, 1, 3, 6, 10, 8, 2, 8, 2, 8, 2, 8, 2, 8, 5, 8, 8, 8, 8, 8, 7, 7, 7, 8, 8, 8, 8]
def lnL : List Nat := [7, 9, 6, 8, 10, 7, 7, 7, 7, 7, 7, 7, 7, 9, 6, 8, 10, 7, 7, 7, 7, 7, 7, 7, 7, 9, 6, 8, 10, 7, 7, 7, 7, 7, 7, 7, 7, 6, 120, 4, 7, 3, 40, 3, 40, 3, 40, 3, 40, 18, 78, 78, 78, 7, 120, 70, 40, 20, 4, 4, 160, 40]
def alL : List (Nat × Nat) := [(0, 0), (0, 0), (1, 6), (0, 0), (1, 68), (0, 0), (0, 0), (0, 0), (0, 0), (0, 0), (0, 0), (0, 0), (0, 0), (0, 0), (13, 6), (0, 0), (13, 68), (0, 0), (0, 0), (0, 0), (0, 0), (0, 0), (0, 0), (0, 0), (0, 0), (0, 0), (25, 6), (0, 0), (25, 68), (0, 0), (0, 0), (0, 0), (0, 0), (0, 0), (0, 0), (0, 0), (0, 0), (0, 0), (38, 0), (0, 0), (40, 0), (0, 0), (43, 0), (0, 0), (43, 40), (0, 0), (43, 80), (0, 0), (43, 120), (0, 0), (50, 0), (51, 0), (52, 0), (53, 0), (54, 0), (55, 0), (56, 0), (57, 0), (58, 0), (59, 0), (60, 0), (61, 0)]
def fkL : List (List Nat) := [[2, 0, 0, 0, 0, 0, 0, 2, 2], [0, 0, 0, 0, 0, 0, 0], [0, 0, 2], [2, 0, 0, 0, 0, 0], [2, 2, 2, 0, 2, 2, 2], [2, 2, 2, 0, 2, 2, 0, 0, 0, 0, 1, 2, 2, 2, 2, 2, 2, 2]]
def csL : List Nat := [9, 4, 5, 3, 0, 2, 1, 9, 9]
def kd (o : Nat) : Nat := kdL.getD o 99
def ln (o : Nat) : Nat := lnL.getD o 0
def al (o : Nat) : Nat × Nat := alL.getD o (0, 0)
/-- 0: an int, 1: the long, 2: a reference -/
def fk (ci k : Nat) : Nat := (fkL.getD ci []).getD k 0
def cs (k : Nat) : Nat := csL.getD k 99
/-- where an int field lies -/
def ol (ci o k : Nat) : Nat × Nat := match ci with
  | 0 => (o, cs k)
  | 1 => (1 + 12 * ((o - 5) / 12), 12 + 7 * ((o - 5) % 12) + k)
  | 2 => (41 + k, (o - 41) / 2)
  | 3 => (37, k)
  | 4 => (0, k)
  | _ => (49, k)
def rf5L : List Nat := [50, 51, 52, 0, 53, 54, 0, 0, 0, 0, 0, 55, 56, 57, 58, 59, 60, 61]
def rf4L : List Nat := [1, 13, 25, 0, 37, 39, 40]
/-- which object a reference field names -/
def rfc (ci k o : Nat) : Nat := match ci with
  | 0 => match k with
    | 0 => o + 1
    | 7 => o + 2
    | _ => o + 3
  | 4 => rf4L.getD k 0
  | 5 => rf5L.getD k 0
  | _ => o + 1
def rfa (k o j : Nat) : Nat := if k = 9 then o + 2 + j else 41 + 2 * j
def adr (K : Cx) (i : Nat) : Nat := if i < 62 then kad K i else if i < 120 then kK K (i - 100) else if i < 140 then kV K (i - 120) else kF K
def vmp (K : Cx) (v : Value) : Value := match v with
  | .ref i => .ref (adr K i)
  | w => w
def VL (m : TM) (o k : Nat) : Value := if fk (kd o) k = 0 then .int (m.1 (ol (kd o) o k).1 (ol (kd o) o k).2) else if fk (kd o) k = 1 then .long m.2 else .ref (rfc (kd o) k o)
def cellOf (K : Cx) (m : TM) (o : Nat) : va_E :=
  if kd o < 6 then .inr (kd o, (List.range (ln o)).map (fun k => vmp K (VL m o k)))
  else if kd o < 9 then .inl (kcA K (kd o), ln o, .inl (fun j => if j < ln o then m.1 (al o).1 ((al o).2 + j) else 0))
  else .inl (kcA K (kd o), ln o, .inr (.inr (.inr (.inr (fun j => if j < ln o then some (kad K (rfa (kd o) o j)) else none)))))
def wsOf (K : Cx) (m : TM) : va_W := (List.range 62).map (fun o => (kad K o, cellOf K m o))
def tysOf (K : Cx) : List (ClassId × FieldType) := [(kcA K 6, .byte), (kcA K 7, .char), (kcA K 8, .int), (kcA K 9, .object RX1), (kcA K 10, .object RX2)]
def isI (o k : Nat) : Bool := (decide (kd o < 6) && decide (fk (kd o) k = 0)) || (decide (6 ≤ kd o) && decide (kd o < 9))
def lc (o k : Nat) : Nat × Nat := if kd o < 6 then ol (kd o) o k else ((al o).1, (al o).2 + k)
def ilc (q : Nat × Nat) : Nat × Nat :=
  if q.1 = 1 ∨ q.1 = 13 ∨ q.1 = 25 then
    (if q.2 < 6 then (q.1, [4, 6, 5, 3, 1, 2].getD q.2 0) else if q.2 < 12 then (q.1 + 1, q.2 - 6) else if q.2 < 68 then (q.1 + 4 + (q.2 - 12) / 7, (q.2 - 12) % 7) else (q.1 + 3, q.2 - 68))
  else if q.1 = 41 then (41 + 2 * q.2, 0) else if q.1 = 42 then (41 + 2 * q.2, 1) else if q.1 = 43 then (42 + 2 * (q.2 / 40), q.2 % 40) else if q.1 = 0 then (0, q.2) else (q.1, q.2)
set_option maxRecDepth 100000 in
theorem ilc_lc : ∀ o, o < 62 → ∀ k, k < ln o → isI o k = true → ilc (lc o k) = (o, k) := by decide +kernel
theorem lc_inj {o k o' k' : Nat} (ho : o < 62) (hk : k < ln o) (hi : isI o k = true) (ho' : o' < 62) (hk' : k' < ln o') (hi' : isI o' k' = true) (h : lc o' k' = lc o k) : o' = o ∧ k' = k := by
  have e := ilc_lc o' ho' k' hk' hi'
  rw [h, ilc_lc o ho k hk hi] at e
  exact ⟨(Prod.mk.inj e).1.symm, (Prod.mk.inj e).2.symm⟩
def st1 (m : TM) (r i : Nat) (x : Int32) : TM := (fun a b => if a = r ∧ b = i then x else m.1 a b, m.2)
def st2 (m : TM) (x : Int64) : TM := (m.1, x)
/-- a whole row set -/
def sr (m : TM) (r : Nat) (f : Nat → Int32) : TM := (fun a b => if a = r then f b else m.1 a b, m.2)
def rdI (m : TM) (o k : Nat) : Int32 := m.1 (lc o k).1 (lc o k).2
theorem rd_st {m : TM} {o k : Nat} {x : Int32} (ho : o < 62) (hk : k < ln o) (hi : isI o k = true) {o' k' : Nat} (ho' : o' < 62) (hk' : k' < ln o') (hi' : isI o' k' = true) :
    rdI (st1 m (lc o k).1 (lc o k).2 x) o' k' = if o' = o ∧ k' = k then x else rdI m o' k' := by
  unfold rdI st1
  by_cases h : o' = o ∧ k' = k
  · obtain ⟨rfl, rfl⟩ := h
    simp
  · have : ¬ ((lc o' k').1 = (lc o k).1 ∧ (lc o' k').2 = (lc o k).2) := fun q => h (lc_inj ho hk hi ho' hk' hi' (Prod.ext q.1 q.2))
    simp [h, this]
theorem VL_int {m : TM} {o k : Nat} (h6 : kd o < 6) (h : fk (kd o) k = 0) : VL m o k = .int (rdI m o k) := by simp [VL, rdI, lc, h, h6]
theorem cell_obj {K : Cx} {m : TM} {o : Nat} (h : kd o < 6) : cellOf K m o = .inr (kd o, (List.range (ln o)).map (fun k => vmp K (VL m o k))) := by simp [cellOf, h]
theorem cell_arr {K : Cx} {m : TM} {o : Nat} (h : ¬ kd o < 6) (h9 : kd o < 9) : cellOf K m o = .inl (kcA K (kd o), ln o, .inl (fun j => if j < ln o then rdI m o j else 0)) := by simp [cellOf, h, h9, rdI, lc]
theorem cell_rarr {K : Cx} {m : TM} {o : Nat} (h9 : ¬ kd o < 9) : cellOf K m o = .inl (kcA K (kd o), ln o, .inr (.inr (.inr (.inr (fun j => if j < ln o then some (kad K (rfa (kd o) o j)) else none))))) := by
  have h : ¬ kd o < 6 := by omega
  simp [cellOf, h, h9]
theorem ws_get {K : Cx} {m : TM} {o : Nat} (h : o < 62) : (wsOf K m)[o]? = some (kad K o, cellOf K m o) := by simp [wsOf, h]
theorem ws_set {K : Cx} {m m' : TM} {o : Nat} {e : va_E} (h : o < 62) (he : cellOf K m' o = e) (hr : ∀ o', o' < 62 → o' ≠ o → cellOf K m o' = cellOf K m' o') : (wsOf K m).set o (kad K o, e) = wsOf K m' := by
  apply List.ext_getElem?
  intro i
  by_cases hi : i = o
  · subst hi
    rw [List.getElem?_set_self (by simp [wsOf, h]), ws_get h, he]
  · rw [List.getElem?_set_ne (Ne.symm hi)]
    by_cases h2 : i < 62
    · rw [ws_get h2, ws_get h2, hr i h2 hi]
    · have h3 : ∀ n : TM, (wsOf K n)[i]? = none := fun n => by simp [wsOf]; omega
      rw [h3, h3]
theorem ln_obj : ∀ o, o < 62 → kd o < 6 → ln o = NN (kd o) := by decide +kernel
theorem kd_lt : ∀ o, o < 62 → kd o < 11 := by decide +kernel
/-- a write of an int cell leaves every other cell as it was -/
theorem cell_st {K : Cx} {m : TM} {o k : Nat} {x : Int32} (ho : o < 62) (hk : k < ln o) (hi : isI o k = true) : ∀ o', o' < 62 → o' ≠ o → cellOf K m o' = cellOf K (st1 m (lc o k).1 (lc o k).2 x) o' := by
  intro o' ho' hne
  by_cases h6 : kd o' < 6
  · rw [cell_obj h6, cell_obj h6]
    refine congrArg (fun z => Sum.inr (kd o', z)) (List.map_congr_left fun j hj => congrArg (vmp K) ?_)
    have hj' : j < ln o' := List.mem_range.mp hj
    by_cases hf : fk (kd o') j = 0
    · rw [VL_int h6 hf, VL_int h6 hf, rd_st ho hk hi ho' hj' (by simp [isI, h6, hf]), if_neg (fun q => hne q.1)]
    · simp [VL, hf, st1]
  · by_cases h9 : kd o' < 9
    · rw [cell_arr h6 h9, cell_arr h6 h9]
      refine congrArg (fun z => Sum.inl (kcA K (kd o'), ln o', Sum.inl z)) (funext fun j => ?_)
      by_cases hj : j < ln o'
      · rw [if_pos hj, if_pos hj, rd_st ho hk hi ho' hj (by simp [isI, h6, h9]; omega), if_neg (fun q => hne q.1)]
      · rw [if_neg hj, if_neg hj]
    · rw [cell_rarr h9, cell_rarr h9]
theorem ws_put {K : Cx} {m : TM} {o k : Nat} {x : Int32} (ho : o < 62) (hk : k < ln o) (h6 : kd o < 6) (hf : fk (kd o) k = 0) :
    (wsOf K m).set o (kad K o, .inr (kd o, ((List.range (ln o)).map (fun k => vmp K (VL m o k))).set k (.int x))) = wsOf K (st1 m (lc o k).1 (lc o k).2 x) := by
  have hi : isI o k = true := by simp [isI, h6, hf]
  refine ws_set ho ?_ (cell_st ho hk hi)
  rw [cell_obj h6]
  refine congrArg (fun z => Sum.inr (kd o, z)) (List.ext_getElem? fun j => ?_)
  by_cases hj : j < ln o
  · by_cases hjk : j = k
    · subst hjk
      rw [List.getElem?_set_self (by simp [hj]), List.getElem?_map, List.getElem?_range hj, Option.map_some, VL_int h6 hf, rd_st ho hk hi ho hj hi, if_pos ⟨rfl, rfl⟩]
      rfl
    · rw [List.getElem?_set_ne (Ne.symm hjk), List.getElem?_map, List.getElem?_map, List.getElem?_range hj, Option.map_some, Option.map_some]
      refine congrArg (fun z => some (vmp K z)) ?_
      by_cases hg : fk (kd o) j = 0
      · rw [VL_int h6 hg, VL_int h6 hg, rd_st ho hk hi ho hj (by simp [isI, h6, hg]), if_neg (fun q => hjk q.2)]
      · simp [VL, hg, st1]
  · rw [List.getElem?_eq_none (by simp; omega), List.getElem?_eq_none (by simp; omega)]
theorem ws_ast {K : Cx} {m : TM} {o k : Nat} {x : Int32} (ho : o < 62) (hk : k < ln o) (h6 : ¬ kd o < 6) (h9 : kd o < 9) :
    (wsOf K m).set o (kad K o, .inl (kcA K (kd o), ln o, .inl (upd (fun j => if j < ln o then rdI m o j else 0) k x))) = wsOf K (st1 m (lc o k).1 (lc o k).2 x) := by
  have hi : isI o k = true := by simp [isI, h6, h9]; omega
  refine ws_set ho ?_ (cell_st ho hk hi)
  rw [cell_arr h6 h9]
  refine congrArg (fun z => Sum.inl (kcA K (kd o), ln o, Sum.inl z)) (funext fun j => ?_)
  unfold upd
  by_cases hjk : j = k
  · subst hjk
    rw [if_pos hk, if_pos rfl, rd_st ho hk hi ho hk hi, if_pos ⟨rfl, rfl⟩]
  · rw [if_neg hjk]
    dsimp only
    by_cases hj : j < ln o
    · rw [if_pos hj, if_pos hj, rd_st ho hk hi ho hj (by simp [isI, h6, h9]; omega), if_neg (fun q => hjk q.2)]
    · rw [if_neg hj, if_neg hj]
theorem ws_putL {K : Cx} {m : TM} {x : Int64} : (wsOf K m).set 49 (kad K 49, .inr (5, ((List.range 18).map (fun k => vmp K (VL m 49 k))).set 10 (.long x))) = wsOf K (st2 m x) := by
  refine ws_set (by decide) ?_ ?_
  · rw [cell_obj (by decide)]
    refine congrArg (fun z => Sum.inr (5, z)) (List.ext_getElem? fun j => ?_)
    by_cases hj : j < 18
    · by_cases hjk : j = 10
      · subst hjk
        rfl
      · rw [List.getElem?_set_ne (Ne.symm hjk)]
        show ((List.range 18).map _)[j]? = ((List.range 18).map _)[j]?
        rw [List.getElem?_map, List.getElem?_map, List.getElem?_range hj, Option.map_some, Option.map_some]
        have hg : ¬ fk (kd 49) j = 1 := by
          have : ∀ j, j < 18 → ¬ j = 10 → ¬ fk (kd 49) j = 1 := by decide
          exact this j hj hjk
        by_cases h0 : fk (kd 49) j = 0 <;> simp [VL, hg, h0, st2]
    · rw [List.getElem?_eq_none (by simp [ln, lnL]; omega), List.getElem?_eq_none (by simp; omega)]
  · intro o' ho' hne
    by_cases h6 : kd o' < 6
    · rw [cell_obj h6, cell_obj h6]
      refine congrArg (fun z => Sum.inr (kd o', z)) (List.map_congr_left fun j hj => congrArg (vmp K) ?_)
      have hj' : j < ln o' := List.mem_range.mp hj
      have key : ∀ o, o < 62 → o ≠ 49 → kd o < 6 → ∀ j, j < ln o → ¬ fk (kd o) j = 1 := by decide +kernel
      have hg := key o' ho' hne h6 j hj'
      by_cases h0 : fk (kd o') j = 0 <;> simp [VL, hg, h0, st2]
    · by_cases h9 : kd o' < 9
      · rw [cell_arr h6 h9, cell_arr h6 h9]
        rfl
      · rw [cell_rarr h9, cell_rarr h9]
/-! strings and statics -/
def sLen : List Nat := [4, 5, 6, 5, 5, 5, 5, 10, 6, 2, 6, 5, 4]
def sByt : List (List Int32) := [[116, 105, 100, 101], [115, 116, 111, 114, 109], [108, 101, 116, 116, 101, 114], [99, 114, 97, 116, 101], [99, 108, 111, 99, 107], [98, 114, 105, 100, 101], [115, 111, 99, 107, 115], [114, 101, 103, 105, 115, 116, 101, 114, 101, 100], [112, 97, 114, 99, 101, 108], [111, 110], [119, 101, 105, 103, 104, 115], [119, 97, 105, 116, 115], [104, 101, 108, 100]]
def sIdx : List Nat := [38, 47, 103, 105, 107, 109, 111, 113, 115, 79, 85, 87, 89]
def sTxt : List String := ["tide", "storm", "letter", "crate", "clock", "bride", "socks", "registered", "parcel", "on", "weighs", "waits", "held"]
def Sk (K : Cx) (U : State) (H : Heap) : Prop := vk_S 13 sLen sByt (kK K) (kV K) (AA K) U H ∧ (∀ k, k < 13 → vk_R RX3 (sIdx.getD k 0) (sTxt.getD k "") (kK K k) U) ∧ va_Z "java/lang/String" "COMPACT_STRINGS" "Z" (.int 1) (AA K) U H ∧ (va_Z "jdk/internal/util/Preconditions" "SIOOBE_FORMATTER" "Ljava/util/function/BiFunction;" .null (AA K) U H ∨ va_Z "jdk/internal/util/Preconditions" "SIOOBE_FORMATTER" "Ljava/util/function/BiFunction;" (.ref (kF K)) (AA K) U H)
theorem Sk.warm {K : Cx} {s U : State} {H : Heap} (hW : s.WarmedH U.vm) (h : Sk K s H) : Sk K U H :=
  ⟨vk_S.moved hW.alike h.1, fun k hk => vk_R.warm hW (h.2.1 k hk), va_Z.moved hW.alike h.2.2.1, h.2.2.2.elim (fun q => Or.inl (va_Z.moved hW.alike q)) (fun q => Or.inr (va_Z.moved hW.alike q))⟩
theorem Sk.same {K : Cx} {s U : State} {H : Heap} (hv : U.vm = s.vm) (h : Sk K s H) : Sk K U H :=
  ⟨vk_S.moved (by rw [hv]; exact Vm.Alike.refl _) h.1, fun k hk => vk_R.same hv (h.2.1 k hk), va_Z.moved (by rw [hv]; exact Vm.Alike.refl _) h.2.2.1, h.2.2.2.elim (fun q => Or.inl (va_Z.moved (by rw [hv]; exact Vm.Alike.refl _) q)) (fun q => Or.inr (va_Z.moved (by rw [hv]; exact Vm.Alike.refl _) q))⟩
theorem Sk.kept {K : Cx} {s : State} {H H1 : Heap} (h : Sk K s H) (hq : ∀ a : Nat, a < H.size → ¬ AA K a → H1[a]? = H[a]?) : Sk K s H1 :=
  ⟨h.1.kept hq, h.2.1, h.2.2.1.kept hq, h.2.2.2.elim (fun q => Or.inl (q.kept hq)) (fun q => Or.inr (q.kept hq))⟩
/-- what holds of the world at a method's entry -/
def Wd (K : Cx) (m : TM) (U : State) : Prop := va_P (kD K) vwCl (wsOf K m) U.heap ∧ va_D (AA K) (wsOf K m) ∧ va_K (kD K) vwCl (tysOf K) U ∧ Sk K U U.heap
def QQ (K : Cx) (Q : Option Value → TM → Prop) : Array Value → State → Outcome → State → Prop := fun _ st o t => (∃ (r : Option Value) (m' : TM), o = .returned (r.map (vmp K)) ∧ Q r m' ∧ va_P (kD K) vwCl (wsOf K m') t.heap ∧ va_D (AA K) (wsOf K m')) ∧ va_F (AA K) st t
/-- a method's contract -/
def CQ (y : MethodName) (cc : ByteArray) (mL : Nat) (rt : Option FieldType) (fr lo : Nat) (K : Cx) (as : List Value) (m : TM) (Q : Option Value → TM → Prop) : Prop :=
  Met (kL K) y (Cond.code y cc mL rt :: WT) ({ frames := fr, cells := 0, slots := 0, locals := lo }) (va_Pc (as.map (vmp K)) (fun U => Wd K m U)) (QQ K Q) 0 0 (AA K)
/-- deterministic: the answer, and the memory behind it -/
def CT (y : MethodName) (cc : ByteArray) (mL : Nat) (rt : Option FieldType) (fr lo : Nat) (K : Cx) (as : List Value) (m : TM) (r : Option Value) (m' : TM) : Prop := CQ y cc mL rt fr lo K as m (fun r1 m1 => r1 = r ∧ m1 = m')
def XC (own : String) (cc : ByteArray) (mL : Nat) (rt : Option FieldType) (K : Cx) (p : Program) (s : State) (mi : MethodId) (args : Array Value) (meth : Method) (c : Code) : Prop :=
  p.tables.exec = Jvm.exec ∧ c.code = cc ∧ meth.sig.returnType = rt ∧ c.maxLocals = mL ∧ s.vm.findClass own = some mi.cls ∧ (∀ w ∈ WT, w.before args s = true) ∧ meth.locks = false ∧ va_K (kD K) vwCl (tysOf K) s ∧ Sk K s s.heap
def lvOf (K : Cx) (ls : List (Option Value)) : List (Nat × Value) := (List.range ls.length).filterMap (fun i => match ls[i]? with
  | some (some v) => some (i, vmp K v)
  | _ => none)
theorem lvOf_mem {K : Cx} {ls : List (Option Value)} {q : Nat × Value} : q ∈ lvOf K ls ↔ ∃ v, ls[q.1]? = some (some v) ∧ q.2 = vmp K v := by
  unfold lvOf
  rw [List.mem_filterMap]
  constructor
  · rintro ⟨i, hi, h⟩
    cases hl : ls[i]? with
    | none => rw [hl] at h; cases h
    | some w =>
      cases w with
      | none => rw [hl] at h; cases h
      | some v =>
        rw [hl] at h
        cases h
        exact ⟨v, hl, rfl⟩
  · rintro ⟨v, hv, h2⟩
    refine ⟨q.1, List.mem_range.mpr (List.getElem?_eq_some_iff.mp hv).1, ?_⟩
    rw [hv]
    show some (q.1, vmp K v) = some q
    rw [← h2]
def LR (K : Cx) (mL : Nat) (ls : List (Option Value)) (arr : Array Slot) : Prop := lv_has arr mL (lvOf K ls)
theorem LR.get {K : Cx} {mL : Nat} {ls : List (Option Value)} {arr : Array Slot} (h : LR K mL ls arr) {i : Nat} {v : Value} (hv : ls[i]? = some (some v)) : arr[i]? = some (.val (vmp K v)) := h.2.2 (i, vmp K v) (lvOf_mem.mpr ⟨v, hv, rfl⟩)
theorem lv_mono {arr : Array Slot} {n : Nat} {l l' : List (Nat × Value)} (h : lv_has arr n l) (hs : ∀ q ∈ l', q ∈ l) : lv_has arr n l' := ⟨h.1, h.2.1, fun q hq => h.2.2 q (hs q hq)⟩
theorem vmp_cat (K : Cx) (v : Value) : (vmp K v).category = v.category := by cases v <;> rfl
/-- a store to local i keeps what stands before it -/
def stok (ls : List (Option Value)) (i : Nat) : Bool := match i with
  | 0 => true
  | j + 1 => match ls[j]? with
    | some (some w) => w.category == 1
    | _ => true
theorem LR.store {K : Cx} {mL : Nat} {ls : List (Option Value)} {arr : Array Slot} {i : Nat} {v : Value} (hok : stok ls i = true)
    (h : lv_has arr mL ((i, vmp K v) :: (lvOf K ls).filter (fun q => !(q.1 == i) && !(q.1 + 1 == i && q.2.category == 2)))) : LR K mL (ls.set i (some v)) arr := by
  refine lv_mono h fun q hq => ?_
  obtain ⟨w, hw, he⟩ := lvOf_mem.mp hq
  by_cases hqi : q.1 = i
  · rw [hqi] at hw
    have hlt : i < (ls.set i (some v)).length := (List.getElem?_eq_some_iff.mp hw).1
    rw [List.getElem?_set_self (by simpa using hlt)] at hw
    cases hw
    rw [List.mem_cons]
    left
    exact Prod.ext hqi he
  · rw [List.getElem?_set_ne (Ne.symm hqi)] at hw
    refine List.mem_cons_of_mem _ (List.mem_filter.mpr ⟨lvOf_mem.mpr ⟨w, hw, he⟩, ?_⟩)
    have h1 : (q.1 == i) = false := by simp [hqi]
    rw [h1, he, vmp_cat]
    by_cases h2 : q.1 + 1 = i
    · subst h2
      change (match ls[q.1]? with
        | some (some w) => w.category == 1
        | _ => true) = true at hok
      rw [hw] at hok
      have hc : w.category = 1 := by simpa using hok
      simp [hc]
    · simp [h2]
theorem LR.store2 {K : Cx} {mL : Nat} {ls : List (Option Value)} {arr : Array Slot} {i : Nat} {v : Value} (hok : stok ls i = true)
    (h : lv_has arr mL ((i, vmp K v) :: (lvOf K ls).filter (fun q => !(q.1 == i) && (!(q.1 == i + 1) && !(q.1 + 1 == i && q.2.category == 2))))) : LR K mL ((ls.set i (some v)).set (i + 1) none) arr := by
  refine lv_mono h fun q hq => ?_
  obtain ⟨w, hw, he⟩ := lvOf_mem.mp hq
  have hq1 : q.1 ≠ i + 1 := by
    intro e
    rw [e] at hw
    have hlt : i + 1 < ((ls.set i (some v)).set (i + 1) none).length := (List.getElem?_eq_some_iff.mp hw).1
    rw [List.getElem?_set_self (by simpa using hlt)] at hw
    cases hw
  rw [List.getElem?_set_ne (Ne.symm hq1)] at hw
  by_cases hqi : q.1 = i
  · rw [hqi] at hw
    have hlt : i < (ls.set i (some v)).length := (List.getElem?_eq_some_iff.mp hw).1
    rw [List.getElem?_set_self (by simpa using hlt)] at hw
    cases hw
    rw [List.mem_cons]
    left
    exact Prod.ext hqi he
  · rw [List.getElem?_set_ne (Ne.symm hqi)] at hw
    refine List.mem_cons_of_mem _ (List.mem_filter.mpr ⟨lvOf_mem.mpr ⟨w, hw, he⟩, ?_⟩)
    have h1 : (q.1 == i) = false := by simp [hqi]
    have h3 : (q.1 == i + 1) = false := by simp [hq1]
    rw [h1, h3, he, vmp_cat]
    by_cases h2 : q.1 + 1 = i
    · subst h2
      change (match ls[q.1]? with
        | some (some w) => w.category == 1
        | _ => true) = true at hok
      rw [hw] at hok
      have hc : w.category = 1 := by simpa using hok
      simp [hc]
    · simp [h2]
/-- THE JUDGEMENT: from here the method comes to its end with Q -/
def XX (own : String) (cc : ByteArray) (mL : Nat) (rt : Option FieldType) (fr lo : Nat) (K : Cx) (pc : Nat) (ls : List (Option Value)) (st : List Value) (m : TM) (Q : Option Value → TM → Prop) : Prop :=
  ∀ (p : Program) (e : Env) (s : State) (mi : MethodId) (args : Array Value) (below : List Frame) (meth : Method) (c : Code) (H : Heap) (locs : List Loc) (arr : Array Slot),
    XC own cc mL rt K p s mi args meth c → va_P (kD K) vwCl (wsOf K m) H → va_D (AA K) (wsOf K m) → va_S (AA K) s.heap H locs → LR K mL ls arr →
    W p (kL K) e ({ frames := fr, cells := 0, slots := 0, locals := lo }) s mi args below meth c H locs 0 0 (MQ below (QQ K Q) args s 0 0 (AA K)) (F0 mi pc arr (st.map (vmp K)))
end
section
theorem LR.len {K : Cx} {mL : Nat} {ls : List (Option Value)} {arr : Array Slot} (h : LR K mL ls arr) : arr.size = mL := h.1
def bI (b : Bool) : Int32 := if b then 1 else 0
theorem bI_eq0 {b : Bool} : bI b = 0 ↔ b = false := by cases b <;> decide
theorem bI_ne0 {b : Bool} : ¬ bI b = 0 ↔ b = true := by cases b <;> decide
theorem bI_true : bI true = 1 := rfl
theorem bI_false : bI false = 0 := rfl
section RULES
variable {own : String} {cc : ByteArray} {mL : Nat} {rt : Option FieldType} {fr lo : Nat} {K : Cx} {pc q : Nat} {ls : List (Option Value)} {st : List Value} {m : TM} {Q : Option Value → TM → Prop}

theorem x_iconst {n : Int} {v : Int32} (hd : decode cc pc = .ok (.iconst n, 1)) (hq : pc + 1 = q) (hv : Int32.ofInt n = v) (kk : XX own cc mL rt fr lo K q ls (.int v :: st) m Q) : XX own cc mL rt fr lo K pc ls (st) m Q := by
  subst hq
  intro p e s mi args below meth c H locs arr C hP hD hS hL
  exact lv_iconst C.1 C.2.1 hd hv (kk p e s mi args below meth c H locs arr C hP hD hS hL)

theorem x_bipush {n : Int} {v : Int32} (hd : decode cc pc = .ok (.bipush n, 2)) (hq : pc + 2 = q) (hv : (Int8.ofInt n).toInt32 = v) (kk : XX own cc mL rt fr lo K q ls (.int v :: st) m Q) : XX own cc mL rt fr lo K pc ls (st) m Q := by
  subst hq
  intro p e s mi args below meth c H locs arr C hP hD hS hL
  exact lv_bipush C.1 C.2.1 hd hv (kk p e s mi args below meth c H locs arr C hP hD hS hL)

theorem x_sipush {n : Int} {v : Int32} (hd : decode cc pc = .ok (.sipush n, 3)) (hq : pc + 3 = q) (hv : (Int16.ofInt n).toInt32 = v) (kk : XX own cc mL rt fr lo K q ls (.int v :: st) m Q) : XX own cc mL rt fr lo K pc ls (st) m Q := by
  subst hq
  intro p e s mi args below meth c H locs arr C hP hD hS hL
  exact lv_sipush C.1 C.2.1 hd hv (kk p e s mi args below meth c H locs arr C hP hD hS hL)

theorem x_lconst {n : Fin 2} {v : Int64} (hd : decode cc pc = .ok (.lconst n, 1)) (hq : pc + 1 = q) (hv : Int64.ofNat (n : Nat) = v) (kk : XX own cc mL rt fr lo K q ls (.long v :: st) m Q) : XX own cc mL rt fr lo K pc ls (st) m Q := by
  subst hq
  intro p e s mi args below meth c H locs arr C hP hD hS hL
  exact lv_lconst C.1 C.2.1 hd hv (kk p e s mi args below meth c H locs arr C hP hD hS hL)

theorem x_iload_n {k : Fin 4} {x : Int32} (hd : decode cc pc = .ok (.iload_n k, 1)) (hq : pc + 1 = q) (hl : ls[(k : Nat)]? = some (some (.int x))) (kk : XX own cc mL rt fr lo K q ls (.int x :: st) m Q) : XX own cc mL rt fr lo K pc ls (st) m Q := by
  subst hq
  intro p e s mi args below meth c H locs arr C hP hD hS hL
  exact lv_iload_n C.1 C.2.1 hd rfl (hL.get hl) (kk p e s mi args below meth c H locs arr C hP hD hS hL)

theorem x_iload {k : Nat} {x : Int32} (hd : decode cc pc = .ok (.iload k, 2)) (hq : pc + 2 = q) (hl : ls[k]? = some (some (.int x))) (kk : XX own cc mL rt fr lo K q ls (.int x :: st) m Q) : XX own cc mL rt fr lo K pc ls (st) m Q := by
  subst hq
  intro p e s mi args below meth c H locs arr C hP hD hS hL
  exact lv_iload C.1 C.2.1 hd (hL.get hl) (kk p e s mi args below meth c H locs arr C hP hD hS hL)

theorem x_lload {k : Nat} {x : Int64} (hd : decode cc pc = .ok (.lload k, 2)) (hq : pc + 2 = q) (hl : ls[k]? = some (some (.long x))) (kk : XX own cc mL rt fr lo K q ls (.long x :: st) m Q) : XX own cc mL rt fr lo K pc ls (st) m Q := by
  subst hq
  intro p e s mi args below meth c H locs arr C hP hD hS hL
  exact lv_lload C.1 C.2.1 hd (hL.get hl) (kk p e s mi args below meth c H locs arr C hP hD hS hL)

theorem x_lload_n {k : Fin 4} {x : Int64} (hd : decode cc pc = .ok (.lload_n k, 1)) (hq : pc + 1 = q) (hl : ls[(k : Nat)]? = some (some (.long x))) (kk : XX own cc mL rt fr lo K q ls (.long x :: st) m Q) : XX own cc mL rt fr lo K pc ls (st) m Q := by
  subst hq
  intro p e s mi args below meth c H locs arr C hP hD hS hL
  exact lv_lload_n C.1 C.2.1 hd rfl (hL.get hl) (kk p e s mi args below meth c H locs arr C hP hD hS hL)

theorem x_aload_n {k : Fin 4} {x : Nat} (hd : decode cc pc = .ok (.aload_n k, 1)) (hq : pc + 1 = q) (hl : ls[(k : Nat)]? = some (some (.ref x))) (kk : XX own cc mL rt fr lo K q ls (.ref x :: st) m Q) : XX own cc mL rt fr lo K pc ls (st) m Q := by
  subst hq
  intro p e s mi args below meth c H locs arr C hP hD hS hL
  exact lv_aload_n C.1 C.2.1 hd rfl (hL.get hl) (kk p e s mi args below meth c H locs arr C hP hD hS hL)

theorem x_aload {k : Nat} {x : Nat} (hd : decode cc pc = .ok (.aload k, 2)) (hq : pc + 2 = q) (hl : ls[k]? = some (some (.ref x))) (kk : XX own cc mL rt fr lo K q ls (.ref x :: st) m Q) : XX own cc mL rt fr lo K pc ls (st) m Q := by
  subst hq
  intro p e s mi args below meth c H locs arr C hP hD hS hL
  exact lv_aload C.1 C.2.1 hd (hL.get hl) (kk p e s mi args below meth c H locs arr C hP hD hS hL)

theorem x_aload_nN {k : Fin 4} (hd : decode cc pc = .ok (.aload_n k, 1)) (hq : pc + 1 = q) (hl : ls[(k : Nat)]? = some (some .null)) (kk : XX own cc mL rt fr lo K q ls (.null :: st) m Q) : XX own cc mL rt fr lo K pc ls (st) m Q := by
  subst hq
  intro p e s mi args below meth c H locs arr C hP hD hS hL
  exact lv_aload_nN C.1 C.2.1 hd rfl (hL.get hl) (kk p e s mi args below meth c H locs arr C hP hD hS hL)

theorem x_aloadN {k : Nat} (hd : decode cc pc = .ok (.aload k, 2)) (hq : pc + 2 = q) (hl : ls[k]? = some (some .null)) (kk : XX own cc mL rt fr lo K q ls (.null :: st) m Q) : XX own cc mL rt fr lo K pc ls (st) m Q := by
  subst hq
  intro p e s mi args below meth c H locs arr C hP hD hS hL
  exact lv_aloadN C.1 C.2.1 hd (hL.get hl) (kk p e s mi args below meth c H locs arr C hP hD hS hL)

theorem x_istore_n {k : Fin 4} {x : Int32} (hd : decode cc pc = .ok (.istore_n k, 1)) (hq : pc + 1 = q) (hn : (k : Nat) < mL) (hok : stok ls (k : Nat) = true) {ls2 : List (Option Value)} (h2 : (ls.set (k : Nat) (some (.int x))) = ls2) (kk : XX own cc mL rt fr lo K q ls2 st m Q) : XX own cc mL rt fr lo K pc ls (.int x :: st) m Q := by
  subst hq; subst h2
  intro p e s mi args below meth c H locs arr C hP hD hS hL
  exact lv_istore_n C.1 C.2.1 hd rfl  hL hn rfl (fun arr2 h2 => kk p e s mi args below meth c H locs arr2 C hP hD hS (LR.store (v := .int x) hok h2))

theorem x_istore {k : Nat} {x : Int32} (hd : decode cc pc = .ok (.istore k, 2)) (hq : pc + 2 = q) (hn : k < mL) (hok : stok ls k = true) {ls2 : List (Option Value)} (h2 : (ls.set k (some (.int x))) = ls2) (kk : XX own cc mL rt fr lo K q ls2 st m Q) : XX own cc mL rt fr lo K pc ls (.int x :: st) m Q := by
  subst hq; subst h2
  intro p e s mi args below meth c H locs arr C hP hD hS hL
  exact lv_istore C.1 C.2.1 hd  hL hn rfl (fun arr2 h2 => kk p e s mi args below meth c H locs arr2 C hP hD hS (LR.store (v := .int x) hok h2))

theorem x_astore_n {k : Fin 4} {x : Nat} (hd : decode cc pc = .ok (.astore_n k, 1)) (hq : pc + 1 = q) (hn : (k : Nat) < mL) (hok : stok ls (k : Nat) = true) {ls2 : List (Option Value)} (h2 : (ls.set (k : Nat) (some (.ref x))) = ls2) (kk : XX own cc mL rt fr lo K q ls2 st m Q) : XX own cc mL rt fr lo K pc ls (.ref x :: st) m Q := by
  subst hq; subst h2
  intro p e s mi args below meth c H locs arr C hP hD hS hL
  exact lv_astore_n C.1 C.2.1 hd rfl  hL hn rfl (fun arr2 h2 => kk p e s mi args below meth c H locs arr2 C hP hD hS (LR.store (v := .ref x) hok h2))

theorem x_astore {k : Nat} {x : Nat} (hd : decode cc pc = .ok (.astore k, 2)) (hq : pc + 2 = q) (hn : k < mL) (hok : stok ls k = true) {ls2 : List (Option Value)} (h2 : (ls.set k (some (.ref x))) = ls2) (kk : XX own cc mL rt fr lo K q ls2 st m Q) : XX own cc mL rt fr lo K pc ls (.ref x :: st) m Q := by
  subst hq; subst h2
  intro p e s mi args below meth c H locs arr C hP hD hS hL
  exact lv_astore C.1 C.2.1 hd  hL hn rfl (fun arr2 h2 => kk p e s mi args below meth c H locs arr2 C hP hD hS (LR.store (v := .ref x) hok h2))

theorem x_astore_nN {k : Fin 4} (hd : decode cc pc = .ok (.astore_n k, 1)) (hq : pc + 1 = q) (hn : (k : Nat) < mL) (hok : stok ls (k : Nat) = true) {ls2 : List (Option Value)} (h2 : (ls.set (k : Nat) (some (.null))) = ls2) (kk : XX own cc mL rt fr lo K q ls2 st m Q) : XX own cc mL rt fr lo K pc ls (.null :: st) m Q := by
  subst hq; subst h2
  intro p e s mi args below meth c H locs arr C hP hD hS hL
  exact lv_astore_nN C.1 C.2.1 hd rfl  hL hn rfl (fun arr2 h2 => kk p e s mi args below meth c H locs arr2 C hP hD hS (LR.store (v := .null) hok h2))

theorem x_astoreN {k : Nat} (hd : decode cc pc = .ok (.astore k, 2)) (hq : pc + 2 = q) (hn : k < mL) (hok : stok ls k = true) {ls2 : List (Option Value)} (h2 : (ls.set k (some (.null))) = ls2) (kk : XX own cc mL rt fr lo K q ls2 st m Q) : XX own cc mL rt fr lo K pc ls (.null :: st) m Q := by
  subst hq; subst h2
  intro p e s mi args below meth c H locs arr C hP hD hS hL
  exact lv_astoreN C.1 C.2.1 hd  hL hn rfl (fun arr2 h2 => kk p e s mi args below meth c H locs arr2 C hP hD hS (LR.store (v := .null) hok h2))

theorem x_lstore {k : Nat} {x : Int64} (hd : decode cc pc = .ok (.lstore k, 2)) (hq : pc + 2 = q) (hn : k + 1 < mL) (hok : stok ls k = true) {ls2 : List (Option Value)} (h2 : ((ls.set k (some (.long x))).set (k + 1) none) = ls2) (kk : XX own cc mL rt fr lo K q ls2 st m Q) : XX own cc mL rt fr lo K pc ls (.long x :: st) m Q := by
  subst hq; subst h2
  intro p e s mi args below meth c H locs arr C hP hD hS hL
  exact lv_lstore C.1 C.2.1 hd  hL hn rfl (fun arr2 h2 => kk p e s mi args below meth c H locs arr2 C hP hD hS (LR.store2 (v := .long x) hok h2))

theorem x_lstore_n {k : Fin 4} {x : Int64} (hd : decode cc pc = .ok (.lstore_n k, 1)) (hq : pc + 1 = q) (hn : (k : Nat) + 1 < mL) (hok : stok ls (k : Nat) = true) {ls2 : List (Option Value)} (h2 : ((ls.set (k : Nat) (some (.long x))).set ((k : Nat) + 1) none) = ls2) (kk : XX own cc mL rt fr lo K q ls2 st m Q) : XX own cc mL rt fr lo K pc ls (.long x :: st) m Q := by
  subst hq; subst h2
  intro p e s mi args below meth c H locs arr C hP hD hS hL
  exact lv_lstore_n C.1 C.2.1 hd rfl  hL hn rfl (fun arr2 h2 => kk p e s mi args below meth c H locs arr2 C hP hD hS (LR.store2 (v := .long x) hok h2))

theorem x_iinc {k : Nat} {n : Int} {x v : Int32} (hd : decode cc pc = .ok (.iinc k n, 3)) (hq : pc + 3 = q) (hl : ls[k]? = some (some (.int x))) (hv : x + Int32.ofInt n = v) (hn : k < mL) (hok : stok ls k = true) {ls2 : List (Option Value)} (h2 : ls.set k (some (.int v)) = ls2) (kk : XX own cc mL rt fr lo K q ls2 st m Q) : XX own cc mL rt fr lo K pc ls st m Q := by
  subst hq; subst h2
  intro p e s mi args below meth c H locs arr C hP hD hS hL
  obtain ⟨j, hj⟩ := List.getElem?_of_mem (lvOf_mem (K := K) (q := (k, .int x)) (ls := ls) |>.mpr ⟨.int x, hl, rfl⟩)
  exact lv_iinc C.1 C.2.1 hd hL hj hv hn rfl (fun arr2 h2 => kk p e s mi args below meth c H locs arr2 C hP hD hS (LR.store (v := .int v) hok h2))

theorem x_iadd {x y : Int32} (hd : decode cc pc = .ok (.iadd, 1)) (hq : pc + 1 = q)  (kk : XX own cc mL rt fr lo K q ls (.int (x + y) :: st) m Q) : XX own cc mL rt fr lo K pc ls (.int y :: .int x :: st) m Q := by
  subst hq
  intro p e s mi args below meth c H locs arr C hP hD hS hL
  exact lv_iadd C.1 C.2.1 hd (kk p e s mi args below meth c H locs arr C hP hD hS hL)

theorem x_isub {x y : Int32} (hd : decode cc pc = .ok (.isub, 1)) (hq : pc + 1 = q)  (kk : XX own cc mL rt fr lo K q ls (.int (x - y) :: st) m Q) : XX own cc mL rt fr lo K pc ls (.int y :: .int x :: st) m Q := by
  subst hq
  intro p e s mi args below meth c H locs arr C hP hD hS hL
  exact lv_isub C.1 C.2.1 hd (kk p e s mi args below meth c H locs arr C hP hD hS hL)

theorem x_imul {x y : Int32} (hd : decode cc pc = .ok (.imul, 1)) (hq : pc + 1 = q)  (kk : XX own cc mL rt fr lo K q ls (.int (x * y) :: st) m Q) : XX own cc mL rt fr lo K pc ls (.int y :: .int x :: st) m Q := by
  subst hq
  intro p e s mi args below meth c H locs arr C hP hD hS hL
  exact lv_imul C.1 C.2.1 hd (kk p e s mi args below meth c H locs arr C hP hD hS hL)

theorem x_iand {x y : Int32} (hd : decode cc pc = .ok (.iand, 1)) (hq : pc + 1 = q)  (kk : XX own cc mL rt fr lo K q ls (.int (x &&& y) :: st) m Q) : XX own cc mL rt fr lo K pc ls (.int y :: .int x :: st) m Q := by
  subst hq
  intro p e s mi args below meth c H locs arr C hP hD hS hL
  exact lv_iand C.1 C.2.1 hd (kk p e s mi args below meth c H locs arr C hP hD hS hL)

theorem x_ior {x y : Int32} (hd : decode cc pc = .ok (.ior, 1)) (hq : pc + 1 = q)  (kk : XX own cc mL rt fr lo K q ls (.int (x ||| y) :: st) m Q) : XX own cc mL rt fr lo K pc ls (.int y :: .int x :: st) m Q := by
  subst hq
  intro p e s mi args below meth c H locs arr C hP hD hS hL
  exact lv_ior C.1 C.2.1 hd (kk p e s mi args below meth c H locs arr C hP hD hS hL)

theorem x_ixor {x y : Int32} (hd : decode cc pc = .ok (.ixor, 1)) (hq : pc + 1 = q)  (kk : XX own cc mL rt fr lo K q ls (.int (x ^^^ y) :: st) m Q) : XX own cc mL rt fr lo K pc ls (.int y :: .int x :: st) m Q := by
  subst hq
  intro p e s mi args below meth c H locs arr C hP hD hS hL
  exact lv_ixor C.1 C.2.1 hd (kk p e s mi args below meth c H locs arr C hP hD hS hL)

theorem x_ishl {x y : Int32} (hd : decode cc pc = .ok (.ishl, 1)) (hq : pc + 1 = q)  (kk : XX own cc mL rt fr lo K q ls (.int (x <<< (y &&& 31)) :: st) m Q) : XX own cc mL rt fr lo K pc ls (.int y :: .int x :: st) m Q := by
  subst hq
  intro p e s mi args below meth c H locs arr C hP hD hS hL
  exact lv_ishl C.1 C.2.1 hd (kk p e s mi args below meth c H locs arr C hP hD hS hL)

theorem x_ishr {x y : Int32} (hd : decode cc pc = .ok (.ishr, 1)) (hq : pc + 1 = q)  (kk : XX own cc mL rt fr lo K q ls (.int (x >>> (y &&& 31)) :: st) m Q) : XX own cc mL rt fr lo K pc ls (.int y :: .int x :: st) m Q := by
  subst hq
  intro p e s mi args below meth c H locs arr C hP hD hS hL
  exact lv_ishr C.1 C.2.1 hd (kk p e s mi args below meth c H locs arr C hP hD hS hL)

theorem x_idiv {x y : Int32} (hd : decode cc pc = .ok (.idiv, 1)) (hq : pc + 1 = q) (hne : ¬ y = 0) (kk : XX own cc mL rt fr lo K q ls (.int (x / y) :: st) m Q) : XX own cc mL rt fr lo K pc ls (.int y :: .int x :: st) m Q := by
  subst hq
  intro p e s mi args below meth c H locs arr C hP hD hS hL
  exact lv_idiv C.1 C.2.1 hd hne (kk p e s mi args below meth c H locs arr C hP hD hS hL)

theorem x_irem {x y : Int32} (hd : decode cc pc = .ok (.irem, 1)) (hq : pc + 1 = q) (hne : ¬ y = 0) (kk : XX own cc mL rt fr lo K q ls (.int (x - x / y * y) :: st) m Q) : XX own cc mL rt fr lo K pc ls (.int y :: .int x :: st) m Q := by
  subst hq
  intro p e s mi args below meth c H locs arr C hP hD hS hL
  exact lv_irem C.1 C.2.1 hd hne (kk p e s mi args below meth c H locs arr C hP hD hS hL)

theorem x_ladd {x y : Int64} (hd : decode cc pc = .ok (.ladd, 1)) (hq : pc + 1 = q)  (kk : XX own cc mL rt fr lo K q ls (.long (x + y) :: st) m Q) : XX own cc mL rt fr lo K pc ls (.long y :: .long x :: st) m Q := by
  subst hq
  intro p e s mi args below meth c H locs arr C hP hD hS hL
  exact lv_ladd C.1 C.2.1 hd (kk p e s mi args below meth c H locs arr C hP hD hS hL)

theorem x_lsub {x y : Int64} (hd : decode cc pc = .ok (.lsub, 1)) (hq : pc + 1 = q)  (kk : XX own cc mL rt fr lo K q ls (.long (x - y) :: st) m Q) : XX own cc mL rt fr lo K pc ls (.long y :: .long x :: st) m Q := by
  subst hq
  intro p e s mi args below meth c H locs arr C hP hD hS hL
  exact lv_lsub C.1 C.2.1 hd (kk p e s mi args below meth c H locs arr C hP hD hS hL)

theorem x_lmul {x y : Int64} (hd : decode cc pc = .ok (.lmul, 1)) (hq : pc + 1 = q)  (kk : XX own cc mL rt fr lo K q ls (.long (x * y) :: st) m Q) : XX own cc mL rt fr lo K pc ls (.long y :: .long x :: st) m Q := by
  subst hq
  intro p e s mi args below meth c H locs arr C hP hD hS hL
  exact lv_lmul C.1 C.2.1 hd (kk p e s mi args below meth c H locs arr C hP hD hS hL)

theorem x_ldiv {x y : Int64} (hd : decode cc pc = .ok (.ldiv, 1)) (hq : pc + 1 = q) (hne : ¬ y = 0) (kk : XX own cc mL rt fr lo K q ls (.long (x / y) :: st) m Q) : XX own cc mL rt fr lo K pc ls (.long y :: .long x :: st) m Q := by
  subst hq
  intro p e s mi args below meth c H locs arr C hP hD hS hL
  exact lv_ldiv C.1 C.2.1 hd hne (kk p e s mi args below meth c H locs arr C hP hD hS hL)

theorem x_lrem {x y : Int64} (hd : decode cc pc = .ok (.lrem, 1)) (hq : pc + 1 = q) (hne : ¬ y = 0) (kk : XX own cc mL rt fr lo K q ls (.long (x - x / y * y) :: st) m Q) : XX own cc mL rt fr lo K pc ls (.long y :: .long x :: st) m Q := by
  subst hq
  intro p e s mi args below meth c H locs arr C hP hD hS hL
  exact lv_lrem C.1 C.2.1 hd hne (kk p e s mi args below meth c H locs arr C hP hD hS hL)

theorem x_iushr {x y : Int32} (hd : decode cc pc = .ok (.iushr, 1)) (hq : pc + 1 = q)  (kk : XX own cc mL rt fr lo K q ls (.int ((x.toUInt32 >>> (y.toUInt32 &&& Int32.toUInt32 31)).toInt32) :: st) m Q) : XX own cc mL rt fr lo K pc ls (.int y :: .int x :: st) m Q := by
  subst hq
  intro p e s mi args below meth c H locs arr C hP hD hS hL
  exact lv_iushr C.1 C.2.1 hd rfl (kk p e s mi args below meth c H locs arr C hP hD hS hL)

theorem x_i2l {x : Int32} (hd : decode cc pc = .ok (.i2l, 1)) (hq : pc + 1 = q)  (kk : XX own cc mL rt fr lo K q ls (.long x.toInt64 :: st) m Q) : XX own cc mL rt fr lo K pc ls (.int x :: st) m Q := by
  subst hq
  intro p e s mi args below meth c H locs arr C hP hD hS hL
  exact lv_i2l C.1 C.2.1 hd rfl (kk p e s mi args below meth c H locs arr C hP hD hS hL)

theorem x_l2i {x : Int64} (hd : decode cc pc = .ok (.l2i, 1)) (hq : pc + 1 = q)  (kk : XX own cc mL rt fr lo K q ls (.int x.toInt32 :: st) m Q) : XX own cc mL rt fr lo K pc ls (.long x :: st) m Q := by
  subst hq
  intro p e s mi args below meth c H locs arr C hP hD hS hL
  exact lv_l2i C.1 C.2.1 hd rfl (kk p e s mi args below meth c H locs arr C hP hD hS hL)

theorem x_i2b {x : Int32} (hd : decode cc pc = .ok (.i2b, 1)) (hq : pc + 1 = q)  (kk : XX own cc mL rt fr lo K q ls (.int x.toInt8.toInt32 :: st) m Q) : XX own cc mL rt fr lo K pc ls (.int x :: st) m Q := by
  subst hq
  intro p e s mi args below meth c H locs arr C hP hD hS hL
  exact lv_i2b C.1 C.2.1 hd rfl (kk p e s mi args below meth c H locs arr C hP hD hS hL)

theorem x_i2s {x : Int32} (hd : decode cc pc = .ok (.i2s, 1)) (hq : pc + 1 = q)  (kk : XX own cc mL rt fr lo K q ls (.int x.toInt16.toInt32 :: st) m Q) : XX own cc mL rt fr lo K pc ls (.int x :: st) m Q := by
  subst hq
  intro p e s mi args below meth c H locs arr C hP hD hS hL
  exact lv_i2s C.1 C.2.1 hd rfl (kk p e s mi args below meth c H locs arr C hP hD hS hL)

theorem x_i2c {x : Int32} (hd : decode cc pc = .ok (.i2c, 1)) (hq : pc + 1 = q)  (kk : XX own cc mL rt fr lo K q ls (.int (x.toUInt32 % 65536).toInt32 :: st) m Q) : XX own cc mL rt fr lo K pc ls (.int x :: st) m Q := by
  subst hq
  intro p e s mi args below meth c H locs arr C hP hD hS hL
  exact lv_i2c C.1 C.2.1 hd rfl (kk p e s mi args below meth c H locs arr C hP hD hS hL)

theorem x_lcmp {x y : Int64} (hd : decode cc pc = .ok (.lcmp, 1)) (hq : pc + 1 = q)  (kk : XX own cc mL rt fr lo K q ls (.int (lg_cmp x y) :: st) m Q) : XX own cc mL rt fr lo K pc ls (.long y :: .long x :: st) m Q := by
  subst hq
  intro p e s mi args below meth c H locs arr C hP hD hS hL
  exact W.lcmp C.1 C.2.1 hd (kk p e s mi args below meth c H locs arr C hP hD hS hL)

theorem x_dup {va : Value} (hd : decode cc pc = .ok (.dup, 1)) (hq : pc + 1 = q) (hc : va.category = 1) (kk : XX own cc mL rt fr lo K q ls (va :: va :: st) m Q) : XX own cc mL rt fr lo K pc ls (va :: st) m Q := by
  subst hq
  intro p e s mi args below meth c H locs arr C hP hD hS hL
  exact lv_dup C.1 C.2.1 hd ((vmp_cat K va).trans hc) (kk p e s mi args below meth c H locs arr C hP hD hS hL)

theorem x_pop {va : Value} (hd : decode cc pc = .ok (.pop, 1)) (hq : pc + 1 = q) (hc : va.category = 1) (kk : XX own cc mL rt fr lo K q ls (st) m Q) : XX own cc mL rt fr lo K pc ls (va :: st) m Q := by
  subst hq
  intro p e s mi args below meth c H locs arr C hP hD hS hL
  exact lv_pop C.1 C.2.1 hd ((vmp_cat K va).trans hc) (kk p e s mi args below meth c H locs arr C hP hD hS hL)

theorem x_dup2 {va vb : Value} (hd : decode cc pc = .ok (.dup2, 1)) (hq : pc + 1 = q) (hc : va.category = 1) (hc2 : vb.category = 1) (kk : XX own cc mL rt fr lo K q ls (va :: vb :: va :: vb :: st) m Q) : XX own cc mL rt fr lo K pc ls (va :: vb :: st) m Q := by
  subst hq
  intro p e s mi args below meth c H locs arr C hP hD hS hL
  exact lv_dup2_11 C.1 C.2.1 hd ((vmp_cat K va).trans hc) ((vmp_cat K vb).trans hc2) (kk p e s mi args below meth c H locs arr C hP hD hS hL)

theorem x_null  (hd : decode cc pc = .ok (.aconst_null, 1)) (hq : pc + 1 = q)  (kk : XX own cc mL rt fr lo K q ls (.null :: st) m Q) : XX own cc mL rt fr lo K pc ls (st) m Q := by
  subst hq
  intro p e s mi args below meth c H locs arr C hP hD hS hL
  exact lv_null C.1 C.2.1 hd (kk p e s mi args below meth c H locs arr C hP hD hS hL)

theorem x_ldc {i : Nat} {v : Int32} (hd : decode cc pc = .ok (.ldc i, 2)) (hq : pc + 2 = q) (hc : Cond.constant own i v ∈ WT) (kk : XX own cc mL rt fr lo K q ls (.int v :: st) m Q) : XX own cc mL rt fr lo K pc ls (st) m Q := by
  subst hq
  intro p e s mi args below meth c H locs arr C hP hD hS hL
  exact lv_ldc C.1 C.2.1 C.2.2.2.2.1 (C.2.2.2.2.2.1 _ hc) hd (kk p e s mi args below meth c H locs arr C hP hD hS hL)

theorem x_ldc_w {i : Nat} {v : Int32} (hd : decode cc pc = .ok (.ldc_w i, 3)) (hq : pc + 3 = q) (hc : Cond.constant own i v ∈ WT) (kk : XX own cc mL rt fr lo K q ls (.int v :: st) m Q) : XX own cc mL rt fr lo K pc ls (st) m Q := by
  subst hq
  intro p e s mi args below meth c H locs arr C hP hD hS hL
  exact lv_ldcw C.1 C.2.1 C.2.2.2.2.1 (C.2.2.2.2.2.1 _ hc) hd (kk p e s mi args below meth c H locs arr C hP hD hS hL)

theorem x_ldc2 {i : Nat} {v : Int64} (hd : decode cc pc = .ok (.ldc2_w i, 3)) (hq : pc + 3 = q) (hc : Cond.constantLong own i v ∈ WT) (kk : XX own cc mL rt fr lo K q ls (.long v :: st) m Q) : XX own cc mL rt fr lo K pc ls (st) m Q := by
  subst hq
  intro p e s mi args below meth c H locs arr C hP hD hS hL
  exact lv_ldc2 C.1 C.2.1 C.2.2.2.2.1 (C.2.2.2.2.2.1 _ hc) hd (kk p e s mi args below meth c H locs arr C hP hD hS hL)

theorem x_goto {off : Int} (hd : decode cc pc = .ok (.goto off, 3)) (ht : (pc : Int) + off = (q : Int)) (kk : XX own cc mL rt fr lo K q ls st m Q) : XX own cc mL rt fr lo K pc ls st m Q := by
  intro p e s mi args below meth c H locs arr C hP hD hS hL
  exact lv_goto C.1 C.2.1 hd ht (kk p e s mi args below meth c H locs arr C hP hD hS hL)
theorem x_ifnonnull {off : Int} {x : Nat} (hd : decode cc pc = .ok (.ifnonnull off, 3)) (ht : (pc : Int) + off = (q : Int)) (kk : XX own cc mL rt fr lo K q ls st m Q) : XX own cc mL rt fr lo K pc ls (.ref x :: st) m Q := by
  intro p e s mi args below meth c H locs arr C hP hD hS hL
  exact lv_ifnonnull C.1 C.2.1 hd ht (kk p e s mi args below meth c H locs arr C hP hD hS hL)
theorem x_ifnonnullN {off : Int} (hd : decode cc pc = .ok (.ifnonnull off, 3)) (hq : pc + 3 = q) (kk : XX own cc mL rt fr lo K q ls st m Q) : XX own cc mL rt fr lo K pc ls (.null :: st) m Q := by
  subst hq
  intro p e s mi args below meth c H locs arr C hP hD hS hL
  exact lv_ifnonnullN C.1 C.2.1 hd (kk p e s mi args below meth c H locs arr C hP hD hS hL)

theorem x_if_eq {x : Int32} {off : Int} {t : Nat} (hd : decode cc pc = .ok (.ifCond .eq off, 3)) (hq : pc + 3 = q) (ht : (pc : Int) + off = (t : Int)) (kt : (x = 0) → XX own cc mL rt fr lo K t ls st m Q) (kf : ¬ (x = 0) → XX own cc mL rt fr lo K q ls st m Q) : XX own cc mL rt fr lo K pc ls (.int x :: st) m Q := by
  subst hq
  intro p e s mi args below meth c H locs arr C hP hD hS hL
  exact lv_if_eq C.1 C.2.1 hd ht (fun h => ((kt h) p e s mi args below meth c H locs arr C hP hD hS hL)) (fun h => ((kf h) p e s mi args below meth c H locs arr C hP hD hS hL))

theorem x_icmp_eq {x y : Int32} {off : Int} {t : Nat} (hd : decode cc pc = .ok (.if_icmp .eq off, 3)) (hq : pc + 3 = q) (ht : (pc : Int) + off = (t : Int)) (kt : (x = y) → XX own cc mL rt fr lo K t ls st m Q) (kf : ¬ (x = y) → XX own cc mL rt fr lo K q ls st m Q) : XX own cc mL rt fr lo K pc ls (.int y :: .int x :: st) m Q := by
  subst hq
  intro p e s mi args below meth c H locs arr C hP hD hS hL
  exact lv_icmp_eq C.1 C.2.1 hd ht (fun h => ((kt h) p e s mi args below meth c H locs arr C hP hD hS hL)) (fun h => ((kf h) p e s mi args below meth c H locs arr C hP hD hS hL))

theorem x_if_ne {x : Int32} {off : Int} {t : Nat} (hd : decode cc pc = .ok (.ifCond .ne off, 3)) (hq : pc + 3 = q) (ht : (pc : Int) + off = (t : Int)) (kt : (¬ x = 0) → XX own cc mL rt fr lo K t ls st m Q) (kf : (x = 0) → XX own cc mL rt fr lo K q ls st m Q) : XX own cc mL rt fr lo K pc ls (.int x :: st) m Q := by
  subst hq
  intro p e s mi args below meth c H locs arr C hP hD hS hL
  exact lv_if_ne C.1 C.2.1 hd ht (fun h => ((kt h) p e s mi args below meth c H locs arr C hP hD hS hL)) (fun h => ((kf h) p e s mi args below meth c H locs arr C hP hD hS hL))

theorem x_icmp_ne {x y : Int32} {off : Int} {t : Nat} (hd : decode cc pc = .ok (.if_icmp .ne off, 3)) (hq : pc + 3 = q) (ht : (pc : Int) + off = (t : Int)) (kt : (¬ x = y) → XX own cc mL rt fr lo K t ls st m Q) (kf : (x = y) → XX own cc mL rt fr lo K q ls st m Q) : XX own cc mL rt fr lo K pc ls (.int y :: .int x :: st) m Q := by
  subst hq
  intro p e s mi args below meth c H locs arr C hP hD hS hL
  exact lv_icmp_ne C.1 C.2.1 hd ht (fun h => ((kt h) p e s mi args below meth c H locs arr C hP hD hS hL)) (fun h => ((kf h) p e s mi args below meth c H locs arr C hP hD hS hL))

theorem x_if_lt {x : Int32} {off : Int} {t : Nat} (hd : decode cc pc = .ok (.ifCond .lt off, 3)) (hq : pc + 3 = q) (ht : (pc : Int) + off = (t : Int)) (kt : (x < 0) → XX own cc mL rt fr lo K t ls st m Q) (kf : ¬ (x < 0) → XX own cc mL rt fr lo K q ls st m Q) : XX own cc mL rt fr lo K pc ls (.int x :: st) m Q := by
  subst hq
  intro p e s mi args below meth c H locs arr C hP hD hS hL
  exact lv_if_lt C.1 C.2.1 hd ht (fun h => ((kt h) p e s mi args below meth c H locs arr C hP hD hS hL)) (fun h => ((kf h) p e s mi args below meth c H locs arr C hP hD hS hL))

theorem x_icmp_lt {x y : Int32} {off : Int} {t : Nat} (hd : decode cc pc = .ok (.if_icmp .lt off, 3)) (hq : pc + 3 = q) (ht : (pc : Int) + off = (t : Int)) (kt : (x < y) → XX own cc mL rt fr lo K t ls st m Q) (kf : ¬ (x < y) → XX own cc mL rt fr lo K q ls st m Q) : XX own cc mL rt fr lo K pc ls (.int y :: .int x :: st) m Q := by
  subst hq
  intro p e s mi args below meth c H locs arr C hP hD hS hL
  exact lv_icmp_lt C.1 C.2.1 hd ht (fun h => ((kt h) p e s mi args below meth c H locs arr C hP hD hS hL)) (fun h => ((kf h) p e s mi args below meth c H locs arr C hP hD hS hL))

theorem x_if_ge {x : Int32} {off : Int} {t : Nat} (hd : decode cc pc = .ok (.ifCond .ge off, 3)) (hq : pc + 3 = q) (ht : (pc : Int) + off = (t : Int)) (kt : (0 ≤ x) → XX own cc mL rt fr lo K t ls st m Q) (kf : ¬ (0 ≤ x) → XX own cc mL rt fr lo K q ls st m Q) : XX own cc mL rt fr lo K pc ls (.int x :: st) m Q := by
  subst hq
  intro p e s mi args below meth c H locs arr C hP hD hS hL
  exact lv_if_ge C.1 C.2.1 hd ht (fun h => ((kt h) p e s mi args below meth c H locs arr C hP hD hS hL)) (fun h => ((kf h) p e s mi args below meth c H locs arr C hP hD hS hL))

theorem x_icmp_ge {x y : Int32} {off : Int} {t : Nat} (hd : decode cc pc = .ok (.if_icmp .ge off, 3)) (hq : pc + 3 = q) (ht : (pc : Int) + off = (t : Int)) (kt : (y ≤ x) → XX own cc mL rt fr lo K t ls st m Q) (kf : ¬ (y ≤ x) → XX own cc mL rt fr lo K q ls st m Q) : XX own cc mL rt fr lo K pc ls (.int y :: .int x :: st) m Q := by
  subst hq
  intro p e s mi args below meth c H locs arr C hP hD hS hL
  exact lv_icmp_ge C.1 C.2.1 hd ht (fun h => ((kt h) p e s mi args below meth c H locs arr C hP hD hS hL)) (fun h => ((kf h) p e s mi args below meth c H locs arr C hP hD hS hL))

theorem x_if_gt {x : Int32} {off : Int} {t : Nat} (hd : decode cc pc = .ok (.ifCond .gt off, 3)) (hq : pc + 3 = q) (ht : (pc : Int) + off = (t : Int)) (kt : (0 < x) → XX own cc mL rt fr lo K t ls st m Q) (kf : ¬ (0 < x) → XX own cc mL rt fr lo K q ls st m Q) : XX own cc mL rt fr lo K pc ls (.int x :: st) m Q := by
  subst hq
  intro p e s mi args below meth c H locs arr C hP hD hS hL
  exact lv_if_gt C.1 C.2.1 hd ht (fun h => ((kt h) p e s mi args below meth c H locs arr C hP hD hS hL)) (fun h => ((kf h) p e s mi args below meth c H locs arr C hP hD hS hL))

theorem x_icmp_gt {x y : Int32} {off : Int} {t : Nat} (hd : decode cc pc = .ok (.if_icmp .gt off, 3)) (hq : pc + 3 = q) (ht : (pc : Int) + off = (t : Int)) (kt : (y < x) → XX own cc mL rt fr lo K t ls st m Q) (kf : ¬ (y < x) → XX own cc mL rt fr lo K q ls st m Q) : XX own cc mL rt fr lo K pc ls (.int y :: .int x :: st) m Q := by
  subst hq
  intro p e s mi args below meth c H locs arr C hP hD hS hL
  exact lv_icmp_gt C.1 C.2.1 hd ht (fun h => ((kt h) p e s mi args below meth c H locs arr C hP hD hS hL)) (fun h => ((kf h) p e s mi args below meth c H locs arr C hP hD hS hL))

theorem x_if_le {x : Int32} {off : Int} {t : Nat} (hd : decode cc pc = .ok (.ifCond .le off, 3)) (hq : pc + 3 = q) (ht : (pc : Int) + off = (t : Int)) (kt : (x ≤ 0) → XX own cc mL rt fr lo K t ls st m Q) (kf : ¬ (x ≤ 0) → XX own cc mL rt fr lo K q ls st m Q) : XX own cc mL rt fr lo K pc ls (.int x :: st) m Q := by
  subst hq
  intro p e s mi args below meth c H locs arr C hP hD hS hL
  exact lv_if_le C.1 C.2.1 hd ht (fun h => ((kt h) p e s mi args below meth c H locs arr C hP hD hS hL)) (fun h => ((kf h) p e s mi args below meth c H locs arr C hP hD hS hL))

theorem x_icmp_le {x y : Int32} {off : Int} {t : Nat} (hd : decode cc pc = .ok (.if_icmp .le off, 3)) (hq : pc + 3 = q) (ht : (pc : Int) + off = (t : Int)) (kt : (x ≤ y) → XX own cc mL rt fr lo K t ls st m Q) (kf : ¬ (x ≤ y) → XX own cc mL rt fr lo K q ls st m Q) : XX own cc mL rt fr lo K pc ls (.int y :: .int x :: st) m Q := by
  subst hq
  intro p e s mi args below meth c H locs arr C hP hD hS hL
  exact lv_icmp_le C.1 C.2.1 hd ht (fun h => ((kt h) p e s mi args below meth c H locs arr C hP hD hS hL)) (fun h => ((kf h) p e s mi args below meth c H locs arr C hP hD hS hL))

/-- of a boolean -/
theorem x_ifB_eq {b : Bool} {off : Int} {t : Nat} (hd : decode cc pc = .ok (.ifCond .eq off, 3)) (hq : pc + 3 = q) (ht : (pc : Int) + off = (t : Int)) (kt : b = false → XX own cc mL rt fr lo K t ls st m Q) (kf : b = true → XX own cc mL rt fr lo K q ls st m Q) : XX own cc mL rt fr lo K pc ls (.int (bI b) :: st) m Q :=
  x_if_eq hd hq ht (fun h => kt (bI_eq0.mp h)) (fun h => kf (bI_ne0.mp h))
theorem x_ifB_ne {b : Bool} {off : Int} {t : Nat} (hd : decode cc pc = .ok (.ifCond .ne off, 3)) (hq : pc + 3 = q) (ht : (pc : Int) + off = (t : Int)) (kt : b = true → XX own cc mL rt fr lo K t ls st m Q) (kf : b = false → XX own cc mL rt fr lo K q ls st m Q) : XX own cc mL rt fr lo K pc ls (.int (bI b) :: st) m Q :=
  x_if_ne hd hq ht (fun h => kt (bI_ne0.mp h)) (fun h => kf (bI_eq0.mp h))
theorem x_tswC {x k : Int32} {dflt l hi : Int} {offs : Array Int} {len : Nat} {off : Int} (hd : decode cc pc = .ok (.tableswitch dflt l hi offs, len)) (hx : x = k) (h1 : ¬ k.toInt < l) (h2 : ¬ hi < k.toInt) (ho : offs[(k.toInt - l).toNat]? = some off) (ht : (pc : Int) + off = (q : Int)) (kk : XX own cc mL rt fr lo K q ls st m Q) : XX own cc mL rt fr lo K pc ls (.int x :: st) m Q := by
  subst hx
  intro p e s mi args below meth c H locs arr C hP hD hS hL
  exact lv_tableIn C.1 C.2.1 hd h1 h2 ho ht (kk p e s mi args below meth c H locs arr C hP hD hS hL)
theorem x_tswD {x : Int32} {dflt l hi : Int} {offs : Array Int} {len : Nat} (hd : decode cc pc = .ok (.tableswitch dflt l hi offs, len)) (hx : x.toInt < l ∨ hi < x.toInt) (ht : (pc : Int) + dflt = (q : Int)) (kk : XX own cc mL rt fr lo K q ls st m Q) : XX own cc mL rt fr lo K pc ls (.int x :: st) m Q := by
  intro p e s mi args below meth c H locs arr C hP hD hS hL
  exact lv_tableOut C.1 C.2.1 hd hx ht (kk p e s mi args below meth c H locs arr C hP hD hS hL)
theorem x_lsw {x : Int32} {dflt : Int} {ps : Array (Int × Int)} {len : Nat} {off : Int} (hd : decode cc pc = .ok (.lookupswitch dflt ps, len)) (hp : (ps.toList.zip (ps.toList.drop 1)).all (fun (a, next) => a.1 < next.1) = true) (ho : Op.lookupswitch.offset ps.toList dflt x.toInt = off) (ht : (pc : Int) + off = (q : Int)) (kk : XX own cc mL rt fr lo K q ls st m Q) : XX own cc mL rt fr lo K pc ls (.int x :: st) m Q := by
  intro p e s mi args below meth c H locs arr C hP hD hS hL
  exact lv_lookup C.1 C.2.1 hd hp ho ht (kk p e s mi args below meth c H locs arr C hP hD hS hL)

theorem xq_end {p : Program} {s : State} {mi : MethodId} {args : Array Value} {meth : Method} {c : Code} {H : Heap} {locs : List Loc} {r : Option Value} (hP : va_P (kD K) vwCl (wsOf K m) H) (hD : va_D (AA K) (wsOf K m)) (hS : va_S (AA K) s.heap H locs) (hq : Q r m) (t : State) (ht : t.heap = H) : QQ K Q args s (.returned (r.map (vmp K))) t :=
  ⟨⟨r, m, rfl, hq, by rw [ht]; exact hP, hD⟩, hS.F ht⟩
theorem x_ireturn {v : Int32} {ty : FieldType} (hd : decode cc pc = .ok (.ireturn, 1)) (hr : rt = some ty) (hn : narrow ty (.int v) = .int v) (hq : Q (some (.int v)) m) : XX own cc mL rt fr lo K pc ls [.int v] m Q := by
  intro p e s mi args below meth c H locs arr C hP hD hS hL
  exact W.zret C.1 C.2.1 (C.2.2.1.trans hr) hn (fun t ht _ => xq_end (p := p) (mi := mi) (meth := meth) (c := c) (r := some (.int v)) hP hD hS hq t ht) hS.2.2 hd C.2.2.2.2.2.2.1
theorem x_lreturn {v : Int64} (hd : decode cc pc = .ok (.lreturn, 1)) (hr : rt = some .long) (hq : Q (some (.long v)) m) : XX own cc mL rt fr lo K pc ls [.long v] m Q := by
  intro p e s mi args below meth c H locs arr C hP hD hS hL
  exact W.lret C.1 C.2.1 (C.2.2.1.trans hr) (fun t ht _ => xq_end (p := p) (mi := mi) (meth := meth) (c := c) (r := some (.long v)) hP hD hS hq t ht) hS.2.2 hd C.2.2.2.2.2.2.1
theorem x_return (hd : decode cc pc = .ok (.return_, 1)) (hr : rt = none) (hq : Q none m) : XX own cc mL rt fr lo K pc ls [] m Q := by
  intro p e s mi args below meth c H locs arr C hP hD hS hL
  exact W.vret C.1 C.2.1 (C.2.2.1.trans hr) (fun t ht _ => xq_end (p := p) (mi := mi) (meth := meth) (c := c) (r := none) hP hD hS hq t ht) hS.2.2 hd C.2.2.2.2.2.2.1
theorem x_areturn {v : Value} {C0 : String} (hd : decode cc pc = .ok (.areturn, 1)) (hr : rt = some (.object C0)) (hv : v = .null ∨ ∃ a, v = .ref a) (hq : Q (some v) m) : XX own cc mL rt fr lo K pc ls [v] m Q := by
  intro p e s mi args below meth c H locs arr C hP hD hS hL
  exact W.aret C.1 C.2.1 (C.2.2.1.trans hr) (Or.inl ⟨_, rfl⟩) (by rcases hv with rfl | ⟨a, rfl⟩; exact Or.inl rfl; exact Or.inr ⟨_, rfl⟩) (fun t ht _ => xq_end (p := p) (mi := mi) (meth := meth) (c := c) (r := some v) hP hD hS hq t ht) hS.2.2 hd C.2.2.2.2.2.2.1

end RULES
end
section
theorem iw0 : ∀ w ∈ u_ws RX0 TX0 9, w ∈ WT := by
  intro w hw
  obtain ⟨k, hk, rfl⟩ := List.mem_map.mp hw
  have hk := List.mem_range.mp hk
  have h1 : ∀ k, k < 9 → lw_tbl[[142, 144, 146, 148, 150, 152, 154, 156, 158].getD k 0]? = some (u_lay RX0 TX0 k) ∧ goodWord (u_lay RX0 TX0 k) = true := by decide +kernel
  exact mw _ (h1 k hk).1 (h1 k hk).2
theorem iw1 : ∀ w ∈ u_ws RX1 TX1 7, w ∈ WT := by
  intro w hw
  obtain ⟨k, hk, rfl⟩ := List.mem_map.mp hw
  have hk := List.mem_range.mp hk
  have h1 : ∀ k, k < 7 → lw_tbl[[106, 108, 110, 112, 114, 116, 118].getD k 0]? = some (u_lay RX1 TX1 k) ∧ goodWord (u_lay RX1 TX1 k) = true := by decide +kernel
  exact mw _ (h1 k hk).1 (h1 k hk).2
theorem iw2 : ∀ w ∈ u_ws RX2 TX2 3, w ∈ WT := by
  intro w hw
  obtain ⟨k, hk, rfl⟩ := List.mem_map.mp hw
  have hk := List.mem_range.mp hk
  have h1 : ∀ k, k < 3 → lw_tbl[[201, 203, 205].getD k 0]? = some (u_lay RX2 TX2 k) ∧ goodWord (u_lay RX2 TX2 k) = true := by decide +kernel
  exact mw _ (h1 k hk).1 (h1 k hk).2
theorem iw3 : ∀ w ∈ u_ws RX3 TX3 6, w ∈ WT := by
  intro w hw
  obtain ⟨k, hk, rfl⟩ := List.mem_map.mp hw
  have hk := List.mem_range.mp hk
  have h1 : ∀ k, k < 6 → lw_tbl[[174, 176, 178, 180, 182, 184].getD k 0]? = some (u_lay RX3 TX3 k) ∧ goodWord (u_lay RX3 TX3 k) = true := by decide +kernel
  exact mw _ (h1 k hk).1 (h1 k hk).2
theorem iw4 : ∀ w ∈ u_ws RX4 TX4 7, w ∈ WT := by
  intro w hw
  obtain ⟨k, hk, rfl⟩ := List.mem_map.mp hw
  have hk := List.mem_range.mp hk
  have h1 : ∀ k, k < 7 → lw_tbl[[215, 217, 219, 221, 223, 225, 227].getD k 0]? = some (u_lay RX4 TX4 k) ∧ goodWord (u_lay RX4 TX4 k) = true := by decide +kernel
  exact mw _ (h1 k hk).1 (h1 k hk).2
theorem iw5 : ∀ w ∈ u_ws RX5 TX5 18, w ∈ WT := by
  intro w hw
  obtain ⟨k, hk, rfl⟩ := List.mem_map.mp hw
  have hk := List.mem_range.mp hk
  have h1 : ∀ k, k < 18 → lw_tbl[[722, 724, 726, 728, 730, 732, 734, 736, 738, 740, 742, 744, 746, 748, 750, 752, 754, 756].getD k 0]? = some (u_lay RX5 TX5 k) ∧ goodWord (u_lay RX5 TX5 k) = true := by decide +kernel
  exact mw _ (h1 k hk).1 (h1 k hk).2
theorem iw : ∀ ci, ci < 6 → ∀ w ∈ u_ws (RR ci) (TT ci) (NN ci), w ∈ WT
  | 0, _ => iw0
  | 1, _ => iw1
  | 2, _ => iw2
  | 3, _ => iw3
  | 4, _ => iw4
  | 5, _ => iw5
  | n + 6, h => absurd h (by omega)
theorem ty_ok : ∀ ci, ci < 6 → ∀ k, k < NN ci → parseFieldDescriptor (TT ci k).2.2.1 = some (tyT ci k)
  | 0, _ => tyX0_ok
  | 1, _ => tyX1_ok
  | 2, _ => tyX2_ok
  | 3, _ => tyX3_ok
  | 4, _ => tyX4_ok
  | 5, _ => tyX5_ok
  | n + 6, h => absurd h (by omega)
theorem nm_ok : ∀ ci, ci < 6 → ∀ a, a < NN ci → ∀ b, b < NN ci → a ≠ b → (TT ci a).2.1 ≠ (TT ci b).2.1
  | 0, _ => nmX0
  | 1, _ => nmX1
  | 2, _ => nmX2
  | 3, _ => nmX3
  | 4, _ => nmX4
  | 5, _ => nmX5
  | n + 6, h => absurd h (by omega)
theorem vw_at : ∀ ci, ci < 6 → vwCl[ci]? = some (RR ci, TT ci, NN ci)
  | 0, _ => rfl
  | 1, _ => rfl
  | 2, _ => rfl
  | 3, _ => rfl
  | 4, _ => rfl
  | 5, _ => rfl
  | n + 6, h => absurd h (by omega)
theorem adr_o {K : Cx} {o : Nat} (h : o < 62) : adr K o = kad K o := if_pos h
def OB (o ci k r x : Nat) : Prop := o < 62 ∧ kd o = ci ∧ ci < 6 ∧ k < ln o ∧ fk ci k = 0 ∧ ol ci o k = (r, x)
def OR (o ci k t : Nat) : Prop := o < 62 ∧ kd o = ci ∧ ci < 6 ∧ k < ln o ∧ fk ci k = 2 ∧ rfc ci k o = t
def AR (o kind n r off : Nat) : Prop := o < 62 ∧ kd o = kind ∧ ln o = n ∧ al o = (r, off)
def RA (o kind n : Nat) : Prop := o < 62 ∧ kd o = kind ∧ ln o = n
def RV (o ci : Nat) : Prop := o < 62 ∧ kd o = ci ∧ ci < 6
def IX (i : Int32) (j n : Nat) : Prop := ¬ i < 0 ∧ i.toNatClampNeg = j ∧ j < n
theorem IX.vp {i : Int32} {j n : Nat} (h : IX i j n) : vp_in i n := fun q => q.elim h.1 (fun z => by have := h.2.1; have := h.2.2; omega)
section MEM
variable {own : String} {cc : ByteArray} {mL : Nat} {rt : Option FieldType} {fr lo : Nat} {K : Cx} {pc q : Nat} {ls : List (Option Value)} {st : List Value} {m : TM} {Q : Option Value → TM → Prop}
theorem OB.lcq {o ci k r x : Nat} (h : OB o ci k r x) : lc o k = (r, x) := by
  obtain ⟨h1, h2, h3, h4, h5, h6⟩ := h
  subst h2
  simp only [lc, if_pos h3, h6]
theorem OB.he {o ci k r x : Nat} (h : OB o ci k r x) : (wsOf K m)[o]? = some (kad K o, .inr (ci, (List.range (ln o)).map (fun k => vmp K (VL m o k)))) := by
  obtain ⟨h1, h2, h3, h4, h5, h6⟩ := h
  subst h2
  rw [ws_get h1, cell_obj h3]
theorem OR.he {o ci k t : Nat} (h : OR o ci k t) : (wsOf K m)[o]? = some (kad K o, .inr (ci, (List.range (ln o)).map (fun k => vmp K (VL m o k)))) := by
  obtain ⟨h1, h2, h3, h4, h5, h6⟩ := h
  subst h2
  rw [ws_get h1, cell_obj h3]
theorem fs_at {o k : Nat} (hk : k < ln o) : ((List.range (ln o)).map (fun k => vmp K (VL m o k)))[k]? = some (vmp K (VL m o k)) := by simp [hk]
theorem OB.vl {o ci k r x : Nat} (h : OB o ci k r x) : VL m o k = .int (m.1 r x) := by
  have e := h.lcq
  obtain ⟨h1, h2, h3, h4, h5, h6⟩ := h
  subst h2
  rw [VL_int h3 h5, rdI, e]
theorem OR.vl {o ci k t : Nat} (h : OR o ci k t) : VL m o k = .ref t := by
  obtain ⟨h1, h2, h3, h4, h5, h6⟩ := h
  subst h2
  simp [VL, h5, h6]
theorem x_getv {o ci k idx : Nat} {v : Value} (hd : decode cc pc = .ok (.getfield idx, 3)) (hq : pc + 3 = q) (hf : FL own idx ci k) (h62 : o < 62) (h2 : kd o = ci) (hk : k < ln o) (hv : VL m o k = v) (kk : XX own cc mL rt fr lo K q ls (v :: st) m Q) : XX own cc mL rt fr lo K pc ls (.ref o :: st) m Q := by
  subst hq; subst hv; subst h2
  intro p e s mi args below meth c H locs arr C hP hD hS hL
  show W _ _ _ _ _ _ _ _ _ _ _ _ _ _ _ (F0 mi pc arr (.ref (adr K o) :: st.map (vmp K)))
  rw [adr_o h62]
  exact va_get (D := kD K) (ci := kd o) (C := RR (kd o)) (T := TT (kd o)) (N := NN (kd o)) C.1 C.2.1 C.2.2.2.2.2.1 (iw _ hf.2.2) C.2.2.2.2.1 C.2.2.2.2.2.2.2.1 hP o (by rw [ws_get h62, cell_obj hf.2.2]) (vw_at _ hf.2.2) k hf.2.1 (C.2.2.2.2.2.1 _ hf.1) (fun _ h => h) (fs_at hk) hd (kk p e s mi args below meth c H locs arr C hP hD hS hL)
theorem x_getI {o ci k idx r x : Nat} (hd : decode cc pc = .ok (.getfield idx, 3)) (hq : pc + 3 = q) (hf : FL own idx ci k) (ho : OB o ci k r x) (kk : XX own cc mL rt fr lo K q ls (.int (m.1 r x) :: st) m Q) : XX own cc mL rt fr lo K pc ls (.ref o :: st) m Q :=
  x_getv hd hq hf ho.1 ho.2.1 ho.2.2.2.1 ho.vl kk
theorem x_getR {o ci k idx t : Nat} (hd : decode cc pc = .ok (.getfield idx, 3)) (hq : pc + 3 = q) (hf : FL own idx ci k) (ho : OR o ci k t) (kk : XX own cc mL rt fr lo K q ls (.ref t :: st) m Q) : XX own cc mL rt fr lo K pc ls (.ref o :: st) m Q :=
  x_getv hd hq hf ho.1 ho.2.1 ho.2.2.2.1 ho.vl kk
theorem x_getL {idx : Nat} (hd : decode cc pc = .ok (.getfield idx, 3)) (hq : pc + 3 = q) (hf : FL own idx 5 10) (kk : XX own cc mL rt fr lo K q ls (.long m.2 :: st) m Q) : XX own cc mL rt fr lo K pc ls (.ref 49 :: st) m Q :=
  x_getv hd hq hf (by decide) (by decide) (by decide) rfl kk
theorem x_putI {o ci k idx r x : Nat} {v : Int32} {m' : TM} (hd : decode cc pc = .ok (.putfield idx, 3)) (hq : pc + 3 = q) (hf : FL own idx ci k) (ho : OB o ci k r x) (hfin : (TT ci k).2.2.2 = false) (hn : narrow (tyT ci k) (.int v) = .int v) (hfit : fits (tyT ci k) (.int v) = true) (hm : st1 m r x v = m') (kk : XX own cc mL rt fr lo K q ls st m' Q) : XX own cc mL rt fr lo K pc ls (.int v :: .ref o :: st) m Q := by
  subst hq; subst hm
  have hlc := ho.lcq
  obtain ⟨h62, h2, h6, hk, hfk, hol⟩ := ho
  subst h2
  intro p e s mi args below meth c H locs arr C hP hD hS hL
  show W _ _ _ _ _ _ _ _ _ _ _ _ _ _ _ (F0 mi pc arr (.int v :: .ref (adr K o) :: st.map (vmp K)))
  rw [adr_o h62]
  refine va_put (D := kD K) (ci := kd o) (C := RR (kd o)) (T := TT (kd o)) (N := NN (kd o)) C.1 C.2.1 C.2.2.2.2.2.1 (iw _ h6) (tyT (kd o)) (ty_ok _ h6) (nm_ok _ h6) C.2.2.2.2.1 C.2.2.2.2.2.2.2.1 hP hD hS o (by rw [ws_get h62, cell_obj h6]) (vw_at _ h6) k hf.2.1 (C.2.2.2.2.2.1 _ hf.1) (fun _ h => h) hfin (ty_ok _ h6 k hf.2.1) hn hfit (by simpa using hk) hd (fun H1 locs1 hP1 hD1 hS1 => ?_)
  rw [ws_put h62 hk h6 hfk, hlc] at hP1 hD1
  exact kk p e s mi args below meth c H1 locs1 arr C hP1 hD1 hS1 hL
theorem x_putL {idx : Nat} {v : Int64} {m' : TM} (hd : decode cc pc = .ok (.putfield idx, 3)) (hq : pc + 3 = q) (hf : FL own idx 5 10) (hm : st2 m v = m') (kk : XX own cc mL rt fr lo K q ls st m' Q) : XX own cc mL rt fr lo K pc ls (.long v :: .ref 49 :: st) m Q := by
  subst hq; subst hm
  intro p e s mi args below meth c H locs arr C hP hD hS hL
  show W _ _ _ _ _ _ _ _ _ _ _ _ _ _ _ (F0 mi pc arr (.long v :: .ref (adr K 49) :: st.map (vmp K)))
  rw [adr_o (by decide)]
  refine va_put (D := kD K) (ci := 5) (C := RX5) (T := TX5) (N := 18) C.1 C.2.1 C.2.2.2.2.2.1 (iw 5 (by decide)) tyX5 tyX5_ok nmX5 C.2.2.2.2.1 C.2.2.2.2.2.2.2.1 hP hD hS 49 (fs := (List.range 18).map (fun k => vmp K (VL m 49 k))) (by rw [ws_get (by decide), cell_obj (by decide)]; rfl) rfl 10 (by decide) (C.2.2.2.2.2.1 _ hf.1) (fun _ h => h) rfl (tyX5_ok 10 (by decide)) rfl rfl (by simp) hd (fun H1 locs1 hP1 hD1 hS1 => ?_)
  rw [ws_putL] at hP1 hD1
  exact kk p e s mi args below meth c H1 locs1 arr C hP1 hD1 hS1 hL
theorem AR.he {o kind n r off : Nat} (h : AR o kind n r off) (h6 : 6 ≤ kind) (h9 : kind < 9) : (wsOf K m)[o]? = some (kad K o, .inl (kcA K kind, n, .inl (fun j => if j < n then rdI m o j else 0))) := by
  obtain ⟨h1, h2, h3, h4⟩ := h
  subst h2; subst h3
  rw [ws_get h1, cell_arr (by omega) h9]
theorem AR.rd {o kind n r off j : Nat} (h : AR o kind n r off) (h6 : 6 ≤ kind) : lc o j = (r, off + j) := by
  obtain ⟨h1, h2, h3, h4⟩ := h
  subst h2
  simp only [lc, if_neg (by omega : ¬ kd o < 6), h4]

theorem x_iald {o n r off j x : Nat} {i : Int32} (hd : decode cc pc = .ok (.iaload, 1)) (hq : pc + 1 = q) (ha : AR o 8 n r off) (hj : IX i j n) (hx : off + j = x) (kk : XX own cc mL rt fr lo K q ls (.int (m.1 r x) :: st) m Q) : XX own cc mL rt fr lo K pc ls (.int i :: .ref o :: st) m Q := by
  subst hq; subst hx
  have hrd := ha.rd (j := j) (by decide)
  have h62 := ha.1
  intro p e s mi args below meth c H locs arr C hP hD hS hL
  show W _ _ _ _ _ _ _ _ _ _ _ _ _ _ _ (F0 mi pc arr (.int i :: .ref (adr K o) :: st.map (vmp K)))
  rw [adr_o h62]
  refine va_iald C.1 C.2.1 C.2.2.2.2.2.2.2.1 hP o 2 (ha.he (by decide) (by decide)) rfl hj.vp hd ?_
  have e1 : (if i.toNatClampNeg < n then rdI m o i.toNatClampNeg else 0) = m.1 r (off + j) := by rw [hj.2.1, if_pos hj.2.2, rdI, hrd]
  rw [e1]
  exact kk p e s mi args below meth c H locs arr C hP hD hS hL
theorem x_bald {o n r off j x : Nat} {i : Int32} (hd : decode cc pc = .ok (.baload, 1)) (hq : pc + 1 = q) (ha : AR o 6 n r off) (hj : IX i j n) (hx : off + j = x) (kk : XX own cc mL rt fr lo K q ls (.int (m.1 r x) :: st) m Q) : XX own cc mL rt fr lo K pc ls (.int i :: .ref o :: st) m Q := by
  subst hq; subst hx
  have hrd := ha.rd (j := j) (by decide)
  have h62 := ha.1
  intro p e s mi args below meth c H locs arr C hP hD hS hL
  show W _ _ _ _ _ _ _ _ _ _ _ _ _ _ _ (F0 mi pc arr (.int i :: .ref (adr K o) :: st.map (vmp K)))
  rw [adr_o h62]
  refine va_bald C.1 C.2.1 C.2.2.2.2.2.2.2.1 hP o 0 (ha.he (by decide) (by decide)) rfl hj.vp hd ?_
  have e1 : (if i.toNatClampNeg < n then rdI m o i.toNatClampNeg else 0) = m.1 r (off + j) := by rw [hj.2.1, if_pos hj.2.2, rdI, hrd]
  rw [e1]
  exact kk p e s mi args below meth c H locs arr C hP hD hS hL
theorem x_cald {o n r off j x : Nat} {i : Int32} (hd : decode cc pc = .ok (.caload, 1)) (hq : pc + 1 = q) (ha : AR o 7 n r off) (hj : IX i j n) (hx : off + j = x) (kk : XX own cc mL rt fr lo K q ls (.int (m.1 r x) :: st) m Q) : XX own cc mL rt fr lo K pc ls (.int i :: .ref o :: st) m Q := by
  subst hq; subst hx
  have hrd := ha.rd (j := j) (by decide)
  have h62 := ha.1
  intro p e s mi args below meth c H locs arr C hP hD hS hL
  show W _ _ _ _ _ _ _ _ _ _ _ _ _ _ _ (F0 mi pc arr (.int i :: .ref (adr K o) :: st.map (vmp K)))
  rw [adr_o h62]
  refine va_cald C.1 C.2.1 C.2.2.2.2.2.2.2.1 hP o 1 (ha.he (by decide) (by decide)) rfl hj.vp hd ?_
  have e1 : (if i.toNatClampNeg < n then rdI m o i.toNatClampNeg else 0) = m.1 r (off + j) := by rw [hj.2.1, if_pos hj.2.2, rdI, hrd]
  rw [e1]
  exact kk p e s mi args below meth c H locs arr C hP hD hS hL
theorem x_iast {o n r off j x : Nat} {i v : Int32} {m' : TM} (hd : decode cc pc = .ok (.iastore, 1)) (hq : pc + 1 = q) (ha : AR o 8 n r off) (hj : IX i j n) (hx : off + j = x) (hm : st1 m r x (v) = m') (kk : XX own cc mL rt fr lo K q ls st m' Q) : XX own cc mL rt fr lo K pc ls (.int v :: .int i :: .ref o :: st) m Q := by
  subst hq; subst hx; subst hm
  have hrd := ha.rd (j := j) (by decide)
  intro p e s mi args below meth c H locs arr C hP hD hS hL
  show W _ _ _ _ _ _ _ _ _ _ _ _ _ _ _ (F0 mi pc arr (.int v :: .int i :: .ref (adr K o) :: st.map (vmp K)))
  rw [adr_o ha.1]
  refine va_iast C.1 C.2.1 C.2.2.2.2.2.2.2.1 hP hD hS o 2 (ha.he (by decide) (by decide)) rfl hj.vp hd (fun H1 locs1 hP1 hD1 hS1 => ?_)
  obtain ⟨h62, hkd, hln, hal⟩ := ha
  subst hln
  have hk6 : ¬ kd o < 6 := by omega
  have hk9 : kd o < 9 := by omega
  rw [hj.2.1, show kcA K 8 = kcA K (kd o) by rw [hkd], ws_ast h62 hj.2.2 hk6 hk9, hrd] at hP1 hD1
  exact kk p e s mi args below meth c H1 locs1 arr C hP1 hD1 hS1 hL
theorem x_bast {o n r off j x : Nat} {i v : Int32} {m' : TM} (hd : decode cc pc = .ok (.bastore, 1)) (hq : pc + 1 = q) (ha : AR o 6 n r off) (hj : IX i j n) (hx : off + j = x) (hm : st1 m r x (vp_nar .byte v) = m') (kk : XX own cc mL rt fr lo K q ls st m' Q) : XX own cc mL rt fr lo K pc ls (.int v :: .int i :: .ref o :: st) m Q := by
  subst hq; subst hx; subst hm
  have hrd := ha.rd (j := j) (by decide)
  intro p e s mi args below meth c H locs arr C hP hD hS hL
  show W _ _ _ _ _ _ _ _ _ _ _ _ _ _ _ (F0 mi pc arr (.int v :: .int i :: .ref (adr K o) :: st.map (vmp K)))
  rw [adr_o ha.1]
  refine va_bast C.1 C.2.1 C.2.2.2.2.2.2.2.1 hP hD hS o 0 (ha.he (by decide) (by decide)) rfl hj.vp hd (fun H1 locs1 hP1 hD1 hS1 => ?_)
  obtain ⟨h62, hkd, hln, hal⟩ := ha
  subst hln
  have hk6 : ¬ kd o < 6 := by omega
  have hk9 : kd o < 9 := by omega
  rw [hj.2.1, show kcA K 6 = kcA K (kd o) by rw [hkd], ws_ast h62 hj.2.2 hk6 hk9, hrd] at hP1 hD1
  exact kk p e s mi args below meth c H1 locs1 arr C hP1 hD1 hS1 hL
theorem x_aald {o kind n j t : Nat} {i : Int32} (hd : decode cc pc = .ok (.aaload, 1)) (hq : pc + 1 = q) (ha : RA o kind n) (h9 : kind = 9 ∨ kind = 10) (hj : IX i j n) (ht : rfa kind o j = t) (ht2 : t < 62) (kk : XX own cc mL rt fr lo K q ls (.ref t :: st) m Q) : XX own cc mL rt fr lo K pc ls (.int i :: .ref o :: st) m Q := by
  subst hq; subst ht
  obtain ⟨h62, hkd, hln⟩ := ha
  subst hkd; subst hln
  intro p e s mi args below meth c H locs arr C hP hD hS hL
  show W _ _ _ _ _ _ _ _ _ _ _ _ _ _ _ (F0 mi pc arr (.int i :: .ref (adr K o) :: st.map (vmp K)))
  rw [adr_o h62]
  have he : (wsOf K m)[o]? = some (kad K o, .inl (kcA K (kd o), ln o, .inr (.inr (.inr (.inr (fun j => if j < ln o then some (kad K (rfa (kd o) o j)) else none)))))) := by rw [ws_get h62, cell_rarr (by omega)]
  have e1 : va_rf (if i.toNatClampNeg < ln o then some (kad K (rfa (kd o) o i.toNatClampNeg)) else none) = .ref (adr K (rfa (kd o) o j)) := by rw [hj.2.1, if_pos hj.2.2, adr_o ht2]; rfl
  have k2 := kk p e s mi args below meth c H locs arr C hP hD hS hL
  have k3 : W p (kL K) e ({ frames := fr, cells := 0, slots := 0, locals := lo }) s mi args below meth c H locs 0 0 (MQ below (QQ K Q) args s 0 0 (AA K)) (F0 mi (pc + 1) arr (va_rf (if i.toNatClampNeg < ln o then some (kad K (rfa (kd o) o i.toNatClampNeg)) else none) :: st.map (vmp K))) := by rw [e1]; exact k2
  rcases h9 with h | h
  · exact va_aldq (C := RX1) C.1 C.2.1 C.2.2.2.2.2.2.2.1 hP o 3 he (by rw [h]; rfl) hj.vp hd k3
  · exact va_aldq (C := RX2) C.1 C.2.1 C.2.2.2.2.2.2.2.1 hP o 4 he (by rw [h]; rfl) hj.vp hd k3
theorem tys_at : ∀ k, 6 ≤ k → k < 11 → ∃ ty, (tysOf K)[k - 6]? = some (kcA K k, ty)
  | 6, _, _ => ⟨_, rfl⟩
  | 7, _, _ => ⟨_, rfl⟩
  | 8, _, _ => ⟨_, rfl⟩
  | 9, _, _ => ⟨_, rfl⟩
  | 10, _, _ => ⟨_, rfl⟩
  | 0, h, _ => absurd h (by omega)
  | 1, h, _ => absurd h (by omega)
  | 2, h, _ => absurd h (by omega)
  | 3, h, _ => absurd h (by omega)
  | 4, h, _ => absurd h (by omega)
  | 5, h, _ => absurd h (by omega)
  | n + 11, _, h => absurd h (by omega)
theorem x_alen {o kind n : Nat} {v : Int32} (hd : decode cc pc = .ok (.arraylength, 1)) (hq : pc + 1 = q) (ha : RA o kind n) (h6 : 6 ≤ kind) (hv : Int32.ofNat n = v) (kk : XX own cc mL rt fr lo K q ls (.int v :: st) m Q) : XX own cc mL rt fr lo K pc ls (.ref o :: st) m Q := by
  subst hq
  obtain ⟨h62, hkd, hln⟩ := ha
  subst hkd; subst hln
  intro p e s mi args below meth c H locs arr C hP hD hS hL
  show W _ _ _ _ _ _ _ _ _ _ _ _ _ _ _ (F0 mi pc arr (.ref (adr K o) :: st.map (vmp K)))
  rw [adr_o h62]
  obtain ⟨ty, hty⟩ := tys_at (K := K) (kd o) h6 (kd_lt o h62)
  have he : ∃ x : vp_A, x.1 = ln o ∧ (wsOf K m)[o]? = some (kad K o, .inl (kcA K (kd o), x)) := by
    by_cases h9 : kd o < 9
    · exact ⟨_, rfl, by rw [ws_get h62, cell_arr (by omega) h9]⟩
    · exact ⟨_, rfl, by rw [ws_get h62, cell_rarr h9]⟩
  obtain ⟨x, hx, he⟩ := he
  exact va_alen C.1 C.2.1 C.2.2.2.2.2.2.2.1 hP o (kd o - 6) he hty (by rw [hx]; exact hv) hd (kk p e s mi args below meth c H locs arr C hP hD hS hL)
/-! the copy of a stretch -/
def cpy (m : TM) (r1 a r2 b n : Nat) : TM := (fun u v => if u = r2 ∧ b ≤ v ∧ v < b + n then m.1 r1 (a + (v - b)) else m.1 u v, m.2)
theorem ws_cpy {o1 o2 n1 n2 r1 r2 f1 f2 sp dp n : Nat} (h1 : AR o1 8 n1 r1 f1) (h2 : AR o2 8 n2 r2 f2) (hs : sp + n ≤ n1) (hp : dp + n ≤ n2) :
    (wsOf K m).set o2 (kad K o2, .inl (kcA K 8, n2, .inl (va_cpy (fun j => if j < n1 then rdI m o1 j else 0) (fun j => if j < n2 then rdI m o2 j else 0) sp dp n))) = wsOf K (cpy m r1 (f1 + sp) r2 (f2 + dp) n) := by
  have e1 := fun j => h1.rd (j := j) (by decide)
  have e2 := fun j => h2.rd (j := j) (by decide)
  obtain ⟨a1, a2, a3, a4⟩ := h1
  obtain ⟨b1, b2, b3, b4⟩ := h2
  subst a3; subst b3
  have out : ∀ o' k', o' < 62 → k' < ln o' → isI o' k' = true → ¬ (o' = o2 ∧ dp ≤ k' ∧ k' < dp + n) → rdI (cpy m r1 (f1 + sp) r2 (f2 + dp) n) o' k' = rdI m o' k' := by
    intro o' k' g1 g2 g3 g4
    unfold rdI cpy
    dsimp only
    rw [if_neg]
    rintro ⟨z1, z2, z3⟩
    have hj : (lc o' k').2 - f2 < ln o2 := by omega
    have hl : lc o' k' = lc o2 ((lc o' k').2 - f2) := by rw [e2]; exact Prod.ext z1 (by show _ = f2 + _; omega)
    obtain ⟨y1, y2⟩ := lc_inj b1 hj (by simp [isI, b2]) g1 g2 g3 hl
    exact g4 ⟨y1, by omega, by omega⟩
  refine ws_set b1 ?_ ?_
  · rw [cell_arr (by omega) (by omega), b2]
    refine congrArg (fun z => Sum.inl (kcA K 8, ln o2, Sum.inl z)) (funext fun j => ?_)
    unfold va_cpy
    dsimp only
    by_cases hin : dp ≤ j ∧ j < dp + n
    · rw [if_pos (by omega), if_pos hin, if_pos (by omega)]
      unfold rdI
      rw [e2, e1]
      unfold cpy
      dsimp only
      rw [if_pos ⟨rfl, by omega, by omega⟩]
      exact congrArg (m.1 r1) (by omega)
    · rw [if_neg hin]
      by_cases hj : j < ln o2
      · rw [if_pos hj, if_pos hj, out o2 j b1 hj (by simp [isI, b2]) (fun q => hin q.2)]
      · rw [if_neg hj, if_neg hj]
  · intro o' ho' hne
    by_cases h6 : kd o' < 6
    · rw [cell_obj h6, cell_obj h6]
      refine congrArg (fun z => Sum.inr (kd o', z)) (List.map_congr_left fun j hj => congrArg (vmp K) ?_)
      have hj' : j < ln o' := List.mem_range.mp hj
      by_cases hf : fk (kd o') j = 0
      · rw [VL_int h6 hf, VL_int h6 hf, out o' j ho' hj' (by simp [isI, h6, hf]) (fun q => hne q.1)]
      · simp [VL, hf, cpy]
    · by_cases h9 : kd o' < 9
      · rw [cell_arr h6 h9, cell_arr h6 h9]
        refine congrArg (fun z => Sum.inl (kcA K (kd o'), ln o', Sum.inl z)) (funext fun j => ?_)
        by_cases hj : j < ln o'
        · rw [if_pos hj, if_pos hj, out o' j ho' hj (by simp [isI, h6, h9]; omega) (fun q => hne q.1)]
        · rw [if_neg hj, if_neg hj]
      · rw [cell_rarr h9, cell_rarr h9]
def AC (own : String) (idx : Nat) : Prop := Cond.methodLink own idx arraycopyName ∈ WT
theorem ac_nat : Cond.native arraycopyName ∈ WT := mw 392 (by decide +kernel) (by decide +kernel)
theorem ac_stat : Cond.static arraycopyName ∈ WT := mw 391 (by decide +kernel) (by decide +kernel)
theorem ac_ini : Cond.initialized "java/lang/System" ∈ WT := mw 62 (by decide +kernel) (by decide +kernel)
theorem ac_X0 : AC RX0 44 := mw 390 (by decide +kernel) (by decide +kernel)
theorem ac_X4 : AC RX4 210 := mw 659 (by decide +kernel) (by decide +kernel)
theorem x_copy {o1 o2 n1 n2 r1 r2 f1 f2 s1 d1 n' idx : Nat} {sp dp n : Int32} {m' : TM} (hd : decode cc pc = .ok (.invokestatic idx, 3)) (hq : pc + 3 = q) (hl : AC own idx) (h1 : AR o1 8 n1 r1 f1) (h2 : AR o2 8 n2 r2 f2) (hn0 : ¬ sp < 0 ∧ ¬ dp < 0 ∧ ¬ n < 0) (hs : sp.toNatClampNeg = s1 ∧ dp.toNatClampNeg = d1 ∧ n.toNatClampNeg = n') (hb1 : s1 + n' ≤ n1) (hb2 : d1 + n' ≤ n2) (hR : 1 ≤ fr ∧ (st.map fun v => v.category).sum + 18 ≤ lo) (hm : cpy m r1 (f1 + s1) r2 (f2 + d1) n' = m') (kk : XX own cc mL rt fr lo K q ls st m' Q) : XX own cc mL rt fr lo K pc ls (.int n :: .int dp :: .ref o2 :: .int sp :: .ref o1 :: st) m Q := by
  subst hq; subst hm
  intro p e s mi args below meth c H locs arr C hP hD hS hL
  show W _ _ _ _ _ _ _ _ _ _ _ _ _ _ _ (F0 mi pc arr (.int n :: .int dp :: .ref (adr K o2) :: .int sp :: .ref (adr K o1) :: st.map (vmp K)))
  rw [adr_o h1.1, adr_o h2.1]
  obtain ⟨g1, g2, g3⟩ := hs
  subst g1; subst g2; subst g3
  have hcat : ((st.map (vmp K)).map fun v => v.category).sum = (st.map fun v => v.category).sum := by
    rw [List.map_map]
    exact congrArg List.sum (List.map_congr_left fun v _ => vmp_cat K v)
  refine va_copyi C.1 C.2.1 (C.2.2.2.1.trans hL.len.symm) C.2.2.2.2.1 (C.2.2.2.2.2.1 _ hl) (C.2.2.2.2.2.1 _ ac_nat) (C.2.2.2.2.2.1 _ ac_stat) (C.2.2.2.2.2.1 _ ac_ini) C.2.2.2.2.2.2.2.1 hP hD hS o1 o2 2 2 (h1.he (by decide) (by decide)) (h2.he (by decide) (by decide)) (ty := .int) rfl rfl rfl hn0.1 hn0.2.1 hn0.2.2 hb1 hb2 (fun _ _ => rfl) hR.1 (by rw [hcat]; exact hR.2) hd (fun H1 locs1 hP1 hD1 hS1 => ?_)
  rw [ws_cpy h1 h2 hb1 hb2] at hP1 hD1
  exact kk p e s mi args below meth c H1 locs1 arr C hP1 hD1 hS1 hL

theorem adr_s {k : Nat} (h : k < 13) : adr K (100 + k) = kK K k := by
  unfold adr
  rw [if_neg (by omega), if_pos (by omega), Nat.add_sub_cancel_left]
theorem adr_v {k : Nat} (h : k < 13) : adr K (120 + k) = kV K k := by
  unfold adr
  rw [if_neg (by omega), if_neg (by omega), if_pos (by omega), Nat.add_sub_cancel_left]
theorem x_ldcS {k i : Nat} (hd : decode cc pc = .ok (.ldc i, 2)) (hq : pc + 2 = q) (hk : k < 13) (ho : own = RX3) (hi : sIdx.getD k 0 = i) (kk : XX own cc mL rt fr lo K q ls (.ref (100 + k) :: st) m Q) : XX own cc mL rt fr lo K pc ls st m Q := by
  subst hq; subst hi; subst ho
  intro p e s mi args below meth c H locs arr C hP hD hS hL
  have k2 := kk p e s mi args below meth c H locs arr C hP hD hS hL
  have k3 : W p (kL K) e ({ frames := fr, cells := 0, slots := 0, locals := lo }) s mi args below meth c H locs 0 0 (MQ below (QQ K Q) args s 0 0 (AA K)) (F0 mi (pc + 2) arr (.ref (kK K k) :: st.map (vmp K))) := by rw [← adr_s hk]; exact k2
  exact va_ldcS C.1 C.2.1 C.2.2.2.2.1 (C.2.2.2.2.2.2.2.2.2.1 k hk) hd k3
theorem x_sval {k i : Nat} (hd : decode cc pc = .ok (.getfield i, 3)) (hq : pc + 3 = q) (hk : k < 13) (hf : Cond.fieldLink own i "java/lang/String" "value" "[B" ∈ WT) (kk : XX own cc mL rt fr lo K q ls (.ref (120 + k) :: st) m Q) : XX own cc mL rt fr lo K pc ls (.ref (100 + k) :: st) m Q := by
  subst hq
  intro p e s mi args below meth c H locs arr C hP hD hS hL
  have k2 := kk p e s mi args below meth c H locs arr C hP hD hS hL
  have k3 : W p (kL K) e ({ frames := fr, cells := 0, slots := 0, locals := lo }) s mi args below meth c H locs 0 0 (MQ below (QQ K Q) args s 0 0 (AA K)) (F0 mi (pc + 3) arr (.ref (kV K k) :: st.map (vmp K))) := by rw [← adr_v hk]; exact k2
  show W _ _ _ _ _ _ _ _ _ _ _ _ _ _ _ (F0 mi pc arr (.ref (adr K (100 + k)) :: st.map (vmp K)))
  rw [adr_s hk]
  exact vk_getf C.1 C.2.1 (C.2.2.2.2.2.2.2.2.1.1 k hk).2.2.1 hS C.2.2.2.2.1 (C.2.2.2.2.2.1 _ hf) (fun _ h => h) hd k3
theorem x_scod {k i : Nat} (hd : decode cc pc = .ok (.getfield i, 3)) (hq : pc + 3 = q) (hk : k < 13) (hf : Cond.fieldLink own i "java/lang/String" "coder" "B" ∈ WT) (kk : XX own cc mL rt fr lo K q ls (.int 0 :: st) m Q) : XX own cc mL rt fr lo K pc ls (.ref (100 + k) :: st) m Q := by
  subst hq
  intro p e s mi args below meth c H locs arr C hP hD hS hL
  show W _ _ _ _ _ _ _ _ _ _ _ _ _ _ _ (F0 mi pc arr (.ref (adr K (100 + k)) :: st.map (vmp K)))
  rw [adr_s hk]
  exact vk_getf C.1 C.2.1 (C.2.2.2.2.2.2.2.2.1.1 k hk).2.1 hS C.2.2.2.2.1 (C.2.2.2.2.2.1 _ hf) (fun _ h => h) hd (kk p e s mi args below meth c H locs arr C hP hD hS hL)
theorem x_slen {k : Nat} {v : Int32} (hd : decode cc pc = .ok (.arraylength, 1)) (hq : pc + 1 = q) (hk : k < 13) (hv : Int32.ofNat (sLen.getD k 0) = v) (kk : XX own cc mL rt fr lo K q ls (.int v :: st) m Q) : XX own cc mL rt fr lo K pc ls (.ref (120 + k) :: st) m Q := by
  subst hq
  intro p e s mi args below meth c H locs arr C hP hD hS hL
  show W _ _ _ _ _ _ _ _ _ _ _ _ _ _ _ (F0 mi pc arr (.ref (adr K (120 + k)) :: st.map (vmp K)))
  rw [adr_v hk]
  exact va_tlen C.1 C.2.1 (C.2.2.2.2.2.2.2.2.1.1 k hk).2.2.2 hS hv hd (kk p e s mi args below meth c H locs arr C hP hD hS hL)
theorem x_sbald {k j : Nat} {i v : Int32} (hd : decode cc pc = .ok (.baload, 1)) (hq : pc + 1 = q) (hk : k < 13) (hj : IX i j (sLen.getD k 0)) (hv : (sByt.getD k []).getD j 0 = v) (kk : XX own cc mL rt fr lo K q ls (.int v :: st) m Q) : XX own cc mL rt fr lo K pc ls (.int i :: .ref (120 + k) :: st) m Q := by
  subst hq
  intro p e s mi args below meth c H locs arr C hP hD hS hL
  show W _ _ _ _ _ _ _ _ _ _ _ _ _ _ _ (F0 mi pc arr (.int i :: .ref (adr K (120 + k)) :: st.map (vmp K)))
  rw [adr_v hk]
  exact va_tb C.1 C.2.1 (C.2.2.2.2.2.2.2.2.1.1 k hk).2.2.2 hS hj.vp (v := .int v) (by rw [hj.2.1, hv]) hd (kk p e s mi args below meth c H locs arr C hP hD hS hL)
theorem x_gets1 {i : Nat} (hd : decode cc pc = .ok (.getstatic i, 3)) (hq : pc + 3 = q) (hf : Cond.fieldLink own i "java/lang/String" "COMPACT_STRINGS" "Z" ∈ WT) (kk : XX own cc mL rt fr lo K q ls (.int 1 :: st) m Q) : XX own cc mL rt fr lo K pc ls st m Q := by
  subst hq
  intro p e s mi args below meth c H locs arr C hP hD hS hL
  exact va_gets C.1 C.2.1 C.2.2.2.2.2.2.2.2.2.2.1 hS C.2.2.2.2.1 (C.2.2.2.2.2.1 _ hf) (fun _ h => h) hd (kk p e s mi args below meth c H locs arr C hP hD hS hL)
theorem x_getsF {i : Nat} (hd : decode cc pc = .ok (.getstatic i, 3)) (hq : pc + 3 = q) (hf : Cond.fieldLink own i "jdk/internal/util/Preconditions" "SIOOBE_FORMATTER" "Ljava/util/function/BiFunction;" ∈ WT) (kk : ∀ v : Value, v = .null ∨ v = .ref 140 → XX own cc mL rt fr lo K q ls (v :: st) m Q) : XX own cc mL rt fr lo K pc ls st m Q := by
  subst hq
  intro p e s mi args below meth c H locs arr C hP hD hS hL
  rcases C.2.2.2.2.2.2.2.2.2.2.2 with h | h
  · exact va_gets C.1 C.2.1 h hS C.2.2.2.2.1 (C.2.2.2.2.2.1 _ hf) (fun _ h => h) hd (kk .null (Or.inl rfl) p e s mi args below meth c H locs arr C hP hD hS hL)
  · exact va_gets C.1 C.2.1 h hS C.2.2.2.2.1 (C.2.2.2.2.2.1 _ hf) (fun _ h => h) hd (kk (.ref 140) (Or.inr rfl) p e s mi args below meth c H locs arr C hP hD hS hL)
end MEM
end
section
section CALLS
variable {own : String} {cc : ByteArray} {mL : Nat} {rt : Option FieldType} {fr lo : Nat} {K : Cx} {pc q : Nat} {ls : List (Option Value)} {st : List Value} {m : TM} {Q : Option Value → TM → Prop}
theorem wt_goodIn {y : MethodName} {cy : ByteArray} {n : Nat} {ry : Option FieldType} (h : Cond.code y cy n ry ∈ WT) : GoodIn WT (Cond.code y cy n ry :: WT) := by
  intro w hw
  rcases List.mem_cons.mp hw with rfl | hw
  · exact ⟨h, good_of_word (wt_good h)⟩
  · exact ⟨hw, good_of_word (wt_good hw)⟩
theorem pc_blind {as : List Value} : FrameBlind (va_Pc (as.map (vmp K)) (fun U => Wd K m U)) := by
  intro a U g mk hq
  obtain ⟨h1, h2, h3, h4, h5⟩ := hq
  exact ⟨h1, h2, h3, va_K.moved (u := U) (U := U.calling g mk a) (Vm.Alike.refl U.vm) h4, Sk.same (s := U) (U := U.calling g mk a) rfl h5⟩
theorem pc_pre {p : Program} {s : State} {mi : MethodId} {args : Array Value} {meth : Method} {c : Code} {H : Heap} {locs : List Loc} {as : List Value} (C : XC own cc mL rt K p s mi args meth c) (hP : va_P (kD K) vwCl (wsOf K m) H) (hD : va_D (AA K) (wsOf K m)) (hS : va_S (AA K) s.heap H locs) (U : State) (hU : U.heap = H) (hW : s.WarmedH U.vm) : va_Pc (as.map (vmp K)) (fun U => Wd K m U) (as.map (vmp K)).toArray U :=
  ⟨rfl, by rw [hU]; exact hP, hD, va_K.moved hW.alike C.2.2.2.2.2.2.2.1, by rw [hU]; exact (Sk.warm hW C.2.2.2.2.2.2.2.2).kept hS.2.1⟩
theorem x_back {p : Program} {l : Launch} {e : Env} {R : Room} {s : State} {mi : MethodId} {args a : Array Value} {below : List Frame} {meth : Method} {c : Code} {H : Heap} {locs : List Loc} {arr : Array Slot} {st0 rest : List Value} {Z : State → Prop} {Q1 : Option Value → TM → Prop}
    (hr : va_Run p l e R s mi args below meth c H locs 0 0 0 0 (F0 mi pc arr st0) rest (QQ K Q1 a) (AA K)) (hS : va_S (AA K) s.heap H locs)
    (kk : ∀ (r : Option Value) (m' : TM) (H1 : Heap) (locs1 : List Loc), Q1 r m' → va_P (kD K) vwCl (wsOf K m') H1 → va_D (AA K) (wsOf K m') → va_S (AA K) s.heap H1 locs1 → W p l e R s mi args below meth c H1 locs1 0 0 Z (F0 mi (pc + 3) arr ((r.map (vmp K)).toList ++ rest))) : W p l e R s mi args below meth c H locs 0 0 Z (F0 mi pc arr st0) := by
  intro T hT X
  obtain ⟨v, st₀, t, T', L, h0, X', hL, e1, e2, ⟨⟨r, m', hv, hq, hb, hd⟩, hz, hk⟩, stp⟩ := hr T hT X
  cases hv
  rw [h0] at hz hk
  obtain ⟨t2, a1, b1⟩ := kk r m' T'.heap (locs ++ L) hq (by rw [e1]; exact hb) hd
    ⟨Nat.le_trans hS.1 (by rw [e1]; exact hz), fun q h1 h2 => by rw [e1, hk q (Nat.lt_of_lt_of_le h1 hS.1) h2]; exact hS.2.1 q h1 h2, fun q hq => by
      rcases List.mem_append.mp hq with h | h
      · exact hS.2.2 q h
      · exact hL q h⟩ T' rfl X'
  exact ⟨t2, stp t2 a1, b1⟩
theorem cat_sum {st : List Value} : ((st.map (vmp K)).map fun v => v.category).sum = (st.map fun v => v.category).sum := by
  rw [List.map_map]
  exact congrArg List.sum (List.map_congr_left fun v _ => vmp_cat K v)
theorem map_rev {as st : List Value} : (as.reverse ++ st).map (vmp K) = (as.map (vmp K)).reverse ++ st.map (vmp K) := by rw [List.map_append, List.map_reverse]
theorem x_callS {y : MethodName} {cy : ByteArray} {n nL idx f2 l2 : Nat} {ry : Option FieldType} {as stk : List Value} {Q1 : Option Value → TM → Prop} (hd : decode cc pc = .ok (.invokestatic idx, 3)) (hq : pc + 3 = q) (hl : Cond.methodLink own idx y ∈ WT) (hm : MS y cy nL ry n) (hc : CQ y cy nL ry f2 l2 K as m Q1) (hs : stk = as.reverse ++ st) (hn : as.length = n) (hw : (st.map fun v => v.category).sum ≤ 8) (hR : f2 + 1 ≤ fr ∧ 8 + (nL + 11) + l2 ≤ lo) (kk : ∀ r m', Q1 r m' → XX own cc mL rt fr lo K q ls (r.toList ++ st) m' Q) : XX own cc mL rt fr lo K pc ls stk m Q := by
  subst hq; subst hs
  intro p e s mi args below meth c H locs arr C hP hD hS hL
  have hts := C.2.2.2.2.2.1
  refine x_back (K := K) (Q1 := Q1) (rest := st.map (vmp K)) (va_runS (As := as.map (vmp K)) (Ts := WT) ⟨C.1, C.2.1, C.2.2.2.1, C.2.2.2.2.1, hts⟩ hc ⟨callB_of n hts (wt_goodIn hm.2.2.1) rfl rfl rfl (hts _ hm.2.1) (hts _ hl) hm.2.2.2 hR, hts _ hm.1⟩ ⟨pc_blind, pc_pre C hP hD hS⟩ rfl (by simpa using hn) hL.len map_rev (by rw [cat_sum]; exact (by simpa [JFrame.monitorRoom] using hw)) hd ⟨Nat.le_refl _, Nat.le_refl _⟩) hS (fun r m' H1 locs1 hq1 hP1 hD1 hS1 => ?_)
  have k2 := kk r m' hq1 p e s mi args below meth c H1 locs1 arr C hP1 hD1 hS1 hL
  cases r <;> exact k2
theorem x_callV {y : MethodName} {cy : ByteArray} {n nL idx f2 l2 o ci : Nat} {ry : Option FieldType} {as stk : List Value} {Q1 : Option Value → TM → Prop} (hd : decode cc pc = .ok (.invokevirtual idx, 3)) (hq : pc + 3 = q) (hl : Cond.methodLink own idx y ∈ WT) (hm : MV y cy nL ry n) (hv : RV o ci) (hC : RR ci = y.cls) (hc : CQ y cy nL ry f2 l2 K (.ref o :: as) m Q1) (hs : stk = as.reverse ++ .ref o :: st) (hn : as.length = n) (hw : (st.map fun v => v.category).sum ≤ 8) (hR : f2 + 1 ≤ fr ∧ 8 + (nL + 11) + l2 ≤ lo) (kk : ∀ r m', Q1 r m' → XX own cc mL rt fr lo K q ls (r.toList ++ st) m' Q) : XX own cc mL rt fr lo K pc ls stk m Q := by
  subst hq; subst hs
  intro p e s mi args below meth c H locs arr C hP hD hS hL
  have hts := C.2.2.2.2.2.1
  obtain ⟨h62, hkd, hci⟩ := hv
  subst hkd
  have hrecv : ∃ cell : Cell, H[adr K o]? = some cell ∧ cell.vm.isStatics = false ∧ s.vm.findClass y.cls = some cell.cls := by
    rw [adr_o h62, ← hC]
    exact va_recv (q := (RR (kd o), TT (kd o), NN (kd o))) C.2.2.2.2.2.2.2.1 hP (vw_at _ hci) (q0 := o) (by rw [ws_get h62, cell_obj hci])
  refine x_back (K := K) (Q1 := Q1) (rest := st.map (vmp K)) (va_runV (C := y.cls) (b := adr K o) (As := as.map (vmp K)) (Ts := WT) ⟨C.1, C.2.1, C.2.2.2.1, C.2.2.2.2.1, hts⟩ hc ⟨callB_of n hts (wt_goodIn hm.2.2.2.1) rfl rfl rfl (hts _ hm.2.2.1) (hts _ hl) hm.2.2.2.2 hR, hts _ hm.1, hts _ hm.2.1⟩ ⟨pc_blind, hrecv, pc_pre (as := .ref o :: as) C hP hD hS⟩ rfl (by simpa using hn) hL.len (map_rev (as := as) (st := .ref o :: st)) (by rw [cat_sum]; exact (by simpa [JFrame.monitorRoom] using hw)) hd ⟨Nat.le_refl _, Nat.le_refl _⟩) hS (fun r m' H1 locs1 hq1 hP1 hD1 hS1 => ?_)
  have k2 := kk r m' hq1 p e s mi args below meth c H1 locs1 arr C hP1 hD1 hS1 hL
  cases r <;> exact k2
theorem x_callT {y : MethodName} {cy : ByteArray} {n nL idx f2 l2 k : Nat} {ry : Option FieldType} {as stk : List Value} {Q1 : Option Value → TM → Prop} (hd : decode cc pc = .ok (.invokevirtual idx, 3)) (hq : pc + 3 = q) (hl : Cond.methodLink own idx y ∈ WT) (hm : MV y cy nL ry n) (hk : k < 13) (hC : "java/lang/String" = y.cls) (hc : CQ y cy nL ry f2 l2 K (.ref (100 + k) :: as) m Q1) (hs : stk = as.reverse ++ .ref (100 + k) :: st) (hn : as.length = n) (hw : (st.map fun v => v.category).sum ≤ 8) (hR : f2 + 1 ≤ fr ∧ 8 + (nL + 11) + l2 ≤ lo) (kk : ∀ r m', Q1 r m' → XX own cc mL rt fr lo K q ls (r.toList ++ st) m' Q) : XX own cc mL rt fr lo K pc ls stk m Q := by
  subst hq; subst hs
  intro p e s mi args below meth c H locs arr C hP hD hS hL
  have hts := C.2.2.2.2.2.1
  have hrecv : ∃ cell : Cell, H[adr K (100 + k)]? = some cell ∧ cell.vm.isStatics = false ∧ s.vm.findClass y.cls = some cell.cls := by
    rw [adr_s hk, ← hC]
    exact vk_recv C.2.2.2.2.2.2.2.2.1 hk hS
  refine x_back (K := K) (Q1 := Q1) (rest := st.map (vmp K)) (va_runV (C := y.cls) (b := adr K (100 + k)) (As := as.map (vmp K)) (Ts := WT) ⟨C.1, C.2.1, C.2.2.2.1, C.2.2.2.2.1, hts⟩ hc ⟨callB_of n hts (wt_goodIn hm.2.2.2.1) rfl rfl rfl (hts _ hm.2.2.1) (hts _ hl) hm.2.2.2.2 hR, hts _ hm.1, hts _ hm.2.1⟩ ⟨pc_blind, hrecv, pc_pre (as := .ref (100 + k) :: as) C hP hD hS⟩ rfl (by simpa using hn) hL.len (map_rev (as := as) (st := .ref (100 + k) :: st)) (by rw [cat_sum]; exact (by simpa [JFrame.monitorRoom] using hw)) hd ⟨Nat.le_refl _, Nat.le_refl _⟩) hS (fun r m' H1 locs1 hq1 hP1 hD1 hS1 => ?_)
  have k2 := kk r m' hq1 p e s mi args below meth c H1 locs1 arr C hP1 hD1 hS1 hL
  cases r <;> exact k2

theorem x_callS0v {rv : Value} {y : MethodName} {cy : ByteArray} {nL idx f2 l2 : Nat} {ry : Option FieldType} {m1 : TM} (hd : decode cc pc = .ok (.invokestatic idx, 3)) (hq : pc + 3 = q) (hl : Cond.methodLink own idx y ∈ WT) (hm : MS y cy nL ry 0) (hc : CT y cy nL ry f2 l2 K [] m (some rv) m1) (hw : (st.map fun v => v.category).sum ≤ 8) (hR : f2 + 1 ≤ fr ∧ 8 + (nL + 11) + l2 ≤ lo) (kk : XX own cc mL rt fr lo K q ls (rv :: st) m1 Q) : XX own cc mL rt fr lo K pc ls (st) m Q :=
  x_callS (as := []) hd hq hl hm hc rfl rfl hw hR (fun r m' h => by obtain ⟨rfl, rfl⟩ := h; exact kk)
theorem x_callV0v {rv : Value} {o ci : Nat} {y : MethodName} {cy : ByteArray} {nL idx f2 l2 : Nat} {ry : Option FieldType} {m1 : TM} (hd : decode cc pc = .ok (.invokevirtual idx, 3)) (hq : pc + 3 = q) (hl : Cond.methodLink own idx y ∈ WT) (hm : MV y cy nL ry 0) (hv : RV o ci) (hC : RR ci = y.cls) (hc : CT y cy nL ry f2 l2 K (.ref o :: []) m (some rv) m1) (hw : (st.map fun v => v.category).sum ≤ 8) (hR : f2 + 1 ≤ fr ∧ 8 + (nL + 11) + l2 ≤ lo) (kk : XX own cc mL rt fr lo K q ls (rv :: st) m1 Q) : XX own cc mL rt fr lo K pc ls (.ref o :: st) m Q :=
  x_callV (as := []) hd hq hl hm hv hC hc rfl rfl hw hR (fun r m' h => by obtain ⟨rfl, rfl⟩ := h; exact kk)
theorem x_callS0n {y : MethodName} {cy : ByteArray} {nL idx f2 l2 : Nat} {ry : Option FieldType} {m1 : TM} (hd : decode cc pc = .ok (.invokestatic idx, 3)) (hq : pc + 3 = q) (hl : Cond.methodLink own idx y ∈ WT) (hm : MS y cy nL ry 0) (hc : CT y cy nL ry f2 l2 K [] m none m1) (hw : (st.map fun v => v.category).sum ≤ 8) (hR : f2 + 1 ≤ fr ∧ 8 + (nL + 11) + l2 ≤ lo) (kk : XX own cc mL rt fr lo K q ls st m1 Q) : XX own cc mL rt fr lo K pc ls (st) m Q :=
  x_callS (as := []) hd hq hl hm hc rfl rfl hw hR (fun r m' h => by obtain ⟨rfl, rfl⟩ := h; exact kk)
theorem x_callV0n {o ci : Nat} {y : MethodName} {cy : ByteArray} {nL idx f2 l2 : Nat} {ry : Option FieldType} {m1 : TM} (hd : decode cc pc = .ok (.invokevirtual idx, 3)) (hq : pc + 3 = q) (hl : Cond.methodLink own idx y ∈ WT) (hm : MV y cy nL ry 0) (hv : RV o ci) (hC : RR ci = y.cls) (hc : CT y cy nL ry f2 l2 K (.ref o :: []) m none m1) (hw : (st.map fun v => v.category).sum ≤ 8) (hR : f2 + 1 ≤ fr ∧ 8 + (nL + 11) + l2 ≤ lo) (kk : XX own cc mL rt fr lo K q ls st m1 Q) : XX own cc mL rt fr lo K pc ls (.ref o :: st) m Q :=
  x_callV (as := []) hd hq hl hm hv hC hc rfl rfl hw hR (fun r m' h => by obtain ⟨rfl, rfl⟩ := h; exact kk)
theorem x_callS1v {a1 : Value} {rv : Value} {y : MethodName} {cy : ByteArray} {nL idx f2 l2 : Nat} {ry : Option FieldType} {m1 : TM} (hd : decode cc pc = .ok (.invokestatic idx, 3)) (hq : pc + 3 = q) (hl : Cond.methodLink own idx y ∈ WT) (hm : MS y cy nL ry 1) (hc : CT y cy nL ry f2 l2 K [a1] m (some rv) m1) (hw : (st.map fun v => v.category).sum ≤ 8) (hR : f2 + 1 ≤ fr ∧ 8 + (nL + 11) + l2 ≤ lo) (kk : XX own cc mL rt fr lo K q ls (rv :: st) m1 Q) : XX own cc mL rt fr lo K pc ls (a1 :: st) m Q :=
  x_callS (as := [a1]) hd hq hl hm hc rfl rfl hw hR (fun r m' h => by obtain ⟨rfl, rfl⟩ := h; exact kk)
theorem x_callV1v {a1 : Value} {rv : Value} {o ci : Nat} {y : MethodName} {cy : ByteArray} {nL idx f2 l2 : Nat} {ry : Option FieldType} {m1 : TM} (hd : decode cc pc = .ok (.invokevirtual idx, 3)) (hq : pc + 3 = q) (hl : Cond.methodLink own idx y ∈ WT) (hm : MV y cy nL ry 1) (hv : RV o ci) (hC : RR ci = y.cls) (hc : CT y cy nL ry f2 l2 K (.ref o :: [a1]) m (some rv) m1) (hw : (st.map fun v => v.category).sum ≤ 8) (hR : f2 + 1 ≤ fr ∧ 8 + (nL + 11) + l2 ≤ lo) (kk : XX own cc mL rt fr lo K q ls (rv :: st) m1 Q) : XX own cc mL rt fr lo K pc ls (a1 :: .ref o :: st) m Q :=
  x_callV (as := [a1]) hd hq hl hm hv hC hc rfl rfl hw hR (fun r m' h => by obtain ⟨rfl, rfl⟩ := h; exact kk)
theorem x_callS1n {a1 : Value} {y : MethodName} {cy : ByteArray} {nL idx f2 l2 : Nat} {ry : Option FieldType} {m1 : TM} (hd : decode cc pc = .ok (.invokestatic idx, 3)) (hq : pc + 3 = q) (hl : Cond.methodLink own idx y ∈ WT) (hm : MS y cy nL ry 1) (hc : CT y cy nL ry f2 l2 K [a1] m none m1) (hw : (st.map fun v => v.category).sum ≤ 8) (hR : f2 + 1 ≤ fr ∧ 8 + (nL + 11) + l2 ≤ lo) (kk : XX own cc mL rt fr lo K q ls st m1 Q) : XX own cc mL rt fr lo K pc ls (a1 :: st) m Q :=
  x_callS (as := [a1]) hd hq hl hm hc rfl rfl hw hR (fun r m' h => by obtain ⟨rfl, rfl⟩ := h; exact kk)
theorem x_callV1n {a1 : Value} {o ci : Nat} {y : MethodName} {cy : ByteArray} {nL idx f2 l2 : Nat} {ry : Option FieldType} {m1 : TM} (hd : decode cc pc = .ok (.invokevirtual idx, 3)) (hq : pc + 3 = q) (hl : Cond.methodLink own idx y ∈ WT) (hm : MV y cy nL ry 1) (hv : RV o ci) (hC : RR ci = y.cls) (hc : CT y cy nL ry f2 l2 K (.ref o :: [a1]) m none m1) (hw : (st.map fun v => v.category).sum ≤ 8) (hR : f2 + 1 ≤ fr ∧ 8 + (nL + 11) + l2 ≤ lo) (kk : XX own cc mL rt fr lo K q ls st m1 Q) : XX own cc mL rt fr lo K pc ls (a1 :: .ref o :: st) m Q :=
  x_callV (as := [a1]) hd hq hl hm hv hC hc rfl rfl hw hR (fun r m' h => by obtain ⟨rfl, rfl⟩ := h; exact kk)
theorem x_callS2v {a1 a2 : Value} {rv : Value} {y : MethodName} {cy : ByteArray} {nL idx f2 l2 : Nat} {ry : Option FieldType} {m1 : TM} (hd : decode cc pc = .ok (.invokestatic idx, 3)) (hq : pc + 3 = q) (hl : Cond.methodLink own idx y ∈ WT) (hm : MS y cy nL ry 2) (hc : CT y cy nL ry f2 l2 K [a1, a2] m (some rv) m1) (hw : (st.map fun v => v.category).sum ≤ 8) (hR : f2 + 1 ≤ fr ∧ 8 + (nL + 11) + l2 ≤ lo) (kk : XX own cc mL rt fr lo K q ls (rv :: st) m1 Q) : XX own cc mL rt fr lo K pc ls (a2 :: a1 :: st) m Q :=
  x_callS (as := [a1, a2]) hd hq hl hm hc rfl rfl hw hR (fun r m' h => by obtain ⟨rfl, rfl⟩ := h; exact kk)
theorem x_callV2v {a1 a2 : Value} {rv : Value} {o ci : Nat} {y : MethodName} {cy : ByteArray} {nL idx f2 l2 : Nat} {ry : Option FieldType} {m1 : TM} (hd : decode cc pc = .ok (.invokevirtual idx, 3)) (hq : pc + 3 = q) (hl : Cond.methodLink own idx y ∈ WT) (hm : MV y cy nL ry 2) (hv : RV o ci) (hC : RR ci = y.cls) (hc : CT y cy nL ry f2 l2 K (.ref o :: [a1, a2]) m (some rv) m1) (hw : (st.map fun v => v.category).sum ≤ 8) (hR : f2 + 1 ≤ fr ∧ 8 + (nL + 11) + l2 ≤ lo) (kk : XX own cc mL rt fr lo K q ls (rv :: st) m1 Q) : XX own cc mL rt fr lo K pc ls (a2 :: a1 :: .ref o :: st) m Q :=
  x_callV (as := [a1, a2]) hd hq hl hm hv hC hc rfl rfl hw hR (fun r m' h => by obtain ⟨rfl, rfl⟩ := h; exact kk)
theorem x_callS2n {a1 a2 : Value} {y : MethodName} {cy : ByteArray} {nL idx f2 l2 : Nat} {ry : Option FieldType} {m1 : TM} (hd : decode cc pc = .ok (.invokestatic idx, 3)) (hq : pc + 3 = q) (hl : Cond.methodLink own idx y ∈ WT) (hm : MS y cy nL ry 2) (hc : CT y cy nL ry f2 l2 K [a1, a2] m none m1) (hw : (st.map fun v => v.category).sum ≤ 8) (hR : f2 + 1 ≤ fr ∧ 8 + (nL + 11) + l2 ≤ lo) (kk : XX own cc mL rt fr lo K q ls st m1 Q) : XX own cc mL rt fr lo K pc ls (a2 :: a1 :: st) m Q :=
  x_callS (as := [a1, a2]) hd hq hl hm hc rfl rfl hw hR (fun r m' h => by obtain ⟨rfl, rfl⟩ := h; exact kk)
theorem x_callV2n {a1 a2 : Value} {o ci : Nat} {y : MethodName} {cy : ByteArray} {nL idx f2 l2 : Nat} {ry : Option FieldType} {m1 : TM} (hd : decode cc pc = .ok (.invokevirtual idx, 3)) (hq : pc + 3 = q) (hl : Cond.methodLink own idx y ∈ WT) (hm : MV y cy nL ry 2) (hv : RV o ci) (hC : RR ci = y.cls) (hc : CT y cy nL ry f2 l2 K (.ref o :: [a1, a2]) m none m1) (hw : (st.map fun v => v.category).sum ≤ 8) (hR : f2 + 1 ≤ fr ∧ 8 + (nL + 11) + l2 ≤ lo) (kk : XX own cc mL rt fr lo K q ls st m1 Q) : XX own cc mL rt fr lo K pc ls (a2 :: a1 :: .ref o :: st) m Q :=
  x_callV (as := [a1, a2]) hd hq hl hm hv hC hc rfl rfl hw hR (fun r m' h => by obtain ⟨rfl, rfl⟩ := h; exact kk)
theorem x_callS3v {a1 a2 a3 : Value} {rv : Value} {y : MethodName} {cy : ByteArray} {nL idx f2 l2 : Nat} {ry : Option FieldType} {m1 : TM} (hd : decode cc pc = .ok (.invokestatic idx, 3)) (hq : pc + 3 = q) (hl : Cond.methodLink own idx y ∈ WT) (hm : MS y cy nL ry 3) (hc : CT y cy nL ry f2 l2 K [a1, a2, a3] m (some rv) m1) (hw : (st.map fun v => v.category).sum ≤ 8) (hR : f2 + 1 ≤ fr ∧ 8 + (nL + 11) + l2 ≤ lo) (kk : XX own cc mL rt fr lo K q ls (rv :: st) m1 Q) : XX own cc mL rt fr lo K pc ls (a3 :: a2 :: a1 :: st) m Q :=
  x_callS (as := [a1, a2, a3]) hd hq hl hm hc rfl rfl hw hR (fun r m' h => by obtain ⟨rfl, rfl⟩ := h; exact kk)
theorem x_callV3v {a1 a2 a3 : Value} {rv : Value} {o ci : Nat} {y : MethodName} {cy : ByteArray} {nL idx f2 l2 : Nat} {ry : Option FieldType} {m1 : TM} (hd : decode cc pc = .ok (.invokevirtual idx, 3)) (hq : pc + 3 = q) (hl : Cond.methodLink own idx y ∈ WT) (hm : MV y cy nL ry 3) (hv : RV o ci) (hC : RR ci = y.cls) (hc : CT y cy nL ry f2 l2 K (.ref o :: [a1, a2, a3]) m (some rv) m1) (hw : (st.map fun v => v.category).sum ≤ 8) (hR : f2 + 1 ≤ fr ∧ 8 + (nL + 11) + l2 ≤ lo) (kk : XX own cc mL rt fr lo K q ls (rv :: st) m1 Q) : XX own cc mL rt fr lo K pc ls (a3 :: a2 :: a1 :: .ref o :: st) m Q :=
  x_callV (as := [a1, a2, a3]) hd hq hl hm hv hC hc rfl rfl hw hR (fun r m' h => by obtain ⟨rfl, rfl⟩ := h; exact kk)
theorem x_callS3n {a1 a2 a3 : Value} {y : MethodName} {cy : ByteArray} {nL idx f2 l2 : Nat} {ry : Option FieldType} {m1 : TM} (hd : decode cc pc = .ok (.invokestatic idx, 3)) (hq : pc + 3 = q) (hl : Cond.methodLink own idx y ∈ WT) (hm : MS y cy nL ry 3) (hc : CT y cy nL ry f2 l2 K [a1, a2, a3] m none m1) (hw : (st.map fun v => v.category).sum ≤ 8) (hR : f2 + 1 ≤ fr ∧ 8 + (nL + 11) + l2 ≤ lo) (kk : XX own cc mL rt fr lo K q ls st m1 Q) : XX own cc mL rt fr lo K pc ls (a3 :: a2 :: a1 :: st) m Q :=
  x_callS (as := [a1, a2, a3]) hd hq hl hm hc rfl rfl hw hR (fun r m' h => by obtain ⟨rfl, rfl⟩ := h; exact kk)
theorem x_callV3n {a1 a2 a3 : Value} {o ci : Nat} {y : MethodName} {cy : ByteArray} {nL idx f2 l2 : Nat} {ry : Option FieldType} {m1 : TM} (hd : decode cc pc = .ok (.invokevirtual idx, 3)) (hq : pc + 3 = q) (hl : Cond.methodLink own idx y ∈ WT) (hm : MV y cy nL ry 3) (hv : RV o ci) (hC : RR ci = y.cls) (hc : CT y cy nL ry f2 l2 K (.ref o :: [a1, a2, a3]) m none m1) (hw : (st.map fun v => v.category).sum ≤ 8) (hR : f2 + 1 ≤ fr ∧ 8 + (nL + 11) + l2 ≤ lo) (kk : XX own cc mL rt fr lo K q ls st m1 Q) : XX own cc mL rt fr lo K pc ls (a3 :: a2 :: a1 :: .ref o :: st) m Q :=
  x_callV (as := [a1, a2, a3]) hd hq hl hm hv hC hc rfl rfl hw hR (fun r m' h => by obtain ⟨rfl, rfl⟩ := h; exact kk)
theorem x_callS4v {a1 a2 a3 a4 : Value} {rv : Value} {y : MethodName} {cy : ByteArray} {nL idx f2 l2 : Nat} {ry : Option FieldType} {m1 : TM} (hd : decode cc pc = .ok (.invokestatic idx, 3)) (hq : pc + 3 = q) (hl : Cond.methodLink own idx y ∈ WT) (hm : MS y cy nL ry 4) (hc : CT y cy nL ry f2 l2 K [a1, a2, a3, a4] m (some rv) m1) (hw : (st.map fun v => v.category).sum ≤ 8) (hR : f2 + 1 ≤ fr ∧ 8 + (nL + 11) + l2 ≤ lo) (kk : XX own cc mL rt fr lo K q ls (rv :: st) m1 Q) : XX own cc mL rt fr lo K pc ls (a4 :: a3 :: a2 :: a1 :: st) m Q :=
  x_callS (as := [a1, a2, a3, a4]) hd hq hl hm hc rfl rfl hw hR (fun r m' h => by obtain ⟨rfl, rfl⟩ := h; exact kk)
theorem x_callV4v {a1 a2 a3 a4 : Value} {rv : Value} {o ci : Nat} {y : MethodName} {cy : ByteArray} {nL idx f2 l2 : Nat} {ry : Option FieldType} {m1 : TM} (hd : decode cc pc = .ok (.invokevirtual idx, 3)) (hq : pc + 3 = q) (hl : Cond.methodLink own idx y ∈ WT) (hm : MV y cy nL ry 4) (hv : RV o ci) (hC : RR ci = y.cls) (hc : CT y cy nL ry f2 l2 K (.ref o :: [a1, a2, a3, a4]) m (some rv) m1) (hw : (st.map fun v => v.category).sum ≤ 8) (hR : f2 + 1 ≤ fr ∧ 8 + (nL + 11) + l2 ≤ lo) (kk : XX own cc mL rt fr lo K q ls (rv :: st) m1 Q) : XX own cc mL rt fr lo K pc ls (a4 :: a3 :: a2 :: a1 :: .ref o :: st) m Q :=
  x_callV (as := [a1, a2, a3, a4]) hd hq hl hm hv hC hc rfl rfl hw hR (fun r m' h => by obtain ⟨rfl, rfl⟩ := h; exact kk)
theorem x_callS4n {a1 a2 a3 a4 : Value} {y : MethodName} {cy : ByteArray} {nL idx f2 l2 : Nat} {ry : Option FieldType} {m1 : TM} (hd : decode cc pc = .ok (.invokestatic idx, 3)) (hq : pc + 3 = q) (hl : Cond.methodLink own idx y ∈ WT) (hm : MS y cy nL ry 4) (hc : CT y cy nL ry f2 l2 K [a1, a2, a3, a4] m none m1) (hw : (st.map fun v => v.category).sum ≤ 8) (hR : f2 + 1 ≤ fr ∧ 8 + (nL + 11) + l2 ≤ lo) (kk : XX own cc mL rt fr lo K q ls st m1 Q) : XX own cc mL rt fr lo K pc ls (a4 :: a3 :: a2 :: a1 :: st) m Q :=
  x_callS (as := [a1, a2, a3, a4]) hd hq hl hm hc rfl rfl hw hR (fun r m' h => by obtain ⟨rfl, rfl⟩ := h; exact kk)
theorem x_callV4n {a1 a2 a3 a4 : Value} {o ci : Nat} {y : MethodName} {cy : ByteArray} {nL idx f2 l2 : Nat} {ry : Option FieldType} {m1 : TM} (hd : decode cc pc = .ok (.invokevirtual idx, 3)) (hq : pc + 3 = q) (hl : Cond.methodLink own idx y ∈ WT) (hm : MV y cy nL ry 4) (hv : RV o ci) (hC : RR ci = y.cls) (hc : CT y cy nL ry f2 l2 K (.ref o :: [a1, a2, a3, a4]) m none m1) (hw : (st.map fun v => v.category).sum ≤ 8) (hR : f2 + 1 ≤ fr ∧ 8 + (nL + 11) + l2 ≤ lo) (kk : XX own cc mL rt fr lo K q ls st m1 Q) : XX own cc mL rt fr lo K pc ls (a4 :: a3 :: a2 :: a1 :: .ref o :: st) m Q :=
  x_callV (as := [a1, a2, a3, a4]) hd hq hl hm hv hC hc rfl rfl hw hR (fun r m' h => by obtain ⟨rfl, rfl⟩ := h; exact kk)
theorem x_callS5v {a1 a2 a3 a4 a5 : Value} {rv : Value} {y : MethodName} {cy : ByteArray} {nL idx f2 l2 : Nat} {ry : Option FieldType} {m1 : TM} (hd : decode cc pc = .ok (.invokestatic idx, 3)) (hq : pc + 3 = q) (hl : Cond.methodLink own idx y ∈ WT) (hm : MS y cy nL ry 5) (hc : CT y cy nL ry f2 l2 K [a1, a2, a3, a4, a5] m (some rv) m1) (hw : (st.map fun v => v.category).sum ≤ 8) (hR : f2 + 1 ≤ fr ∧ 8 + (nL + 11) + l2 ≤ lo) (kk : XX own cc mL rt fr lo K q ls (rv :: st) m1 Q) : XX own cc mL rt fr lo K pc ls (a5 :: a4 :: a3 :: a2 :: a1 :: st) m Q :=
  x_callS (as := [a1, a2, a3, a4, a5]) hd hq hl hm hc rfl rfl hw hR (fun r m' h => by obtain ⟨rfl, rfl⟩ := h; exact kk)
theorem x_callV5v {a1 a2 a3 a4 a5 : Value} {rv : Value} {o ci : Nat} {y : MethodName} {cy : ByteArray} {nL idx f2 l2 : Nat} {ry : Option FieldType} {m1 : TM} (hd : decode cc pc = .ok (.invokevirtual idx, 3)) (hq : pc + 3 = q) (hl : Cond.methodLink own idx y ∈ WT) (hm : MV y cy nL ry 5) (hv : RV o ci) (hC : RR ci = y.cls) (hc : CT y cy nL ry f2 l2 K (.ref o :: [a1, a2, a3, a4, a5]) m (some rv) m1) (hw : (st.map fun v => v.category).sum ≤ 8) (hR : f2 + 1 ≤ fr ∧ 8 + (nL + 11) + l2 ≤ lo) (kk : XX own cc mL rt fr lo K q ls (rv :: st) m1 Q) : XX own cc mL rt fr lo K pc ls (a5 :: a4 :: a3 :: a2 :: a1 :: .ref o :: st) m Q :=
  x_callV (as := [a1, a2, a3, a4, a5]) hd hq hl hm hv hC hc rfl rfl hw hR (fun r m' h => by obtain ⟨rfl, rfl⟩ := h; exact kk)
theorem x_callS5n {a1 a2 a3 a4 a5 : Value} {y : MethodName} {cy : ByteArray} {nL idx f2 l2 : Nat} {ry : Option FieldType} {m1 : TM} (hd : decode cc pc = .ok (.invokestatic idx, 3)) (hq : pc + 3 = q) (hl : Cond.methodLink own idx y ∈ WT) (hm : MS y cy nL ry 5) (hc : CT y cy nL ry f2 l2 K [a1, a2, a3, a4, a5] m none m1) (hw : (st.map fun v => v.category).sum ≤ 8) (hR : f2 + 1 ≤ fr ∧ 8 + (nL + 11) + l2 ≤ lo) (kk : XX own cc mL rt fr lo K q ls st m1 Q) : XX own cc mL rt fr lo K pc ls (a5 :: a4 :: a3 :: a2 :: a1 :: st) m Q :=
  x_callS (as := [a1, a2, a3, a4, a5]) hd hq hl hm hc rfl rfl hw hR (fun r m' h => by obtain ⟨rfl, rfl⟩ := h; exact kk)
theorem x_callV5n {a1 a2 a3 a4 a5 : Value} {o ci : Nat} {y : MethodName} {cy : ByteArray} {nL idx f2 l2 : Nat} {ry : Option FieldType} {m1 : TM} (hd : decode cc pc = .ok (.invokevirtual idx, 3)) (hq : pc + 3 = q) (hl : Cond.methodLink own idx y ∈ WT) (hm : MV y cy nL ry 5) (hv : RV o ci) (hC : RR ci = y.cls) (hc : CT y cy nL ry f2 l2 K (.ref o :: [a1, a2, a3, a4, a5]) m none m1) (hw : (st.map fun v => v.category).sum ≤ 8) (hR : f2 + 1 ≤ fr ∧ 8 + (nL + 11) + l2 ≤ lo) (kk : XX own cc mL rt fr lo K q ls st m1 Q) : XX own cc mL rt fr lo K pc ls (a5 :: a4 :: a3 :: a2 :: a1 :: .ref o :: st) m Q :=
  x_callV (as := [a1, a2, a3, a4, a5]) hd hq hl hm hv hC hc rfl rfl hw hR (fun r m' h => by obtain ⟨rfl, rfl⟩ := h; exact kk)
theorem x_callT0v {rv : Value} {k : Nat} {y : MethodName} {cy : ByteArray} {nL idx f2 l2 : Nat} {ry : Option FieldType} {m1 : TM} (hd : decode cc pc = .ok (.invokevirtual idx, 3)) (hq : pc + 3 = q) (hl : Cond.methodLink own idx y ∈ WT) (hm : MV y cy nL ry 0) (hk : k < 13) (hC : "java/lang/String" = y.cls) (hc : CT y cy nL ry f2 l2 K (.ref (100 + k) :: []) m (some rv) m1) (hw : (st.map fun v => v.category).sum ≤ 8) (hR : f2 + 1 ≤ fr ∧ 8 + (nL + 11) + l2 ≤ lo) (kk : XX own cc mL rt fr lo K q ls (rv :: st) m1 Q) : XX own cc mL rt fr lo K pc ls (.ref (100 + k) :: st) m Q :=
  x_callT (as := []) hd hq hl hm hk hC hc rfl rfl hw hR (fun r m' h => by obtain ⟨rfl, rfl⟩ := h; exact kk)
theorem x_callT1v {a1 : Value} {rv : Value} {k : Nat} {y : MethodName} {cy : ByteArray} {nL idx f2 l2 : Nat} {ry : Option FieldType} {m1 : TM} (hd : decode cc pc = .ok (.invokevirtual idx, 3)) (hq : pc + 3 = q) (hl : Cond.methodLink own idx y ∈ WT) (hm : MV y cy nL ry 1) (hk : k < 13) (hC : "java/lang/String" = y.cls) (hc : CT y cy nL ry f2 l2 K (.ref (100 + k) :: [a1]) m (some rv) m1) (hw : (st.map fun v => v.category).sum ≤ 8) (hR : f2 + 1 ≤ fr ∧ 8 + (nL + 11) + l2 ≤ lo) (kk : XX own cc mL rt fr lo K q ls (rv :: st) m1 Q) : XX own cc mL rt fr lo K pc ls (a1 :: .ref (100 + k) :: st) m Q :=
  x_callT (as := [a1]) hd hq hl hm hk hC hc rfl rfl hw hR (fun r m' h => by obtain ⟨rfl, rfl⟩ := h; exact kk)
end CALLS
/-! a contract out of a walk -/
theorem wf_vals : ∀ (vs : List Value) (k : Nat), (∀ v ∈ vs, v.category = 1) → lv_wf ((vs.map Slot.val ++ List.replicate k Slot.unset).toArray) := by
  intro vs k h
  refine ⟨fun i v hv hc => ?_, fun i hi => ?_⟩
  · rw [List.getElem?_toArray] at hv
    by_cases hl : i < vs.length
    · rw [List.getElem?_append_left (by simpa using hl), List.getElem?_map] at hv
      cases hz : vs[i]? with
      | none => rw [hz] at hv; cases hv
      | some w =>
        rw [hz] at hv
        cases hv
        have := h v (List.mem_of_getElem? hz)
        omega
    · rw [List.getElem?_append_right (by simpa using hl)] at hv
      have := List.mem_of_getElem? hv
      rw [List.mem_replicate] at this
      cases this.2
  · rw [List.getElem?_toArray] at hi
    have := List.mem_of_getElem? hi
    rcases List.mem_append.mp this with h1 | h1
    · obtain ⟨w, -, hw⟩ := List.mem_map.mp h1
      cases hw
    · rw [List.mem_replicate] at h1
      cases h1.2
theorem ct_of {y : MethodName} {cc : ByteArray} {mL fr lo : Nat} {rt : Option FieldType} {K : Cx} {as : List Value} {m : TM} {Q : Option Value → TM → Prop} (hy : plainName y.cls = true) (hcat : ∀ v ∈ as, v.category = 1) (hlen : as.length ≤ mL) (h : XX y.cls cc mL rt fr lo K 0 (as.map some) [] m Q) : CQ y cc mL rt fr lo K as m Q := by
  refine Met.ofW (cc := cc) (maxL := mL) (ret := rt) hy rfl ?_
  intro p e s mi args below meth c s₁ B hml hv
  obtain ⟨rfl, hP, hD, hK, hSk⟩ := hv
  have hts := atoms_spec (ws := Cond.code y cc mL rt :: WT) B.pre
  have hown : s.vm.findClass y.cls = some mi.cls := findClass_of_methodNamed B.named
  have hcat2 : ∀ v ∈ as.map (vmp K), v.category = 1 := fun v hv => by
    obtain ⟨w, hw, rfl⟩ := List.mem_map.mp hv
    rw [vmp_cat]
    exact hcat w hw
  rw [entry_eq mi (as.map (vmp K)) hcat2]
  refine h p e s mi _ below meth c s.heap [] _ ⟨B.exec, B.bytes, B.returns, hml, hown, fun w hw => hts w (List.mem_cons_of_mem _ hw), B.notSynchronized, hK, hSk⟩ hP hD va_S.rf ?_
  refine ⟨by simp; omega, wf_vals _ _ hcat2, fun q hq => ?_⟩
  obtain ⟨v, hv, h2⟩ := lvOf_mem.mp hq
  rw [List.getElem?_map] at hv
  cases hz : as[q.1]? with
  | none => rw [hz] at hv; cases hv
  | some w =>
    rw [hz] at hv
    cases hv
    have hl : q.1 < as.length := (List.getElem?_eq_some_iff.mp hz).1
    rw [List.getElem?_toArray, List.getElem?_append_left (by simpa using hl), List.getElem?_map, List.getElem?_map, hz, h2]
    rfl
/-- locals beyond the arguments are unset at first -/
theorem x_pad {own : String} {cc : ByteArray} {mL : Nat} {rt : Option FieldType} {fr lo : Nat} {K : Cx} {pc : Nat} {ls : List (Option Value)} {st : List Value} {m : TM} {Q : Option Value → TM → Prop} (n : Nat) (h : XX own cc mL rt fr lo K pc (ls ++ List.replicate n none) st m Q) : XX own cc mL rt fr lo K pc ls st m Q := by
  intro p e s mi args below meth c H locs arr C hP hD hS hL
  refine h p e s mi args below meth c H locs arr C hP hD hS (lv_mono hL fun q hq => ?_)
  obtain ⟨v, hv, h2⟩ := lvOf_mem.mp hq
  refine lvOf_mem.mpr ⟨v, ?_, h2⟩
  by_cases hl : q.1 < ls.length
  · rwa [List.getElem?_append_left hl] at hv
  · rw [List.getElem?_append_right (by omega)] at hv
    have := List.mem_of_getElem? hv
    rw [List.mem_replicate] at this
    cases this.2
/-- fewer known locals -/
theorem x_sub {own : String} {cc : ByteArray} {mL : Nat} {rt : Option FieldType} {fr lo : Nat} {K : Cx} {pc : Nat} {ls : List (Option Value)} {st : List Value} {m : TM} {Q : Option Value → TM → Prop} (ls2 : List (Option Value)) (hs : ∀ (i : Nat) (v : Value), ls2[i]? = some (some v) → ls[i]? = some (some v)) (h : XX own cc mL rt fr lo K pc ls2 st m Q) : XX own cc mL rt fr lo K pc ls st m Q := by
  intro p e s mi args below meth c H locs arr C hP hD hS hL
  refine h p e s mi args below meth c H locs arr C hP hD hS (lv_mono hL fun q hq => ?_)
  obtain ⟨v, hv, h2⟩ := lvOf_mem.mp hq
  exact lvOf_mem.mpr ⟨v, hs _ _ hv, h2⟩
end
section
/-! the shapes of the world, by name -/
def isC (b : Nat) : Prop := b = 1 ∨ b = 13 ∨ b = 25
theorem isC_1 : isC 1 := Or.inl rfl
theorem isC_13 : isC 13 := Or.inr (Or.inl rfl)
theorem isC_25 : isC 25 := Or.inr (Or.inr rfl)
theorem ob0_late {b : Nat} (h : isC b) : OB b 0 1 b 4 := by rcases h with rfl | rfl | rfl <;> (unfold OB; decide)
theorem ob0_storm {b : Nat} (h : isC b) : OB b 0 2 b 5 := by rcases h with rfl | rfl | rfl <;> (unfold OB; decide)
theorem ob0_amber {b : Nat} (h : isC b) : OB b 0 3 b 3 := by rcases h with rfl | rfl | rfl <;> (unfold OB; decide)
theorem ob0_day {b : Nat} (h : isC b) : OB b 0 4 b 0 := by rcases h with rfl | rfl | rfl <;> (unfold OB; decide)
theorem ob0_z {b : Nat} (h : isC b) : OB b 0 5 b 2 := by rcases h with rfl | rfl | rfl <;> (unfold OB; decide)
theorem ob0_laid {b : Nat} (h : isC b) : OB b 0 6 b 1 := by rcases h with rfl | rfl | rfl <;> (unfold OB; decide)
theorem or0_list {b : Nat} (h : isC b) : OR b 0 0 (b + 1) := by rcases h with rfl | rfl | rfl <;> (unfold OR; decide)
theorem or0_slip {b : Nat} (h : isC b) : OR b 0 7 (b + 2) := by rcases h with rfl | rfl | rfl <;> (unfold OR; decide)
theorem or0_spots {b : Nat} (h : isC b) : OR b 0 8 (b + 3) := by rcases h with rfl | rfl | rfl <;> (unfold OR; decide)
theorem ar_list {b : Nat} (h : isC b) : AR (b + 1) 8 6 b 6 := by rcases h with rfl | rfl | rfl <;> (unfold AR; decide)
theorem ar_spots {b : Nat} (h : isC b) : AR (b + 3) 8 10 b 68 := by rcases h with rfl | rfl | rfl <;> (unfold AR; decide)
theorem ra_list {b : Nat} (h : isC b) : RA (b + 1) 8 6 := by rcases h with rfl | rfl | rfl <;> (unfold RA; decide)
theorem ra_spots {b : Nat} (h : isC b) : RA (b + 3) 8 10 := by rcases h with rfl | rfl | rfl <;> (unfold RA; decide)
theorem ra_slip {b : Nat} (h : isC b) : RA (b + 2) 9 8 := by rcases h with rfl | rfl | rfl <;> (unfold RA; decide)
theorem rv0 {b : Nat} (h : isC b) : RV b 0 := by rcases h with rfl | rfl | rfl <;> (unfold RV; decide)
theorem ob1_1 : ∀ k, k < 8 → ∀ f, f < 7 → OB (1 + 4 + k) 1 f 1 (12 + 7 * k + f) := by unfold OB; decide
theorem ob1_13 : ∀ k, k < 8 → ∀ f, f < 7 → OB (13 + 4 + k) 1 f 13 (12 + 7 * k + f) := by unfold OB; decide
theorem ob1_25 : ∀ k, k < 8 → ∀ f, f < 7 → OB (25 + 4 + k) 1 f 25 (12 + 7 * k + f) := by unfold OB; decide
theorem ob1 {b k : Nat} (h : isC b) (hk : k < 8) (f : Nat) (hf : f < 7) : OB (b + 4 + k) 1 f b (12 + 7 * k + f) := by
  rcases h with rfl | rfl | rfl
  · exact ob1_1 k hk f hf
  · exact ob1_13 k hk f hf
  · exact ob1_25 k hk f hf
theorem rv1 {b k : Nat} (h : isC b) (hk : k < 8) : RV (b + 4 + k) 1 := by
  obtain ⟨h1, h2, h3, -⟩ := ob1 h hk 0 (by decide)
  exact ⟨h1, h2, h3⟩
theorem ob2_bits {s : Nat} (h : s < 4) : OB (41 + 2 * s) 2 0 41 s := by
  have key : ∀ s, s < 4 → OB (41 + 2 * s) 2 0 41 s := by unfold OB; decide
  exact key s h
theorem ob2_len {s : Nat} (h : s < 4) : OB (41 + 2 * s) 2 1 42 s := by
  have key : ∀ s, s < 4 → OB (41 + 2 * s) 2 1 42 s := by unfold OB; decide
  exact key s h
theorem or2_num {s : Nat} (h : s < 4) : OR (41 + 2 * s) 2 2 (42 + 2 * s) := by
  have key : ∀ s, s < 4 → OR (41 + 2 * s) 2 2 (42 + 2 * s) := by unfold OR; decide
  exact key s h
theorem ar_num {s : Nat} (h : s < 4) : AR (42 + 2 * s) 8 40 43 (40 * s) := by
  have key : ∀ s, s < 4 → AR (42 + 2 * s) 8 40 43 (40 * s) := by unfold AR; decide
  exact key s h
theorem ra_num {s : Nat} (h : s < 4) : RA (42 + 2 * s) 8 40 := ⟨(ar_num h).1, (ar_num h).2.1, (ar_num h).2.2.1⟩
theorem rv2 {s : Nat} (h : s < 4) : RV (41 + 2 * s) 2 := ⟨(ob2_bits h).1, (ob2_bits h).2.1, by decide⟩
theorem ob3_length : OB 37 3 1 37 1 := by unfold OB; decide
theorem ob3_sort : OB 37 3 2 37 2 := by unfold OB; decide
theorem ob3_start : OB 37 3 3 37 3 := by unfold OB; decide
theorem ob3_end : OB 37 3 4 37 4 := by unfold OB; decide
theorem ob3_value : OB 37 3 5 37 5 := by unfold OB; decide
theorem or3_bytes : OR 37 3 0 38 := by unfold OR; decide
theorem ar_38 : AR 38 6 120 38 0 := by unfold AR; decide
theorem ra_38 : RA 38 6 120 := by unfold RA; decide
theorem rv3 : RV 37 3 := by unfold RV; decide
theorem ob4_keeps : OB 0 4 3 0 3 := by unfold OB; decide
theorem or4_coast : OR 0 4 0 1 := by unfold OR; decide
theorem or4_trial : OR 0 4 1 13 := by unfold OR; decide
theorem or4_kept : OR 0 4 2 25 := by unfold OR; decide
theorem or4_tape : OR 0 4 4 37 := by unfold OR; decide
theorem or4_sheets : OR 0 4 5 39 := by unfold OR; decide
theorem or4_found : OR 0 4 6 40 := by unfold OR; decide
theorem rv4 : RV 0 4 := by unfold RV; decide
theorem ra_39 : RA 39 10 4 := by unfold RA; decide
theorem ar_40 : AR 40 8 7 40 0 := by unfold AR; decide
theorem ra_40 : RA 40 8 7 := by unfold RA; decide
theorem rv5 : RV 49 5 := by unfold RV; decide
theorem ob5_isKept : OB 49 5 3 49 3 := by unfold OB; decide
theorem ob5_taped : OB 49 5 6 49 6 := by unfold OB; decide
theorem ob5_token : OB 49 5 7 49 7 := by unfold OB; decide
theorem ob5_begun : OB 49 5 8 49 8 := by unfold OB; decide
theorem ob5_ended : OB 49 5 9 49 9 := by unfold OB; decide
theorem or5_s : OR 49 5 0 50 := by unfold OR; decide
theorem or5_kept : OR 49 5 1 51 := by unfold OR; decide
theorem or5_aside : OR 49 5 2 52 := by unfold OR; decide
theorem or5_found : OR 49 5 4 53 := by unfold OR; decide
theorem or5_tape : OR 49 5 5 54 := by unfold OR; decide
theorem or5_letters : OR 49 5 11 55 := by unfold OR; decide
theorem or5_more : OR 49 5 12 56 := by unfold OR; decide
theorem or5_others : OR 49 5 13 57 := by unfold OR; decide
theorem or5_widths : OR 49 5 14 58 := by unfold OR; decide
theorem or5_sizes : OR 49 5 15 59 := by unfold OR; decide
theorem or5_cells : OR 49 5 16 60 := by unfold OR; decide
theorem or5_carried : OR 49 5 17 61 := by unfold OR; decide
theorem ar_50 : AR 50 8 78 50 0 := by unfold AR; decide
theorem ar_51 : AR 51 8 78 51 0 := by unfold AR; decide
theorem ar_52 : AR 52 8 78 52 0 := by unfold AR; decide
theorem ar_53 : AR 53 8 7 53 0 := by unfold AR; decide
theorem ar_54 : AR 54 8 120 54 0 := by unfold AR; decide
theorem ar_55 : AR 55 7 70 55 0 := by unfold AR; decide
theorem ar_56 : AR 56 7 40 56 0 := by unfold AR; decide
theorem ar_57 : AR 57 7 20 57 0 := by unfold AR; decide
theorem ar_58 : AR 58 8 4 58 0 := by unfold AR; decide
theorem ar_59 : AR 59 8 4 59 0 := by unfold AR; decide
theorem ar_60 : AR 60 8 160 60 0 := by unfold AR; decide
theorem ar_61 : AR 61 8 40 61 0 := by unfold AR; decide
theorem ra_55 : RA 55 7 70 := by unfold RA; decide
theorem ra_56 : RA 56 7 40 := by unfold RA; decide
theorem ra_57 : RA 57 7 20 := by unfold RA; decide
theorem sr_self {m : TM} {r : Nat} : sr m r (m.1 r) = m := by
  unfold sr
  refine Prod.ext (funext fun a => funext fun b => ?_) rfl
  by_cases h : a = r
  · subst h; simp
  · simp [h]
theorem sr_at {m : TM} {r : Nat} {f : Nat → Int32} : (sr m r f).1 r = f := by funext b; simp [sr]
theorem sr_ne {m : TM} {r r' : Nat} {f : Nat → Int32} (h : r' ≠ r) : (sr m r f).1 r' = m.1 r' := by funext b; simp [sr, h]
theorem sr_sr {m : TM} {r : Nat} {f g : Nat → Int32} : sr (sr m r f) r g = sr m r g := by
  unfold sr
  refine Prod.ext (funext fun a => funext fun b => ?_) rfl
  by_cases h : a = r <;> simp [h]
theorem st1_sr {m : TM} {r i : Nat} {f : Nat → Int32} {x : Int32} : st1 (sr m r f) r i x = sr m r (upd f i x) := by
  unfold sr st1 upd
  refine Prod.ext (funext fun a => funext fun b => ?_) rfl
  by_cases h : a = r <;> by_cases h2 : b = i <;> simp [h, h2]
theorem st1_eq {m : TM} {r i : Nat} {x : Int32} : st1 m r i x = sr m r (upd (m.1 r) i x) := by
  have h := st1_sr (m := m) (r := r) (i := i) (f := m.1 r) (x := x)
  rwa [sr_self] at h
theorem upd_self {f : Nat → Int32} {i : Nat} {x : Int32} : upd f i x i = x := if_pos rfl
theorem upd_ne {f : Nat → Int32} {i j : Nat} {x : Int32} (h : j ≠ i) : upd f i x j = f j := if_neg h
section ROWS
variable {own : String} {cc : ByteArray} {mL : Nat} {rt : Option FieldType} {fr lo : Nat} {K : Cx} {pc q : Nat} {ls : List (Option Value)} {st : List Value} {m : TM} {Q : Option Value → TM → Prop} {b : Nat} {s : Nat → Int32}
theorem x_slip {i : Int32} {j : Nat} (hd : decode cc pc = .ok (.aaload, 1)) (hq : pc + 1 = q) (hb : isC b) (hj : IX i j 8) (kk : XX own cc mL rt fr lo K q ls (.ref (b + 4 + j) :: st) m Q) : XX own cc mL rt fr lo K pc ls (.int i :: .ref (b + 2) :: st) m Q :=
  x_aald hd hq (ra_slip hb) (Or.inl rfl) hj (by simp [rfa]) (rv1 hb hj.2.2).1 kk
theorem x_sheet {i : Int32} {j : Nat} (hd : decode cc pc = .ok (.aaload, 1)) (hq : pc + 1 = q) (hj : IX i j 4) (kk : XX own cc mL rt fr lo K q ls (.ref (41 + 2 * j) :: st) m Q) : XX own cc mL rt fr lo K pc ls (.int i :: .ref 39 :: st) m Q :=
  x_aald hd hq ra_39 (Or.inr rfl) hj (by simp [rfa]) (rv2 hj.2.2).1 kk
/-! the same, of a memory whose row b is s -/
theorem x_getIr {o ci k idx x : Nat} (hd : decode cc pc = .ok (.getfield idx, 3)) (hq : pc + 3 = q) (hf : FL own idx ci k) (ho : OB o ci k b x) (kk : XX own cc mL rt fr lo K q ls (.int (s x) :: st) (sr m b s) Q) : XX own cc mL rt fr lo K pc ls (.ref o :: st) (sr m b s) Q :=
  x_getI hd hq hf ho (by rw [sr_at]; exact kk)
theorem x_putIr {o ci k idx x : Nat} {v : Int32} (hd : decode cc pc = .ok (.putfield idx, 3)) (hq : pc + 3 = q) (hf : FL own idx ci k) (ho : OB o ci k b x) (hfin : (TT ci k).2.2.2 = false) (hn : narrow (tyT ci k) (.int v) = .int v) (hfit : fits (tyT ci k) (.int v) = true) (kk : XX own cc mL rt fr lo K q ls st (sr m b (upd s x v)) Q) : XX own cc mL rt fr lo K pc ls (.int v :: .ref o :: st) (sr m b s) Q :=
  x_putI hd hq hf ho hfin hn hfit st1_sr kk
theorem x_ialdr {o n off j x : Nat} {i : Int32} (hd : decode cc pc = .ok (.iaload, 1)) (hq : pc + 1 = q) (ha : AR o 8 n b off) (hj : IX i j n) (hx : off + j = x) (kk : XX own cc mL rt fr lo K q ls (.int (s x) :: st) (sr m b s) Q) : XX own cc mL rt fr lo K pc ls (.int i :: .ref o :: st) (sr m b s) Q :=
  x_iald hd hq ha hj hx (by rw [sr_at]; exact kk)
theorem x_iastr {o n off j x : Nat} {i v : Int32} (hd : decode cc pc = .ok (.iastore, 1)) (hq : pc + 1 = q) (ha : AR o 8 n b off) (hj : IX i j n) (hx : off + j = x) (kk : XX own cc mL rt fr lo K q ls st (sr m b (upd s x v)) Q) : XX own cc mL rt fr lo K pc ls (.int v :: .int i :: .ref o :: st) (sr m b s) Q :=
  x_iast hd hq ha hj hx st1_sr kk
end ROWS
/-! places in arrays -/
theorem jnI_toInt {k : Nat} (h : k < 2147483648) : (nI k).toInt = k := nI_toInt h
theorem jnI_clamp {k : Nat} (h : k < 2147483648) : (nI k).toNatClampNeg = k := by
  show (nI k).toInt.toNat = k
  rw [jnI_toInt h]
  rfl
theorem jnI_nneg {k : Nat} (h : k < 2147483648) : ¬ nI k < 0 := by
  rw [Int32.lt_iff_toInt_lt, jnI_toInt h]
  show ¬ (k : Int) < 0
  omega
theorem ix_nI {k n : Nat} (h : k < n) (hn : n < 2147483648) : IX (nI k) k n := ⟨jnI_nneg (by omega), jnI_clamp (by omega), h⟩
theorem toInt_clamp {i : Int32} (h : ¬ i < 0) : (i.toNatClampNeg : Int) = i.toInt := by
  rw [Int32.lt_iff_toInt_lt] at h
  have h0 : ¬ i.toInt < 0 := h
  show ((i.toInt.toNat : Nat) : Int) = i.toInt
  omega
theorem jnI_of {i : Int32} (h : ¬ i < 0) : i = nI i.toNatClampNeg := by
  apply Int32.toInt_inj.mp
  have h1 := toInt_clamp h
  have h2 : i.toInt < 2147483648 := by
    have := i.toInt_lt
    simpa using this
  rw [jnI_toInt (by omega)]
  exact h1.symm
/-- an index between 0 and a literal bound -/
theorem ix_le {i c : Int32} {n : Nat} (h0 : ¬ i < 0) (h1 : ¬ c < i) (hc : c.toInt < n) : IX i i.toNatClampNeg n := by
  refine ⟨h0, rfl, ?_⟩
  rw [Int32.lt_iff_toInt_lt] at h1
  have := toInt_clamp h0
  omega
theorem jnI_s (k : Nat) : nI k + Int32.ofInt 1 = nI (k + 1) := by
  unfold nI
  apply Int32.toInt_inj.mp
  simp [Int32.toInt_add, Int32.toInt_ofNat]
theorem jnI_lt {a b : Nat} (ha : a < 2147483648) (hb : b < 2147483648) : nI a < nI b ↔ a < b := by
  rw [Int32.lt_iff_toInt_lt, jnI_toInt ha, jnI_toInt hb]
  omega
theorem jnI_le' {a b : Nat} (ha : a < 2147483648) (hb : b < 2147483648) : nI a ≤ nI b ↔ a ≤ b := by
  rw [Int32.le_iff_toInt_le, jnI_toInt ha, jnI_toInt hb]
  omega
theorem jnI_inj {a b : Nat} (ha : a < 2147483648) (hb : b < 2147483648) : nI a = nI b ↔ a = b := by
  constructor
  · intro h
    have := congrArg Int32.toInt h
    rw [jnI_toInt ha, jnI_toInt hb] at this
    omega
  · rintro rfl; rfl
end
section
theorem ct_ofd {y : MethodName} {cc : ByteArray} {mL fr lo n : Nat} {rt : Option FieldType} {K : Cx} {as : List Value} {m m1 : TM} {r : Option Value} (hy : plainName y.cls = true) (hcat : as.all (fun v => v.category == 1) = true) (hlen : as.length + n = mL) (h : XX y.cls cc mL rt fr lo K 0 (as.map some ++ List.replicate n none) [] m (fun r1 m2 => r1 = r ∧ m2 = m1)) : CT y cc mL rt fr lo K as m r m1 :=
  ct_of hy (fun v hv => by simpa using List.all_eq_true.mp hcat v hv) (by omega) (x_pad n h)
theorem bI_narrow (b : Bool) : narrow .boolean (.int (bI b)) = .int (bI b) := by cases b <;> decide
def minI (a b : Int32) : Int32 := if b < a then b else a
def outI (v l h : Int32) : Bool := decide (v < l) || decide (h < v)
def inI (v l h : Int32) : Bool := !decide (v < l) && !decide (h < v)
theorem inI_out {v l h : Int32} : inI v l h = !outI v l h := by simp [inI, outI]
theorem jnI_mul (a b : Nat) : nI a * nI b = nI (a * b) := by
  unfold nI
  exact (Int32.ofNat_mul a b).symm
theorem par_ix (k f : Nat) : (12 : Int32) + 7 * nI k + nI f = nI (12 + 7 * k + f) := by
  rw [show (12 : Int32) = nI 12 from rfl, show (7 : Int32) = nI 7 from rfl, jnI_mul, nI_add, nI_add]
theorem ix_par {k f : Nat} (hk : k < 8) (hf : f < 7) : IX ((12 : Int32) + 7 * nI k + nI f) (12 + 7 * k + f) 78 := by
  rw [par_ix]
  exact ix_nI (by omega) (by decide)
theorem mm_code : Cond.code Lib.Math.min.name Lib.Math.min.code 2 (some .int) ∈ WT := mw 350 (by decide +kernel) (by decide +kernel)
section MM
variable {own : String} {cc : ByteArray} {mL : Nat} {rt : Option FieldType} {fr lo : Nat} {K : Cx} {pc q : Nat} {ls : List (Option Value)} {st : List Value} {m : TM} {Q : Option Value → TM → Prop}
theorem x_mmin {x y : Int32} {idx : Nat} (hd : decode cc pc = .ok (.invokestatic idx, 3)) (hq : pc + 3 = q) (hl : Cond.methodLink own idx yJ9_min_7cf53 ∈ WT) (hR : 1 ≤ fr ∧ (st.map fun v => v.category).sum + 13 ≤ lo) (kk : XX own cc mL rt fr lo K q ls (.int (minI x y) :: st) m Q) : XX own cc mL rt fr lo K pc ls (.int y :: .int x :: st) m Q := by
  subst hq
  intro p e s mi args below meth c H locs arr C hP hD hS hL
  have hts := C.2.2.2.2.2.1
  exact va_mmin C.1 C.2.1 (C.2.2.2.1.trans hL.len.symm) C.2.2.2.2.1 (hts _ hl) (hts _ ms_J9_min_7cf53.1) (hts _ ms_J9_min_7cf53.2.1) (hts _ mm_code) hR.1 (by rw [cat_sum]; exact hR.2) (Nat.le_refl _) (Nat.le_refl _) hd (kk p e s mi args below meth c H locs arr C hP hD hS hL)
end MM
theorem dX5_in1_0 : decode cX5_in1 0 = .ok (.iload_n 0, 1) := by decide +kernel
theorem dX5_in1_1 : decode cX5_in1 1 = .ok (.iload_n 1, 1) := by decide +kernel
theorem dX5_in1_2 : decode cX5_in1 2 = .ok (.if_icmp .lt 12, 3) := by decide +kernel
theorem dX5_in1_5 : decode cX5_in1 5 = .ok (.iload_n 0, 1) := by decide +kernel
theorem dX5_in1_6 : decode cX5_in1 6 = .ok (.iload_n 2, 1) := by decide +kernel
theorem dX5_in1_7 : decode cX5_in1 7 = .ok (.if_icmp .gt 7, 3) := by decide +kernel
theorem dX5_in1_10 : decode cX5_in1 10 = .ok (.iconst 1, 1) := by decide +kernel
theorem dX5_in1_11 : decode cX5_in1 11 = .ok (.goto 4, 3) := by decide +kernel
theorem dX5_in1_14 : decode cX5_in1 14 = .ok (.iconst 0, 1) := by decide +kernel
theorem dX5_in1_15 : decode cX5_in1 15 = .ok (.ireturn, 1) := by decide +kernel
set_option maxRecDepth 20000 in
set_option maxHeartbeats 4000000 in
theorem c_X5_in1 {K : Cx} {v l h : Int32} {m : TM} : CT yX5_in1 cX5_in1 3 (some .boolean) 0 0 K [.int v, .int l, .int h] (m) (some (.int (bI (inI v l h)))) (m) := by
  refine ct_ofd (n := 0) (by decide +kernel) rfl rfl ?_
  show XX RX5 cX5_in1 3 (some .boolean) 0 0 K 0 [some (.int v), some (.int l), some (.int h)] [] (m) (fun r1 m1 => r1 = (some (.int (bI (inI v l h)))) ∧ m1 = m)
  refine x_iload_n (q := 1) dX5_in1_0 rfl rfl ?_
  refine x_iload_n (q := 2) dX5_in1_1 rfl rfl ?_
  refine x_icmp_lt (q := 5) (t := 14) dX5_in1_2 rfl (by decide) (fun h2 => ?_) (fun h2 => ?_)
  · refine x_iconst (q := 15) (v := 0) dX5_in1_14 rfl (by decide) ?_
    refine x_ireturn dX5_in1_15 rfl (by decide) ?_
    exact ⟨by simp [inI, bI, *], rfl⟩
  refine x_iload_n (q := 6) dX5_in1_5 rfl rfl ?_
  refine x_iload_n (q := 7) dX5_in1_6 rfl rfl ?_
  refine x_icmp_gt (q := 10) (t := 14) dX5_in1_7 rfl (by decide) (fun h7 => ?_) (fun h7 => ?_)
  · refine x_iconst (q := 15) (v := 0) dX5_in1_14 rfl (by decide) ?_
    refine x_ireturn dX5_in1_15 rfl (by decide) ?_
    exact ⟨by simp [inI, bI, *], rfl⟩
  refine x_iconst (q := 11) (v := 1) dX5_in1_10 rfl (by decide) ?_
  refine x_goto (q := 15) dX5_in1_11 (by decide) ?_
  refine x_ireturn dX5_in1_15 rfl (by decide) ?_
  exact ⟨by simp [inI, bI, *], rfl⟩
theorem dX5_less_0 : decode cX5_less 0 = .ok (.iload_n 0, 1) := by decide +kernel
theorem dX5_less_1 : decode cX5_less 1 = .ok (.iload_n 1, 1) := by decide +kernel
theorem dX5_less_2 : decode cX5_less 2 = .ok (.if_icmp .ge 7, 3) := by decide +kernel
theorem dX5_less_5 : decode cX5_less 5 = .ok (.iload_n 0, 1) := by decide +kernel
theorem dX5_less_6 : decode cX5_less 6 = .ok (.goto 4, 3) := by decide +kernel
theorem dX5_less_9 : decode cX5_less 9 = .ok (.iload_n 1, 1) := by decide +kernel
theorem dX5_less_10 : decode cX5_less 10 = .ok (.ireturn, 1) := by decide +kernel
set_option maxRecDepth 20000 in
set_option maxHeartbeats 4000000 in
theorem c_X5_less {K : Cx} {a b : Int32} {m : TM} : CT yX5_less cX5_less 2 (some .int) 0 0 K [.int a, .int b] (m) (some (.int (minI b a))) (m) := by
  refine ct_ofd (n := 0) (by decide +kernel) rfl rfl ?_
  show XX RX5 cX5_less 2 (some .int) 0 0 K 0 [some (.int a), some (.int b)] [] (m) (fun r1 m1 => r1 = (some (.int (minI b a))) ∧ m1 = m)
  refine x_iload_n (q := 1) dX5_less_0 rfl rfl ?_
  refine x_iload_n (q := 2) dX5_less_1 rfl rfl ?_
  refine x_icmp_ge (q := 5) (t := 9) dX5_less_2 rfl (by decide) (fun h2 => ?_) (fun h2 => ?_)
  · refine x_iload_n (q := 10) dX5_less_9 rfl rfl ?_
    refine x_ireturn dX5_less_10 rfl rfl ?_
    exact ⟨by first | (simp [minI, Int32.not_lt.mpr h2]; done) | simp [minI, Int32.not_le.mp h2], rfl⟩
  refine x_iload_n (q := 6) dX5_less_5 rfl rfl ?_
  refine x_goto (q := 10) dX5_less_6 (by decide) ?_
  refine x_ireturn dX5_less_10 rfl rfl ?_
  exact ⟨by first | (simp [minI, Int32.not_lt.mpr h2]; done) | simp [minI, Int32.not_le.mp h2], rfl⟩
theorem dX5_isLine_0 : decode cX5_isLine 0 = .ok (.iload_n 0, 1) := by decide +kernel
theorem dX5_isLine_1 : decode cX5_isLine 1 = .ok (.iconst 0, 1) := by decide +kernel
theorem dX5_isLine_2 : decode cX5_isLine 2 = .ok (.bipush 20, 2) := by decide +kernel
theorem dX5_isLine_4 : decode cX5_isLine 4 = .ok (.invokestatic 48, 3) := by decide +kernel
theorem dX5_isLine_7 : decode cX5_isLine 7 = .ok (.ireturn, 1) := by decide +kernel
set_option maxRecDepth 20000 in
set_option maxHeartbeats 4000000 in
theorem c_X5_isLine {K : Cx} {v : Int32} {m : TM} : CT yX5_isLine cX5_isLine 1 (some .boolean) 1 22 K [.int v] (m) (some (.int (bI (inI v 0 20)))) (m) := by
  refine ct_ofd (n := 0) (by decide +kernel) rfl rfl ?_
  show XX RX5 cX5_isLine 1 (some .boolean) 1 22 K 0 [some (.int v)] [] (m) (fun r1 m1 => r1 = (some (.int (bI (inI v 0 20)))) ∧ m1 = m)
  refine x_iload_n (q := 1) dX5_isLine_0 rfl rfl ?_
  refine x_iconst (q := 2) (v := 0) dX5_isLine_1 rfl (by decide) ?_
  refine x_bipush (q := 4) (v := 20) dX5_isLine_2 rfl (by decide) ?_
  refine x_callS3v (q := 7) dX5_isLine_4 rfl ml_X5_48 ms_X5_in1 c_X5_in1 (Nat.le_of_ble_eq_true rfl) ⟨by decide, by decide⟩ ?_
  refine x_ireturn dX5_isLine_7 rfl (bI_narrow _) ?_
  exact ⟨rfl, rfl⟩
theorem dX5_isTurn_0 : decode cX5_isTurn 0 = .ok (.iload_n 0, 1) := by decide +kernel
theorem dX5_isTurn_1 : decode cX5_isTurn 1 = .ok (.iconst 0, 1) := by decide +kernel
theorem dX5_isTurn_2 : decode cX5_isTurn 2 = .ok (.iconst 5, 1) := by decide +kernel
theorem dX5_isTurn_3 : decode cX5_isTurn 3 = .ok (.invokestatic 48, 3) := by decide +kernel
theorem dX5_isTurn_6 : decode cX5_isTurn 6 = .ok (.ireturn, 1) := by decide +kernel
set_option maxRecDepth 20000 in
set_option maxHeartbeats 4000000 in
theorem c_X5_isTurn {K : Cx} {v : Int32} {m : TM} : CT yX5_isTurn cX5_isTurn 1 (some .boolean) 1 22 K [.int v] (m) (some (.int (bI (inI v 0 5)))) (m) := by
  refine ct_ofd (n := 0) (by decide +kernel) rfl rfl ?_
  show XX RX5 cX5_isTurn 1 (some .boolean) 1 22 K 0 [some (.int v)] [] (m) (fun r1 m1 => r1 = (some (.int (bI (inI v 0 5)))) ∧ m1 = m)
  refine x_iload_n (q := 1) dX5_isTurn_0 rfl rfl ?_
  refine x_iconst (q := 2) (v := 0) dX5_isTurn_1 rfl (by decide) ?_
  refine x_iconst (q := 3) (v := 5) dX5_isTurn_2 rfl (by decide) ?_
  refine x_callS3v (q := 6) dX5_isTurn_3 rfl ml_X5_48 ms_X5_in1 c_X5_in1 (Nat.le_of_ble_eq_true rfl) ⟨by decide, by decide⟩ ?_
  refine x_ireturn dX5_isTurn_6 rfl (bI_narrow _) ?_
  exact ⟨rfl, rfl⟩
theorem dX5_isSheet_0 : decode cX5_isSheet 0 = .ok (.iload_n 0, 1) := by decide +kernel
theorem dX5_isSheet_1 : decode cX5_isSheet 1 = .ok (.iconst 0, 1) := by decide +kernel
theorem dX5_isSheet_2 : decode cX5_isSheet 2 = .ok (.iconst 3, 1) := by decide +kernel
theorem dX5_isSheet_3 : decode cX5_isSheet 3 = .ok (.invokestatic 48, 3) := by decide +kernel
theorem dX5_isSheet_6 : decode cX5_isSheet 6 = .ok (.ireturn, 1) := by decide +kernel
set_option maxRecDepth 20000 in
set_option maxHeartbeats 4000000 in
theorem c_X5_isSheet {K : Cx} {v : Int32} {m : TM} : CT yX5_isSheet cX5_isSheet 1 (some .boolean) 1 22 K [.int v] (m) (some (.int (bI (inI v 0 3)))) (m) := by
  refine ct_ofd (n := 0) (by decide +kernel) rfl rfl ?_
  show XX RX5 cX5_isSheet 1 (some .boolean) 1 22 K 0 [some (.int v)] [] (m) (fun r1 m1 => r1 = (some (.int (bI (inI v 0 3)))) ∧ m1 = m)
  refine x_iload_n (q := 1) dX5_isSheet_0 rfl rfl ?_
  refine x_iconst (q := 2) (v := 0) dX5_isSheet_1 rfl (by decide) ?_
  refine x_iconst (q := 3) (v := 3) dX5_isSheet_2 rfl (by decide) ?_
  refine x_callS3v (q := 6) dX5_isSheet_3 rfl ml_X5_48 ms_X5_in1 c_X5_in1 (Nat.le_of_ble_eq_true rfl) ⟨by decide, by decide⟩ ?_
  refine x_ireturn dX5_isSheet_6 rfl (bI_narrow _) ?_
  exact ⟨rfl, rfl⟩
theorem dX5_isSpot_0 : decode cX5_isSpot 0 = .ok (.iload_n 0, 1) := by decide +kernel
theorem dX5_isSpot_1 : decode cX5_isSpot 1 = .ok (.iconst 0, 1) := by decide +kernel
theorem dX5_isSpot_2 : decode cX5_isSpot 2 = .ok (.bipush 9, 2) := by decide +kernel
theorem dX5_isSpot_4 : decode cX5_isSpot 4 = .ok (.invokestatic 48, 3) := by decide +kernel
theorem dX5_isSpot_7 : decode cX5_isSpot 7 = .ok (.ireturn, 1) := by decide +kernel
set_option maxRecDepth 20000 in
set_option maxHeartbeats 4000000 in
theorem c_X5_isSpot {K : Cx} {v : Int32} {m : TM} : CT yX5_isSpot cX5_isSpot 1 (some .boolean) 1 22 K [.int v] (m) (some (.int (bI (inI v 0 9)))) (m) := by
  refine ct_ofd (n := 0) (by decide +kernel) rfl rfl ?_
  show XX RX5 cX5_isSpot 1 (some .boolean) 1 22 K 0 [some (.int v)] [] (m) (fun r1 m1 => r1 = (some (.int (bI (inI v 0 9)))) ∧ m1 = m)
  refine x_iload_n (q := 1) dX5_isSpot_0 rfl rfl ?_
  refine x_iconst (q := 2) (v := 0) dX5_isSpot_1 rfl (by decide) ?_
  refine x_bipush (q := 4) (v := 9) dX5_isSpot_2 rfl (by decide) ?_
  refine x_callS3v (q := 7) dX5_isSpot_4 rfl ml_X5_48 ms_X5_in1 c_X5_in1 (Nat.le_of_ble_eq_true rfl) ⟨by decide, by decide⟩ ?_
  refine x_ireturn dX5_isSpot_7 rfl (bI_narrow _) ?_
  exact ⟨rfl, rfl⟩
theorem dX5_isLetter_0 : decode cX5_isLetter 0 = .ok (.iload_n 0, 1) := by decide +kernel
theorem dX5_isLetter_1 : decode cX5_isLetter 1 = .ok (.bipush 97, 2) := by decide +kernel
theorem dX5_isLetter_3 : decode cX5_isLetter 3 = .ok (.bipush 122, 2) := by decide +kernel
theorem dX5_isLetter_5 : decode cX5_isLetter 5 = .ok (.invokestatic 48, 3) := by decide +kernel
theorem dX5_isLetter_8 : decode cX5_isLetter 8 = .ok (.ireturn, 1) := by decide +kernel
set_option maxRecDepth 20000 in
set_option maxHeartbeats 4000000 in
theorem c_X5_isLetter {K : Cx} {v : Int32} {m : TM} : CT yX5_isLetter cX5_isLetter 1 (some .boolean) 1 22 K [.int v] (m) (some (.int (bI (inI v 97 122)))) (m) := by
  refine ct_ofd (n := 0) (by decide +kernel) rfl rfl ?_
  show XX RX5 cX5_isLetter 1 (some .boolean) 1 22 K 0 [some (.int v)] [] (m) (fun r1 m1 => r1 = (some (.int (bI (inI v 97 122)))) ∧ m1 = m)
  refine x_iload_n (q := 1) dX5_isLetter_0 rfl rfl ?_
  refine x_bipush (q := 3) (v := 97) dX5_isLetter_1 rfl (by decide) ?_
  refine x_bipush (q := 5) (v := 122) dX5_isLetter_3 rfl (by decide) ?_
  refine x_callS3v (q := 8) dX5_isLetter_5 rfl ml_X5_48 ms_X5_in1 c_X5_in1 (Nat.le_of_ble_eq_true rfl) ⟨by decide, by decide⟩ ?_
  refine x_ireturn dX5_isLetter_8 rfl (bI_narrow _) ?_
  exact ⟨rfl, rfl⟩
theorem dX5_isDigit_0 : decode cX5_isDigit 0 = .ok (.iload_n 0, 1) := by decide +kernel
theorem dX5_isDigit_1 : decode cX5_isDigit 1 = .ok (.bipush 48, 2) := by decide +kernel
theorem dX5_isDigit_3 : decode cX5_isDigit 3 = .ok (.bipush 57, 2) := by decide +kernel
theorem dX5_isDigit_5 : decode cX5_isDigit 5 = .ok (.invokestatic 48, 3) := by decide +kernel
theorem dX5_isDigit_8 : decode cX5_isDigit 8 = .ok (.ireturn, 1) := by decide +kernel
set_option maxRecDepth 20000 in
set_option maxHeartbeats 4000000 in
theorem c_X5_isDigit {K : Cx} {v : Int32} {m : TM} : CT yX5_isDigit cX5_isDigit 1 (some .boolean) 1 22 K [.int v] (m) (some (.int (bI (inI v 48 57)))) (m) := by
  refine ct_ofd (n := 0) (by decide +kernel) rfl rfl ?_
  show XX RX5 cX5_isDigit 1 (some .boolean) 1 22 K 0 [some (.int v)] [] (m) (fun r1 m1 => r1 = (some (.int (bI (inI v 48 57)))) ∧ m1 = m)
  refine x_iload_n (q := 1) dX5_isDigit_0 rfl rfl ?_
  refine x_bipush (q := 3) (v := 48) dX5_isDigit_1 rfl (by decide) ?_
  refine x_bipush (q := 5) (v := 57) dX5_isDigit_3 rfl (by decide) ?_
  refine x_callS3v (q := 8) dX5_isDigit_5 rfl ml_X5_48 ms_X5_in1 c_X5_in1 (Nat.le_of_ble_eq_true rfl) ⟨by decide, by decide⟩ ?_
  refine x_ireturn dX5_isDigit_8 rfl (bI_narrow _) ?_
  exact ⟨rfl, rfl⟩
theorem dX5_get_0 : decode cX5_get 0 = .ok (.aload_n 0, 1) := by decide +kernel
theorem dX5_get_1 : decode cX5_get 1 = .ok (.getfield 9, 3) := by decide +kernel
theorem dX5_get_4 : decode cX5_get 4 = .ok (.bipush 12, 2) := by decide +kernel
theorem dX5_get_6 : decode cX5_get 6 = .ok (.bipush 7, 2) := by decide +kernel
theorem dX5_get_8 : decode cX5_get 8 = .ok (.iload_n 1, 1) := by decide +kernel
theorem dX5_get_9 : decode cX5_get 9 = .ok (.imul, 1) := by decide +kernel
theorem dX5_get_10 : decode cX5_get 10 = .ok (.iadd, 1) := by decide +kernel
theorem dX5_get_11 : decode cX5_get 11 = .ok (.iload_n 2, 1) := by decide +kernel
theorem dX5_get_12 : decode cX5_get 12 = .ok (.iadd, 1) := by decide +kernel
theorem dX5_get_13 : decode cX5_get 13 = .ok (.iaload, 1) := by decide +kernel
theorem dX5_get_14 : decode cX5_get 14 = .ok (.ireturn, 1) := by decide +kernel
set_option maxRecDepth 20000 in
set_option maxHeartbeats 4000000 in
theorem c_X5_get {K : Cx} {k f : Nat} {m : TM} (hk : k < 8) (hf : f < 7) : CT yX5_get cX5_get 3 (some .int) 0 0 K [.ref 49, .int (nI k), .int (nI f)] (m) (some (.int (m.1 50 (12 + 7 * k + f)))) (m) := by
  refine ct_ofd (n := 0) (by decide +kernel) rfl rfl ?_
  show XX RX5 cX5_get 3 (some .int) 0 0 K 0 [some (.ref 49), some (.int (nI k)), some (.int (nI f))] [] (m) (fun r1 m1 => r1 = (some (.int (m.1 50 (12 + 7 * k + f)))) ∧ m1 = m)
  refine x_aload_n (q := 1) dX5_get_0 rfl rfl ?_
  refine x_getR (q := 4) dX5_get_1 rfl fl_X5_9 (or5_s) ?_
  refine x_bipush (q := 6) (v := 12) dX5_get_4 rfl (by decide) ?_
  refine x_bipush (q := 8) (v := 7) dX5_get_6 rfl (by decide) ?_
  refine x_iload_n (q := 9) dX5_get_8 rfl rfl ?_
  refine x_imul (q := 10) dX5_get_9 rfl ?_
  refine x_iadd (q := 11) dX5_get_10 rfl ?_
  refine x_iload_n (q := 12) dX5_get_11 rfl rfl ?_
  refine x_iadd (q := 13) dX5_get_12 rfl ?_
  refine x_iald (q := 14) dX5_get_13 rfl (ar_50) (ix_par hk hf) (Nat.zero_add _) ?_
  refine x_ireturn dX5_get_14 rfl rfl ?_
  exact ⟨rfl, rfl⟩
theorem dX5_puts_0 : decode cX5_puts 0 = .ok (.aload_n 0, 1) := by decide +kernel
theorem dX5_puts_1 : decode cX5_puts 1 = .ok (.getfield 9, 3) := by decide +kernel
theorem dX5_puts_4 : decode cX5_puts 4 = .ok (.bipush 12, 2) := by decide +kernel
theorem dX5_puts_6 : decode cX5_puts 6 = .ok (.bipush 7, 2) := by decide +kernel
theorem dX5_puts_8 : decode cX5_puts 8 = .ok (.iload_n 1, 1) := by decide +kernel
theorem dX5_puts_9 : decode cX5_puts 9 = .ok (.imul, 1) := by decide +kernel
theorem dX5_puts_10 : decode cX5_puts 10 = .ok (.iadd, 1) := by decide +kernel
theorem dX5_puts_11 : decode cX5_puts 11 = .ok (.iload_n 2, 1) := by decide +kernel
theorem dX5_puts_12 : decode cX5_puts 12 = .ok (.iadd, 1) := by decide +kernel
theorem dX5_puts_13 : decode cX5_puts 13 = .ok (.iload_n 3, 1) := by decide +kernel
theorem dX5_puts_14 : decode cX5_puts 14 = .ok (.iastore, 1) := by decide +kernel
theorem dX5_puts_15 : decode cX5_puts 15 = .ok (.return_, 1) := by decide +kernel
set_option maxRecDepth 20000 in
set_option maxHeartbeats 4000000 in
theorem c_X5_puts {K : Cx} {k f : Nat} {v : Int32} {m : TM} (hk : k < 8) (hf : f < 7) : CT yX5_puts cX5_puts 4 none 0 0 K [.ref 49, .int (nI k), .int (nI f), .int v] (m) none (st1 m 50 (12 + 7 * k + f) v) := by
  refine ct_ofd (n := 0) (by decide +kernel) rfl rfl ?_
  show XX RX5 cX5_puts 4 none 0 0 K 0 [some (.ref 49), some (.int (nI k)), some (.int (nI f)), some (.int v)] [] (m) (fun r1 m1 => r1 = none ∧ m1 = st1 m 50 (12 + 7 * k + f) v)
  refine x_aload_n (q := 1) dX5_puts_0 rfl rfl ?_
  refine x_getR (q := 4) dX5_puts_1 rfl fl_X5_9 (or5_s) ?_
  refine x_bipush (q := 6) (v := 12) dX5_puts_4 rfl (by decide) ?_
  refine x_bipush (q := 8) (v := 7) dX5_puts_6 rfl (by decide) ?_
  refine x_iload_n (q := 9) dX5_puts_8 rfl rfl ?_
  refine x_imul (q := 10) dX5_puts_9 rfl ?_
  refine x_iadd (q := 11) dX5_puts_10 rfl ?_
  refine x_iload_n (q := 12) dX5_puts_11 rfl rfl ?_
  refine x_iadd (q := 13) dX5_puts_12 rfl ?_
  refine x_iload_n (q := 14) dX5_puts_13 rfl rfl ?_
  refine x_iast (q := 15) dX5_puts_14 rfl (ar_50) (ix_par hk hf) (Nat.zero_add _) rfl ?_
  refine x_return dX5_puts_15 rfl ?_
  exact ⟨rfl, rfl⟩
theorem dX5_isParcel_0 : decode cX5_isParcel 0 = .ok (.iload_n 1, 1) := by decide +kernel
theorem dX5_isParcel_1 : decode cX5_isParcel 1 = .ok (.iconst 0, 1) := by decide +kernel
theorem dX5_isParcel_2 : decode cX5_isParcel 2 = .ok (.aload_n 0, 1) := by decide +kernel
theorem dX5_isParcel_3 : decode cX5_isParcel 3 = .ok (.getfield 9, 3) := by decide +kernel
theorem dX5_isParcel_6 : decode cX5_isParcel 6 = .ok (.iconst 1, 1) := by decide +kernel
theorem dX5_isParcel_7 : decode cX5_isParcel 7 = .ok (.iaload, 1) := by decide +kernel
theorem dX5_isParcel_8 : decode cX5_isParcel 8 = .ok (.iconst 1, 1) := by decide +kernel
theorem dX5_isParcel_9 : decode cX5_isParcel 9 = .ok (.isub, 1) := by decide +kernel
theorem dX5_isParcel_10 : decode cX5_isParcel 10 = .ok (.invokestatic 48, 3) := by decide +kernel
theorem dX5_isParcel_13 : decode cX5_isParcel 13 = .ok (.ireturn, 1) := by decide +kernel
set_option maxRecDepth 20000 in
set_option maxHeartbeats 4000000 in
theorem c_X5_isParcel {K : Cx} {v : Int32} {m : TM} : CT yX5_isParcel cX5_isParcel 2 (some .boolean) 1 22 K [.ref 49, .int v] (m) (some (.int (bI (inI v 0 (m.1 50 1 - 1))))) (m) := by
  refine ct_ofd (n := 0) (by decide +kernel) rfl rfl ?_
  show XX RX5 cX5_isParcel 2 (some .boolean) 1 22 K 0 [some (.ref 49), some (.int v)] [] (m) (fun r1 m1 => r1 = (some (.int (bI (inI v 0 (m.1 50 1 - 1))))) ∧ m1 = m)
  refine x_iload_n (q := 1) dX5_isParcel_0 rfl rfl ?_
  refine x_iconst (q := 2) (v := 0) dX5_isParcel_1 rfl (by decide) ?_
  refine x_aload_n (q := 3) dX5_isParcel_2 rfl rfl ?_
  refine x_getR (q := 6) dX5_isParcel_3 rfl fl_X5_9 (or5_s) ?_
  refine x_iconst (q := 7) (v := 1) dX5_isParcel_6 rfl (by decide) ?_
  refine x_iald (q := 8) dX5_isParcel_7 rfl (ar_50) (ix_nI (k := 1) (by decide) (by decide)) (Nat.zero_add _) ?_
  refine x_iconst (q := 9) (v := 1) dX5_isParcel_8 rfl (by decide) ?_
  refine x_isub (q := 10) dX5_isParcel_9 rfl ?_
  refine x_callS3v (q := 13) dX5_isParcel_10 rfl ml_X5_48 ms_X5_in1 c_X5_in1 (Nat.le_of_ble_eq_true rfl) ⟨by decide, by decide⟩ ?_
  refine x_ireturn dX5_isParcel_13 rfl (bI_narrow _) ?_
  exact ⟨rfl, rfl⟩
theorem dX4_isOut_0 : decode cX4_isOut 0 = .ok (.iload_n 0, 1) := by decide +kernel
theorem dX4_isOut_1 : decode cX4_isOut 1 = .ok (.iload_n 1, 1) := by decide +kernel
theorem dX4_isOut_2 : decode cX4_isOut 2 = .ok (.if_icmp .lt 8, 3) := by decide +kernel
theorem dX4_isOut_5 : decode cX4_isOut 5 = .ok (.iload_n 0, 1) := by decide +kernel
theorem dX4_isOut_6 : decode cX4_isOut 6 = .ok (.iload_n 2, 1) := by decide +kernel
theorem dX4_isOut_7 : decode cX4_isOut 7 = .ok (.if_icmp .le 7, 3) := by decide +kernel
theorem dX4_isOut_10 : decode cX4_isOut 10 = .ok (.iconst 1, 1) := by decide +kernel
theorem dX4_isOut_11 : decode cX4_isOut 11 = .ok (.goto 4, 3) := by decide +kernel
theorem dX4_isOut_14 : decode cX4_isOut 14 = .ok (.iconst 0, 1) := by decide +kernel
theorem dX4_isOut_15 : decode cX4_isOut 15 = .ok (.ireturn, 1) := by decide +kernel
set_option maxRecDepth 20000 in
set_option maxHeartbeats 4000000 in
theorem c_X4_isOut {K : Cx} {v l h : Int32} {m : TM} : CT yX4_isOut cX4_isOut 3 (some .boolean) 0 0 K [.int v, .int l, .int h] (m) (some (.int (bI (outI v l h)))) (m) := by
  refine ct_ofd (n := 0) (by decide +kernel) rfl rfl ?_
  show XX RX4 cX4_isOut 3 (some .boolean) 0 0 K 0 [some (.int v), some (.int l), some (.int h)] [] (m) (fun r1 m1 => r1 = (some (.int (bI (outI v l h)))) ∧ m1 = m)
  refine x_iload_n (q := 1) dX4_isOut_0 rfl rfl ?_
  refine x_iload_n (q := 2) dX4_isOut_1 rfl rfl ?_
  refine x_icmp_lt (q := 5) (t := 10) dX4_isOut_2 rfl (by decide) (fun h2 => ?_) (fun h2 => ?_)
  · refine x_iconst (q := 11) (v := 1) dX4_isOut_10 rfl (by decide) ?_
    refine x_goto (q := 15) dX4_isOut_11 (by decide) ?_
    refine x_ireturn dX4_isOut_15 rfl (by decide) ?_
    exact ⟨by simp [outI, bI, *], rfl⟩
  refine x_iload_n (q := 6) dX4_isOut_5 rfl rfl ?_
  refine x_iload_n (q := 7) dX4_isOut_6 rfl rfl ?_
  refine x_icmp_le (q := 10) (t := 14) dX4_isOut_7 rfl (by decide) (fun h7 => ?_) (fun h7 => ?_)
  · refine x_iconst (q := 15) (v := 0) dX4_isOut_14 rfl (by decide) ?_
    refine x_ireturn dX4_isOut_15 rfl (by decide) ?_
    exact ⟨by simp [outI, bI, *], rfl⟩
  refine x_iconst (q := 11) (v := 1) dX4_isOut_10 rfl (by decide) ?_
  refine x_goto (q := 15) dX4_isOut_11 (by decide) ?_
  refine x_ireturn dX4_isOut_15 rfl (by decide) ?_
  exact ⟨by simp [outI, bI, *], rfl⟩
theorem dX4_isNoSheet_0 : decode cX4_isNoSheet 0 = .ok (.iload_n 0, 1) := by decide +kernel
theorem dX4_isNoSheet_1 : decode cX4_isNoSheet 1 = .ok (.iconst 0, 1) := by decide +kernel
theorem dX4_isNoSheet_2 : decode cX4_isNoSheet 2 = .ok (.iconst 3, 1) := by decide +kernel
theorem dX4_isNoSheet_3 : decode cX4_isNoSheet 3 = .ok (.invokestatic 44, 3) := by decide +kernel
theorem dX4_isNoSheet_6 : decode cX4_isNoSheet 6 = .ok (.ireturn, 1) := by decide +kernel
set_option maxRecDepth 20000 in
set_option maxHeartbeats 4000000 in
theorem c_X4_isNoSheet {K : Cx} {v : Int32} {m : TM} : CT yX4_isNoSheet cX4_isNoSheet 1 (some .boolean) 1 22 K [.int v] (m) (some (.int (bI (outI v 0 3)))) (m) := by
  refine ct_ofd (n := 0) (by decide +kernel) rfl rfl ?_
  show XX RX4 cX4_isNoSheet 1 (some .boolean) 1 22 K 0 [some (.int v)] [] (m) (fun r1 m1 => r1 = (some (.int (bI (outI v 0 3)))) ∧ m1 = m)
  refine x_iload_n (q := 1) dX4_isNoSheet_0 rfl rfl ?_
  refine x_iconst (q := 2) (v := 0) dX4_isNoSheet_1 rfl (by decide) ?_
  refine x_iconst (q := 3) (v := 3) dX4_isNoSheet_2 rfl (by decide) ?_
  refine x_callS3v (q := 6) dX4_isNoSheet_3 rfl ml_X4_44 ms_X4_isOut c_X4_isOut (Nat.le_of_ble_eq_true rfl) ⟨by decide, by decide⟩ ?_
  refine x_ireturn dX4_isNoSheet_6 rfl (bI_narrow _) ?_
  exact ⟨rfl, rfl⟩
theorem dX4_isNoParcel_0 : decode cX4_isNoParcel 0 = .ok (.iload_n 1, 1) := by decide +kernel
theorem dX4_isNoParcel_1 : decode cX4_isNoParcel 1 = .ok (.iconst 0, 1) := by decide +kernel
theorem dX4_isNoParcel_2 : decode cX4_isNoParcel 2 = .ok (.aload_n 0, 1) := by decide +kernel
theorem dX4_isNoParcel_3 : decode cX4_isNoParcel 3 = .ok (.getfield 12, 3) := by decide +kernel
theorem dX4_isNoParcel_6 : decode cX4_isNoParcel 6 = .ok (.getfield 73, 3) := by decide +kernel
theorem dX4_isNoParcel_9 : decode cX4_isNoParcel 9 = .ok (.iconst 1, 1) := by decide +kernel
theorem dX4_isNoParcel_10 : decode cX4_isNoParcel 10 = .ok (.isub, 1) := by decide +kernel
theorem dX4_isNoParcel_11 : decode cX4_isNoParcel 11 = .ok (.invokestatic 44, 3) := by decide +kernel
theorem dX4_isNoParcel_14 : decode cX4_isNoParcel 14 = .ok (.ireturn, 1) := by decide +kernel
set_option maxRecDepth 20000 in
set_option maxHeartbeats 4000000 in
theorem c_X4_isNoParcel {K : Cx} {v : Int32} {m : TM} : CT yX4_isNoParcel cX4_isNoParcel 2 (some .boolean) 1 22 K [.ref 0, .int v] (m) (some (.int (bI (outI v 0 (m.1 1 1 - 1))))) (m) := by
  refine ct_ofd (n := 0) (by decide +kernel) rfl rfl ?_
  show XX RX4 cX4_isNoParcel 2 (some .boolean) 1 22 K 0 [some (.ref 0), some (.int v)] [] (m) (fun r1 m1 => r1 = (some (.int (bI (outI v 0 (m.1 1 1 - 1))))) ∧ m1 = m)
  refine x_iload_n (q := 1) dX4_isNoParcel_0 rfl rfl ?_
  refine x_iconst (q := 2) (v := 0) dX4_isNoParcel_1 rfl (by decide) ?_
  refine x_aload_n (q := 3) dX4_isNoParcel_2 rfl rfl ?_
  refine x_getR (q := 6) dX4_isNoParcel_3 rfl fl_X4_12 (or4_coast) ?_
  refine x_getI (q := 9) dX4_isNoParcel_6 rfl fl_X4_73 (ob0_laid isC_1) ?_
  refine x_iconst (q := 10) (v := 1) dX4_isNoParcel_9 rfl (by decide) ?_
  refine x_isub (q := 11) dX4_isNoParcel_10 rfl ?_
  refine x_callS3v (q := 14) dX4_isNoParcel_11 rfl ml_X4_44 ms_X4_isOut c_X4_isOut (Nat.le_of_ble_eq_true rfl) ⟨by decide, by decide⟩ ?_
  refine x_ireturn dX4_isNoParcel_14 rfl (bI_narrow _) ?_
  exact ⟨rfl, rfl⟩
end
section
/-! what a kind makes of a parcel -/
def sg (kd ln w tn d t : Int32) : Bool :=
  if kd = 1 then !decide (t < ln) && !decide (w < 5)
  else if kd = 2 then !decide (t < ln + w / 20)
  else if kd = 3 then !decide (t < ln + w / 20)
  else if kd = 4 then !decide (t < ln + w / 20) && !decide (tn < 7)
  else if kd = 5 then !decide (t ≤ 0)
  else if kd = 6 then (!decide (t < ln) && !decide (w < 5)) && decide (d - d / 2 * 2 = 0)
  else !decide (t < ln)
def mvC (kd : Int32) : Int32 := if kd = 1 then 1 else if kd = 2 then 1 else if kd = 3 then 1 else if kd = 4 then 0 else if kd = 5 then 5 else if kd = 6 then 1 else 2
def las (kd : Int32) : Int32 := if kd = 1 then 36 else if kd = 2 then 24 else if kd = 3 then 24 else if kd = 4 then 9999 else if kd = 5 then 15 else if kd = 6 then 66 else 12
def pys (kd w : Int32) : Int32 := if kd = 1 then 0 else if kd = 2 then 2 * (w / 10) else if kd = 3 then 2 * (w / 10) + 10 else if kd = 4 then 3 * (2 * (w / 10) + 10) else if kd = 5 then 1 else if kd = 6 then 5 else w / 10
def dly (kd : Int32) : Int32 := if kd = 3 then 1 else if kd = 4 then 2 else 0
def ovr (kd : Int32) : Int32 := if kd = 1 then 0 else if kd = 2 then 0 else if kd = 3 then 2 else if kd = 4 then 3 else if kd = 5 then 0 else if kd = 6 then 1 else -1
def lst (what : Int32) : Int32 := if what = 2 then 1 else 0
def mst (what : Int32) : Int32 := if what = 0 then 6 else if what = 1 then 20 else if what = 2 then 99 else if what = 3 then 9999 else if what = 4 then 2 else if what = 5 then 1 else 9999
def tch (ln t : Int32) : Bool := !decide (t < ln - 3) && !decide (t ≤ 0)
def wal (a b : Int32) : Bool := decide (bI (!decide (a < 5)) = bI (!decide (b < 5))) && decide (a / 20 = b / 20)
def tld (s : Nat → Int32) (k : Nat) (what : Int32) : Int32 := if what = 0 then s (12 + 7 * k + 0) else if what = 1 then s (12 + 7 * k + 1) else if what = 2 then s (12 + 7 * k + 2) else if what = 3 then s (12 + 7 * k + 3) else if what = 4 then s (12 + 7 * k + 4) else if what = 5 then s (12 + 7 * k + 5) else if what = 6 then s (12 + 7 * k + 6) else if what = 7 then mvC (s (12 + 7 * k + 0)) else if what = 8 then las (s (12 + 7 * k + 0)) else if what = 9 then pys (s (12 + 7 * k + 0)) (s (12 + 7 * k + 2)) else dly (s (12 + 7 * k + 0))
def ptF (s : Nat → Int32) (k : Nat) (what v : Int32) : Nat → Int32 := if what = 0 then upd s (12 + 7 * k + 0) v else if what = 1 then upd s (12 + 7 * k + 1) v else if what = 2 then upd s (12 + 7 * k + 2) v else if what = 3 then upd s (12 + 7 * k + 3) v else if what = 4 then upd s (12 + 7 * k + 4) v else if what = 5 then upd s (12 + 7 * k + 5) v else if what = 6 then upd s (12 + 7 * k + 6) v else s
/-- a parcel is turned over -/
def trn (s : Nat → Int32) (k : Nat) : Nat → Int32 := upd (upd s (12 + 7 * k + 6) (minI (s (12 + 7 * k + 6) + 1) 9999)) (12 + 7 * k + 1) (minI (s (12 + 7 * k + 1) + mvC (s (12 + 7 * k + 0))) 20)
/-- it waits a day -/
def wat (s : Nat → Int32) (k : Nat) : Nat → Int32 :=
  if las (s (12 + 7 * k + 0)) < minI (s (12 + 7 * k + 3) + 1) 9999 then upd (upd s (12 + 7 * k + 3) (minI (s (12 + 7 * k + 3) + 1) 9999)) (12 + 7 * k + 4) 2 else upd s (12 + 7 * k + 3) (minI (s (12 + 7 * k + 3) + 1) 9999)
def newF (s : Nat → Int32) (k : Nat) (kd : Int32) : Nat → Int32 := upd (upd (upd (upd (upd (upd (upd s (12 + 7 * k + 0) kd) (12 + 7 * k + 1) 0) (12 + 7 * k + 2) 10) (12 + 7 * k + 3) 0) (12 + 7 * k + 4) 0) (12 + 7 * k + 5) 0) (12 + 7 * k + 6) 0
/-- parcel k becomes as parcel j of another row -/
def bcP (s u : Nat → Int32) (k j : Nat) : Nat → Int32 := upd (upd (upd (upd (upd (upd (upd s (12 + 7 * k + 0) (u (12 + 7 * j + 0))) (12 + 7 * k + 1) (u (12 + 7 * j + 1))) (12 + 7 * k + 2) (u (12 + 7 * j + 2))) (12 + 7 * k + 3) (u (12 + 7 * j + 3))) (12 + 7 * k + 4) (u (12 + 7 * j + 4))) (12 + 7 * k + 5) (u (12 + 7 * j + 5))) (12 + 7 * k + 6) (u (12 + 7 * j + 6))
def anc : Nat → Int32 → Int32 → Bool
  | 0, _, _ => false
  | n + 1, x, so => if x = -1 then false else if x = so then true else anc n (ovr x) so
theorem dX1_least_0 : decode cX1_least 0 = .ok (.iload_n 0, 1) := by decide +kernel
theorem dX1_least_1 : decode cX1_least 1 = .ok (.iconst 2, 1) := by decide +kernel
theorem dX1_least_2 : decode cX1_least 2 = .ok (.if_icmp .ne 7, 3) := by decide +kernel
theorem dX1_least_5 : decode cX1_least 5 = .ok (.iconst 1, 1) := by decide +kernel
theorem dX1_least_6 : decode cX1_least 6 = .ok (.goto 4, 3) := by decide +kernel
theorem dX1_least_9 : decode cX1_least 9 = .ok (.iconst 0, 1) := by decide +kernel
theorem dX1_least_10 : decode cX1_least 10 = .ok (.ireturn, 1) := by decide +kernel
set_option maxRecDepth 20000 in
set_option maxHeartbeats 4000000 in
theorem c_X1_least {K : Cx} {x : Int32} {m : TM} : CT yX1_least cX1_least 1 (some .int) 0 0 K [.int x] (m) (some (.int (lst x))) (m) := by
  refine ct_ofd (n := 0) (by decide +kernel) rfl rfl ?_
  show XX RX1 cX1_least 1 (some .int) 0 0 K 0 [some (.int x)] [] (m) (fun r1 m1 => r1 = (some (.int (lst x))) ∧ m1 = m)
  refine x_iload_n (q := 1) dX1_least_0 rfl rfl ?_
  refine x_iconst (q := 2) (v := 2) dX1_least_1 rfl (by decide) ?_
  refine x_icmp_ne (q := 5) (t := 9) dX1_least_2 rfl (by decide) (fun h2 => ?_) (fun h2 => ?_)
  · refine x_iconst (q := 10) (v := 0) dX1_least_9 rfl (by decide) ?_
    refine x_ireturn dX1_least_10 rfl rfl ?_
    exact ⟨by simp [lst, bI, *], rfl⟩
  refine x_iconst (q := 6) (v := 1) dX1_least_5 rfl (by decide) ?_
  refine x_goto (q := 10) dX1_least_6 (by decide) ?_
  refine x_ireturn dX1_least_10 rfl rfl ?_
  exact ⟨by simp [lst, bI, *], rfl⟩
theorem dX1_most_0 : decode cX1_most 0 = .ok (.iload_n 0, 1) := by decide +kernel
theorem dX1_most_1 : decode cX1_most 1 = .ok (.tableswitch 56 0 5 #[39, 42, 45, 48, 52, 54], 39) := by decide +kernel
theorem dX1_most_40 : decode cX1_most 40 = .ok (.bipush 6, 2) := by decide +kernel
theorem dX1_most_42 : decode cX1_most 42 = .ok (.ireturn, 1) := by decide +kernel
theorem dX1_most_43 : decode cX1_most 43 = .ok (.bipush 20, 2) := by decide +kernel
theorem dX1_most_45 : decode cX1_most 45 = .ok (.ireturn, 1) := by decide +kernel
theorem dX1_most_46 : decode cX1_most 46 = .ok (.bipush 99, 2) := by decide +kernel
theorem dX1_most_48 : decode cX1_most 48 = .ok (.ireturn, 1) := by decide +kernel
theorem dX1_most_49 : decode cX1_most 49 = .ok (.sipush 9999, 3) := by decide +kernel
theorem dX1_most_52 : decode cX1_most 52 = .ok (.ireturn, 1) := by decide +kernel
theorem dX1_most_53 : decode cX1_most 53 = .ok (.iconst 2, 1) := by decide +kernel
theorem dX1_most_54 : decode cX1_most 54 = .ok (.ireturn, 1) := by decide +kernel
theorem dX1_most_55 : decode cX1_most 55 = .ok (.iconst 1, 1) := by decide +kernel
theorem dX1_most_56 : decode cX1_most 56 = .ok (.ireturn, 1) := by decide +kernel
theorem dX1_most_57 : decode cX1_most 57 = .ok (.sipush 9999, 3) := by decide +kernel
theorem dX1_most_60 : decode cX1_most 60 = .ok (.ireturn, 1) := by decide +kernel
set_option maxRecDepth 20000 in
set_option maxHeartbeats 4000000 in
theorem c_X1_most {K : Cx} {x : Int32} {m : TM} : CT yX1_most cX1_most 1 (some .int) 0 0 K [.int x] (m) (some (.int (mst x))) (m) := by
  refine ct_ofd (n := 0) (by decide +kernel) rfl rfl ?_
  show XX RX1 cX1_most 1 (some .int) 0 0 K 0 [some (.int x)] [] (m) (fun r1 m1 => r1 = (some (.int (mst x))) ∧ m1 = m)
  refine x_iload_n (q := 1) dX1_most_0 rfl rfl ?_
  by_cases h1_0 : x = 0
  · refine x_tswC (q := 40) (k := 0) dX1_most_1 h1_0 (by decide) (by decide) rfl (by decide) ?_
    refine x_bipush (q := 42) (v := 6) dX1_most_40 rfl (by decide) ?_
    refine x_ireturn dX1_most_42 rfl rfl ?_
    exact ⟨by simp [mst, bI, *], rfl⟩
  by_cases h1_1 : x = 1
  · refine x_tswC (q := 43) (k := 1) dX1_most_1 h1_1 (by decide) (by decide) rfl (by decide) ?_
    refine x_bipush (q := 45) (v := 20) dX1_most_43 rfl (by decide) ?_
    refine x_ireturn dX1_most_45 rfl rfl ?_
    exact ⟨by simp [mst, bI, *], rfl⟩
  by_cases h1_2 : x = 2
  · refine x_tswC (q := 46) (k := 2) dX1_most_1 h1_2 (by decide) (by decide) rfl (by decide) ?_
    refine x_bipush (q := 48) (v := 99) dX1_most_46 rfl (by decide) ?_
    refine x_ireturn dX1_most_48 rfl rfl ?_
    exact ⟨by simp [mst, bI, *], rfl⟩
  by_cases h1_3 : x = 3
  · refine x_tswC (q := 49) (k := 3) dX1_most_1 h1_3 (by decide) (by decide) rfl (by decide) ?_
    refine x_sipush (q := 52) (v := 9999) dX1_most_49 rfl (by decide) ?_
    refine x_ireturn dX1_most_52 rfl rfl ?_
    exact ⟨by simp [mst, bI, *], rfl⟩
  by_cases h1_4 : x = 4
  · refine x_tswC (q := 53) (k := 4) dX1_most_1 h1_4 (by decide) (by decide) rfl (by decide) ?_
    refine x_iconst (q := 54) (v := 2) dX1_most_53 rfl (by decide) ?_
    refine x_ireturn dX1_most_54 rfl rfl ?_
    exact ⟨by simp [mst, bI, *], rfl⟩
  by_cases h1_5 : x = 5
  · refine x_tswC (q := 55) (k := 5) dX1_most_1 h1_5 (by decide) (by decide) rfl (by decide) ?_
    refine x_iconst (q := 56) (v := 1) dX1_most_55 rfl (by decide) ?_
    refine x_ireturn dX1_most_56 rfl rfl ?_
    exact ⟨by simp [mst, bI, *], rfl⟩
  refine x_tswD (q := 57) dX1_most_1 (by have n0 := lv_neT h1_0 (a := 0) (by decide); have n1 := lv_neT h1_1 (a := 1) (by decide); have n2 := lv_neT h1_2 (a := 2) (by decide); have n3 := lv_neT h1_3 (a := 3) (by decide); have n4 := lv_neT h1_4 (a := 4) (by decide); have n5 := lv_neT h1_5 (a := 5) (by decide); omega) (by decide) ?_
  refine x_sipush (q := 60) (v := 9999) dX1_most_57 rfl (by decide) ?_
  refine x_ireturn dX1_most_60 rfl rfl ?_
  exact ⟨by simp [mst, bI, *], rfl⟩
theorem dX1_over_0 : decode cX1_over 0 = .ok (.iload_n 0, 1) := by decide +kernel
theorem dX1_over_1 : decode cX1_over 1 = .ok (.tableswitch 51 1 6 #[39, 41, 43, 45, 47, 49], 39) := by decide +kernel
theorem dX1_over_40 : decode cX1_over 40 = .ok (.iconst 0, 1) := by decide +kernel
theorem dX1_over_41 : decode cX1_over 41 = .ok (.ireturn, 1) := by decide +kernel
theorem dX1_over_42 : decode cX1_over 42 = .ok (.iconst 0, 1) := by decide +kernel
theorem dX1_over_43 : decode cX1_over 43 = .ok (.ireturn, 1) := by decide +kernel
theorem dX1_over_44 : decode cX1_over 44 = .ok (.iconst 2, 1) := by decide +kernel
theorem dX1_over_45 : decode cX1_over 45 = .ok (.ireturn, 1) := by decide +kernel
theorem dX1_over_46 : decode cX1_over 46 = .ok (.iconst 3, 1) := by decide +kernel
theorem dX1_over_47 : decode cX1_over 47 = .ok (.ireturn, 1) := by decide +kernel
theorem dX1_over_48 : decode cX1_over 48 = .ok (.iconst 0, 1) := by decide +kernel
theorem dX1_over_49 : decode cX1_over 49 = .ok (.ireturn, 1) := by decide +kernel
theorem dX1_over_50 : decode cX1_over 50 = .ok (.iconst 1, 1) := by decide +kernel
theorem dX1_over_51 : decode cX1_over 51 = .ok (.ireturn, 1) := by decide +kernel
theorem dX1_over_52 : decode cX1_over 52 = .ok (.iconst (-1), 1) := by decide +kernel
theorem dX1_over_53 : decode cX1_over 53 = .ok (.ireturn, 1) := by decide +kernel
set_option maxRecDepth 20000 in
set_option maxHeartbeats 4000000 in
theorem c_X1_over {K : Cx} {x : Int32} {m : TM} : CT yX1_over cX1_over 1 (some .int) 0 0 K [.int x] (m) (some (.int (ovr x))) (m) := by
  refine ct_ofd (n := 0) (by decide +kernel) rfl rfl ?_
  show XX RX1 cX1_over 1 (some .int) 0 0 K 0 [some (.int x)] [] (m) (fun r1 m1 => r1 = (some (.int (ovr x))) ∧ m1 = m)
  refine x_iload_n (q := 1) dX1_over_0 rfl rfl ?_
  by_cases h1_1 : x = 1
  · refine x_tswC (q := 40) (k := 1) dX1_over_1 h1_1 (by decide) (by decide) rfl (by decide) ?_
    refine x_iconst (q := 41) (v := 0) dX1_over_40 rfl (by decide) ?_
    refine x_ireturn dX1_over_41 rfl rfl ?_
    exact ⟨by simp [ovr, bI, *], rfl⟩
  by_cases h1_2 : x = 2
  · refine x_tswC (q := 42) (k := 2) dX1_over_1 h1_2 (by decide) (by decide) rfl (by decide) ?_
    refine x_iconst (q := 43) (v := 0) dX1_over_42 rfl (by decide) ?_
    refine x_ireturn dX1_over_43 rfl rfl ?_
    exact ⟨by simp [ovr, bI, *], rfl⟩
  by_cases h1_3 : x = 3
  · refine x_tswC (q := 44) (k := 3) dX1_over_1 h1_3 (by decide) (by decide) rfl (by decide) ?_
    refine x_iconst (q := 45) (v := 2) dX1_over_44 rfl (by decide) ?_
    refine x_ireturn dX1_over_45 rfl rfl ?_
    exact ⟨by simp [ovr, bI, *], rfl⟩
  by_cases h1_4 : x = 4
  · refine x_tswC (q := 46) (k := 4) dX1_over_1 h1_4 (by decide) (by decide) rfl (by decide) ?_
    refine x_iconst (q := 47) (v := 3) dX1_over_46 rfl (by decide) ?_
    refine x_ireturn dX1_over_47 rfl rfl ?_
    exact ⟨by simp [ovr, bI, *], rfl⟩
  by_cases h1_5 : x = 5
  · refine x_tswC (q := 48) (k := 5) dX1_over_1 h1_5 (by decide) (by decide) rfl (by decide) ?_
    refine x_iconst (q := 49) (v := 0) dX1_over_48 rfl (by decide) ?_
    refine x_ireturn dX1_over_49 rfl rfl ?_
    exact ⟨by simp [ovr, bI, *], rfl⟩
  by_cases h1_6 : x = 6
  · refine x_tswC (q := 50) (k := 6) dX1_over_1 h1_6 (by decide) (by decide) rfl (by decide) ?_
    refine x_iconst (q := 51) (v := 1) dX1_over_50 rfl (by decide) ?_
    refine x_ireturn dX1_over_51 rfl rfl ?_
    exact ⟨by simp [ovr, bI, *], rfl⟩
  refine x_tswD (q := 52) dX1_over_1 (by have n1 := lv_neT h1_1 (a := 1) (by decide); have n2 := lv_neT h1_2 (a := 2) (by decide); have n3 := lv_neT h1_3 (a := 3) (by decide); have n4 := lv_neT h1_4 (a := 4) (by decide); have n5 := lv_neT h1_5 (a := 5) (by decide); have n6 := lv_neT h1_6 (a := 6) (by decide); omega) (by decide) ?_
  refine x_iconst (q := 53) (v := (-1)) dX1_over_52 rfl (by decide) ?_
  refine x_ireturn dX1_over_53 rfl rfl ?_
  exact ⟨by simp [ovr, bI, *], rfl⟩
theorem dX1_moves_0 : decode cX1_moves 0 = .ok (.iload_n 0, 1) := by decide +kernel
theorem dX1_moves_1 : decode cX1_moves 1 = .ok (.tableswitch 51 1 6 #[39, 43, 45, 47, 49, 41], 39) := by decide +kernel
theorem dX1_moves_40 : decode cX1_moves 40 = .ok (.iconst 1, 1) := by decide +kernel
theorem dX1_moves_41 : decode cX1_moves 41 = .ok (.ireturn, 1) := by decide +kernel
theorem dX1_moves_42 : decode cX1_moves 42 = .ok (.iconst 1, 1) := by decide +kernel
theorem dX1_moves_43 : decode cX1_moves 43 = .ok (.ireturn, 1) := by decide +kernel
theorem dX1_moves_44 : decode cX1_moves 44 = .ok (.iconst 1, 1) := by decide +kernel
theorem dX1_moves_45 : decode cX1_moves 45 = .ok (.ireturn, 1) := by decide +kernel
theorem dX1_moves_46 : decode cX1_moves 46 = .ok (.iconst 1, 1) := by decide +kernel
theorem dX1_moves_47 : decode cX1_moves 47 = .ok (.ireturn, 1) := by decide +kernel
theorem dX1_moves_48 : decode cX1_moves 48 = .ok (.iconst 0, 1) := by decide +kernel
theorem dX1_moves_49 : decode cX1_moves 49 = .ok (.ireturn, 1) := by decide +kernel
theorem dX1_moves_50 : decode cX1_moves 50 = .ok (.iconst 5, 1) := by decide +kernel
theorem dX1_moves_51 : decode cX1_moves 51 = .ok (.ireturn, 1) := by decide +kernel
theorem dX1_moves_52 : decode cX1_moves 52 = .ok (.iconst 2, 1) := by decide +kernel
theorem dX1_moves_53 : decode cX1_moves 53 = .ok (.ireturn, 1) := by decide +kernel
set_option maxRecDepth 20000 in
set_option maxHeartbeats 4000000 in
theorem c_X1_moves {K : Cx} {x : Int32} {m : TM} : CT yX1_moves cX1_moves 1 (some .int) 0 0 K [.int x] (m) (some (.int (mvC x))) (m) := by
  refine ct_ofd (n := 0) (by decide +kernel) rfl rfl ?_
  show XX RX1 cX1_moves 1 (some .int) 0 0 K 0 [some (.int x)] [] (m) (fun r1 m1 => r1 = (some (.int (mvC x))) ∧ m1 = m)
  refine x_iload_n (q := 1) dX1_moves_0 rfl rfl ?_
  by_cases h1_1 : x = 1
  · refine x_tswC (q := 40) (k := 1) dX1_moves_1 h1_1 (by decide) (by decide) rfl (by decide) ?_
    refine x_iconst (q := 41) (v := 1) dX1_moves_40 rfl (by decide) ?_
    refine x_ireturn dX1_moves_41 rfl rfl ?_
    exact ⟨by simp [mvC, bI, *], rfl⟩
  by_cases h1_2 : x = 2
  · refine x_tswC (q := 44) (k := 2) dX1_moves_1 h1_2 (by decide) (by decide) rfl (by decide) ?_
    refine x_iconst (q := 45) (v := 1) dX1_moves_44 rfl (by decide) ?_
    refine x_ireturn dX1_moves_45 rfl rfl ?_
    exact ⟨by simp [mvC, bI, *], rfl⟩
  by_cases h1_3 : x = 3
  · refine x_tswC (q := 46) (k := 3) dX1_moves_1 h1_3 (by decide) (by decide) rfl (by decide) ?_
    refine x_iconst (q := 47) (v := 1) dX1_moves_46 rfl (by decide) ?_
    refine x_ireturn dX1_moves_47 rfl rfl ?_
    exact ⟨by simp [mvC, bI, *], rfl⟩
  by_cases h1_4 : x = 4
  · refine x_tswC (q := 48) (k := 4) dX1_moves_1 h1_4 (by decide) (by decide) rfl (by decide) ?_
    refine x_iconst (q := 49) (v := 0) dX1_moves_48 rfl (by decide) ?_
    refine x_ireturn dX1_moves_49 rfl rfl ?_
    exact ⟨by simp [mvC, bI, *], rfl⟩
  by_cases h1_5 : x = 5
  · refine x_tswC (q := 50) (k := 5) dX1_moves_1 h1_5 (by decide) (by decide) rfl (by decide) ?_
    refine x_iconst (q := 51) (v := 5) dX1_moves_50 rfl (by decide) ?_
    refine x_ireturn dX1_moves_51 rfl rfl ?_
    exact ⟨by simp [mvC, bI, *], rfl⟩
  by_cases h1_6 : x = 6
  · refine x_tswC (q := 42) (k := 6) dX1_moves_1 h1_6 (by decide) (by decide) rfl (by decide) ?_
    refine x_iconst (q := 43) (v := 1) dX1_moves_42 rfl (by decide) ?_
    refine x_ireturn dX1_moves_43 rfl rfl ?_
    exact ⟨by simp [mvC, bI, *], rfl⟩
  refine x_tswD (q := 52) dX1_moves_1 (by have n1 := lv_neT h1_1 (a := 1) (by decide); have n2 := lv_neT h1_2 (a := 2) (by decide); have n3 := lv_neT h1_3 (a := 3) (by decide); have n4 := lv_neT h1_4 (a := 4) (by decide); have n5 := lv_neT h1_5 (a := 5) (by decide); have n6 := lv_neT h1_6 (a := 6) (by decide); omega) (by decide) ?_
  refine x_iconst (q := 53) (v := 2) dX1_moves_52 rfl (by decide) ?_
  refine x_ireturn dX1_moves_53 rfl rfl ?_
  exact ⟨by simp [mvC, bI, *], rfl⟩
theorem dX1_lasts_0 : decode cX1_lasts 0 = .ok (.iload_n 0, 1) := by decide +kernel
theorem dX1_lasts_1 : decode cX1_lasts 1 = .ok (.tableswitch 58 1 6 #[39, 45, 48, 51, 55, 42], 39) := by decide +kernel
theorem dX1_lasts_40 : decode cX1_lasts 40 = .ok (.bipush 36, 2) := by decide +kernel
theorem dX1_lasts_42 : decode cX1_lasts 42 = .ok (.ireturn, 1) := by decide +kernel
theorem dX1_lasts_43 : decode cX1_lasts 43 = .ok (.bipush 66, 2) := by decide +kernel
theorem dX1_lasts_45 : decode cX1_lasts 45 = .ok (.ireturn, 1) := by decide +kernel
theorem dX1_lasts_46 : decode cX1_lasts 46 = .ok (.bipush 24, 2) := by decide +kernel
theorem dX1_lasts_48 : decode cX1_lasts 48 = .ok (.ireturn, 1) := by decide +kernel
theorem dX1_lasts_49 : decode cX1_lasts 49 = .ok (.bipush 24, 2) := by decide +kernel
theorem dX1_lasts_51 : decode cX1_lasts 51 = .ok (.ireturn, 1) := by decide +kernel
theorem dX1_lasts_52 : decode cX1_lasts 52 = .ok (.sipush 9999, 3) := by decide +kernel
theorem dX1_lasts_55 : decode cX1_lasts 55 = .ok (.ireturn, 1) := by decide +kernel
theorem dX1_lasts_56 : decode cX1_lasts 56 = .ok (.bipush 15, 2) := by decide +kernel
theorem dX1_lasts_58 : decode cX1_lasts 58 = .ok (.ireturn, 1) := by decide +kernel
theorem dX1_lasts_59 : decode cX1_lasts 59 = .ok (.bipush 12, 2) := by decide +kernel
theorem dX1_lasts_61 : decode cX1_lasts 61 = .ok (.ireturn, 1) := by decide +kernel
set_option maxRecDepth 20000 in
set_option maxHeartbeats 4000000 in
theorem c_X1_lasts {K : Cx} {x : Int32} {m : TM} : CT yX1_lasts cX1_lasts 1 (some .int) 0 0 K [.int x] (m) (some (.int (las x))) (m) := by
  refine ct_ofd (n := 0) (by decide +kernel) rfl rfl ?_
  show XX RX1 cX1_lasts 1 (some .int) 0 0 K 0 [some (.int x)] [] (m) (fun r1 m1 => r1 = (some (.int (las x))) ∧ m1 = m)
  refine x_iload_n (q := 1) dX1_lasts_0 rfl rfl ?_
  by_cases h1_1 : x = 1
  · refine x_tswC (q := 40) (k := 1) dX1_lasts_1 h1_1 (by decide) (by decide) rfl (by decide) ?_
    refine x_bipush (q := 42) (v := 36) dX1_lasts_40 rfl (by decide) ?_
    refine x_ireturn dX1_lasts_42 rfl rfl ?_
    exact ⟨by simp [las, bI, *], rfl⟩
  by_cases h1_2 : x = 2
  · refine x_tswC (q := 46) (k := 2) dX1_lasts_1 h1_2 (by decide) (by decide) rfl (by decide) ?_
    refine x_bipush (q := 48) (v := 24) dX1_lasts_46 rfl (by decide) ?_
    refine x_ireturn dX1_lasts_48 rfl rfl ?_
    exact ⟨by simp [las, bI, *], rfl⟩
  by_cases h1_3 : x = 3
  · refine x_tswC (q := 49) (k := 3) dX1_lasts_1 h1_3 (by decide) (by decide) rfl (by decide) ?_
    refine x_bipush (q := 51) (v := 24) dX1_lasts_49 rfl (by decide) ?_
    refine x_ireturn dX1_lasts_51 rfl rfl ?_
    exact ⟨by simp [las, bI, *], rfl⟩
  by_cases h1_4 : x = 4
  · refine x_tswC (q := 52) (k := 4) dX1_lasts_1 h1_4 (by decide) (by decide) rfl (by decide) ?_
    refine x_sipush (q := 55) (v := 9999) dX1_lasts_52 rfl (by decide) ?_
    refine x_ireturn dX1_lasts_55 rfl rfl ?_
    exact ⟨by simp [las, bI, *], rfl⟩
  by_cases h1_5 : x = 5
  · refine x_tswC (q := 56) (k := 5) dX1_lasts_1 h1_5 (by decide) (by decide) rfl (by decide) ?_
    refine x_bipush (q := 58) (v := 15) dX1_lasts_56 rfl (by decide) ?_
    refine x_ireturn dX1_lasts_58 rfl rfl ?_
    exact ⟨by simp [las, bI, *], rfl⟩
  by_cases h1_6 : x = 6
  · refine x_tswC (q := 43) (k := 6) dX1_lasts_1 h1_6 (by decide) (by decide) rfl (by decide) ?_
    refine x_bipush (q := 45) (v := 66) dX1_lasts_43 rfl (by decide) ?_
    refine x_ireturn dX1_lasts_45 rfl rfl ?_
    exact ⟨by simp [las, bI, *], rfl⟩
  refine x_tswD (q := 59) dX1_lasts_1 (by have n1 := lv_neT h1_1 (a := 1) (by decide); have n2 := lv_neT h1_2 (a := 2) (by decide); have n3 := lv_neT h1_3 (a := 3) (by decide); have n4 := lv_neT h1_4 (a := 4) (by decide); have n5 := lv_neT h1_5 (a := 5) (by decide); have n6 := lv_neT h1_6 (a := 6) (by decide); omega) (by decide) ?_
  refine x_bipush (q := 61) (v := 12) dX1_lasts_59 rfl (by decide) ?_
  refine x_ireturn dX1_lasts_61 rfl rfl ?_
  exact ⟨by simp [las, bI, *], rfl⟩
theorem dX1_delays_0 : decode cX1_delays 0 = .ok (.iload_n 0, 1) := by decide +kernel
theorem dX1_delays_1 : decode cX1_delays 1 = .ok (.lookupswitch 31 #[(3, 27), (4, 29)], 27) := by decide +kernel
theorem dX1_delays_28 : decode cX1_delays 28 = .ok (.iconst 1, 1) := by decide +kernel
theorem dX1_delays_29 : decode cX1_delays 29 = .ok (.ireturn, 1) := by decide +kernel
theorem dX1_delays_30 : decode cX1_delays 30 = .ok (.iconst 2, 1) := by decide +kernel
theorem dX1_delays_31 : decode cX1_delays 31 = .ok (.ireturn, 1) := by decide +kernel
theorem dX1_delays_32 : decode cX1_delays 32 = .ok (.iconst 0, 1) := by decide +kernel
theorem dX1_delays_33 : decode cX1_delays 33 = .ok (.ireturn, 1) := by decide +kernel
set_option maxRecDepth 20000 in
set_option maxHeartbeats 4000000 in
theorem c_X1_delays {K : Cx} {x : Int32} {m : TM} : CT yX1_delays cX1_delays 1 (some .int) 0 0 K [.int x] (m) (some (.int (dly x))) (m) := by
  refine ct_ofd (n := 0) (by decide +kernel) rfl rfl ?_
  show XX RX1 cX1_delays 1 (some .int) 0 0 K 0 [some (.int x)] [] (m) (fun r1 m1 => r1 = (some (.int (dly x))) ∧ m1 = m)
  refine x_iload_n (q := 1) dX1_delays_0 rfl rfl ?_
  by_cases h1_3 : x = 3
  · refine x_lsw (q := 28) (off := 27) dX1_delays_1 (by decide) (by rw [h1_3]; decide) (by decide) ?_
    refine x_iconst (q := 29) (v := 1) dX1_delays_28 rfl (by decide) ?_
    refine x_ireturn dX1_delays_29 rfl rfl ?_
    exact ⟨by simp [dly, bI, *], rfl⟩
  by_cases h1_4 : x = 4
  · refine x_lsw (q := 30) (off := 29) dX1_delays_1 (by decide) (by rw [h1_4]; decide) (by decide) ?_
    refine x_iconst (q := 31) (v := 2) dX1_delays_30 rfl (by decide) ?_
    refine x_ireturn dX1_delays_31 rfl rfl ?_
    exact ⟨by simp [dly, bI, *], rfl⟩
  refine x_lsw (q := 32) (off := 31) dX1_delays_1 (by decide) (by rw [show (#[(3, 27), (4, 29)] : Array (Int × Int)).toList = [(3, 27), (4, 29)] from rfl, lv_osw h1_3 (by decide), lv_osw h1_4 (by decide)]; rfl) (by decide) ?_
  refine x_iconst (q := 33) (v := 0) dX1_delays_32 rfl (by decide) ?_
  refine x_ireturn dX1_delays_33 rfl rfl ?_
  exact ⟨by simp [dly, bI, *], rfl⟩
theorem dX1_pays_0 : decode cX1_pays 0 = .ok (.iload_n 1, 1) := by decide +kernel
theorem dX1_pays_1 : decode cX1_pays 1 = .ok (.bipush 10, 2) := by decide +kernel
theorem dX1_pays_3 : decode cX1_pays 3 = .ok (.idiv, 1) := by decide +kernel
theorem dX1_pays_4 : decode cX1_pays 4 = .ok (.istore_n 2, 1) := by decide +kernel
theorem dX1_pays_5 : decode cX1_pays 5 = .ok (.iload_n 0, 1) := by decide +kernel
theorem dX1_pays_6 : decode cX1_pays 6 = .ok (.tableswitch 64 1 6 #[38, 42, 46, 53, 62, 40], 38) := by decide +kernel
theorem dX1_pays_44 : decode cX1_pays 44 = .ok (.iconst 0, 1) := by decide +kernel
theorem dX1_pays_45 : decode cX1_pays 45 = .ok (.ireturn, 1) := by decide +kernel
theorem dX1_pays_46 : decode cX1_pays 46 = .ok (.iconst 5, 1) := by decide +kernel
theorem dX1_pays_47 : decode cX1_pays 47 = .ok (.ireturn, 1) := by decide +kernel
theorem dX1_pays_48 : decode cX1_pays 48 = .ok (.iconst 2, 1) := by decide +kernel
theorem dX1_pays_49 : decode cX1_pays 49 = .ok (.iload_n 2, 1) := by decide +kernel
theorem dX1_pays_50 : decode cX1_pays 50 = .ok (.imul, 1) := by decide +kernel
theorem dX1_pays_51 : decode cX1_pays 51 = .ok (.ireturn, 1) := by decide +kernel
theorem dX1_pays_52 : decode cX1_pays 52 = .ok (.iconst 2, 1) := by decide +kernel
theorem dX1_pays_53 : decode cX1_pays 53 = .ok (.iload_n 2, 1) := by decide +kernel
theorem dX1_pays_54 : decode cX1_pays 54 = .ok (.imul, 1) := by decide +kernel
theorem dX1_pays_55 : decode cX1_pays 55 = .ok (.bipush 10, 2) := by decide +kernel
theorem dX1_pays_57 : decode cX1_pays 57 = .ok (.iadd, 1) := by decide +kernel
theorem dX1_pays_58 : decode cX1_pays 58 = .ok (.ireturn, 1) := by decide +kernel
theorem dX1_pays_59 : decode cX1_pays 59 = .ok (.iconst 3, 1) := by decide +kernel
theorem dX1_pays_60 : decode cX1_pays 60 = .ok (.iconst 2, 1) := by decide +kernel
theorem dX1_pays_61 : decode cX1_pays 61 = .ok (.iload_n 2, 1) := by decide +kernel
theorem dX1_pays_62 : decode cX1_pays 62 = .ok (.imul, 1) := by decide +kernel
theorem dX1_pays_63 : decode cX1_pays 63 = .ok (.bipush 10, 2) := by decide +kernel
theorem dX1_pays_65 : decode cX1_pays 65 = .ok (.iadd, 1) := by decide +kernel
theorem dX1_pays_66 : decode cX1_pays 66 = .ok (.imul, 1) := by decide +kernel
theorem dX1_pays_67 : decode cX1_pays 67 = .ok (.ireturn, 1) := by decide +kernel
theorem dX1_pays_68 : decode cX1_pays 68 = .ok (.iconst 1, 1) := by decide +kernel
theorem dX1_pays_69 : decode cX1_pays 69 = .ok (.ireturn, 1) := by decide +kernel
theorem dX1_pays_70 : decode cX1_pays 70 = .ok (.iload_n 2, 1) := by decide +kernel
theorem dX1_pays_71 : decode cX1_pays 71 = .ok (.ireturn, 1) := by decide +kernel
set_option maxRecDepth 20000 in
set_option maxHeartbeats 4000000 in
theorem c_X1_pays {K : Cx} {x w : Int32} {m : TM} : CT yX1_pays cX1_pays 3 (some .int) 0 0 K [.int x, .int w] (m) (some (.int (pys x w))) (m) := by
  refine ct_ofd (n := 1) (by decide +kernel) rfl rfl ?_
  show XX RX1 cX1_pays 3 (some .int) 0 0 K 0 [some (.int x), some (.int w), none] [] (m) (fun r1 m1 => r1 = (some (.int (pys x w))) ∧ m1 = m)
  refine x_iload_n (q := 1) dX1_pays_0 rfl rfl ?_
  refine x_bipush (q := 3) (v := 10) dX1_pays_1 rfl (by decide) ?_
  refine x_idiv (q := 4) dX1_pays_3 rfl (by decide) ?_
  refine x_istore_n (q := 5) dX1_pays_4 rfl (by decide) rfl rfl ?_
  refine x_iload_n (q := 6) dX1_pays_5 rfl rfl ?_
  by_cases h6_1 : x = 1
  · refine x_tswC (q := 44) (k := 1) dX1_pays_6 h6_1 (by decide) (by decide) rfl (by decide) ?_
    refine x_iconst (q := 45) (v := 0) dX1_pays_44 rfl (by decide) ?_
    refine x_ireturn dX1_pays_45 rfl rfl ?_
    exact ⟨by simp [pys, bI, *], rfl⟩
  by_cases h6_2 : x = 2
  · refine x_tswC (q := 48) (k := 2) dX1_pays_6 h6_2 (by decide) (by decide) rfl (by decide) ?_
    refine x_iconst (q := 49) (v := 2) dX1_pays_48 rfl (by decide) ?_
    refine x_iload_n (q := 50) dX1_pays_49 rfl rfl ?_
    refine x_imul (q := 51) dX1_pays_50 rfl ?_
    refine x_ireturn dX1_pays_51 rfl rfl ?_
    exact ⟨by simp [pys, bI, *], rfl⟩
  by_cases h6_3 : x = 3
  · refine x_tswC (q := 52) (k := 3) dX1_pays_6 h6_3 (by decide) (by decide) rfl (by decide) ?_
    refine x_iconst (q := 53) (v := 2) dX1_pays_52 rfl (by decide) ?_
    refine x_iload_n (q := 54) dX1_pays_53 rfl rfl ?_
    refine x_imul (q := 55) dX1_pays_54 rfl ?_
    refine x_bipush (q := 57) (v := 10) dX1_pays_55 rfl (by decide) ?_
    refine x_iadd (q := 58) dX1_pays_57 rfl ?_
    refine x_ireturn dX1_pays_58 rfl rfl ?_
    exact ⟨by simp [pys, bI, *], rfl⟩
  by_cases h6_4 : x = 4
  · refine x_tswC (q := 59) (k := 4) dX1_pays_6 h6_4 (by decide) (by decide) rfl (by decide) ?_
    refine x_iconst (q := 60) (v := 3) dX1_pays_59 rfl (by decide) ?_
    refine x_iconst (q := 61) (v := 2) dX1_pays_60 rfl (by decide) ?_
    refine x_iload_n (q := 62) dX1_pays_61 rfl rfl ?_
    refine x_imul (q := 63) dX1_pays_62 rfl ?_
    refine x_bipush (q := 65) (v := 10) dX1_pays_63 rfl (by decide) ?_
    refine x_iadd (q := 66) dX1_pays_65 rfl ?_
    refine x_imul (q := 67) dX1_pays_66 rfl ?_
    refine x_ireturn dX1_pays_67 rfl rfl ?_
    exact ⟨by simp [pys, bI, *], rfl⟩
  by_cases h6_5 : x = 5
  · refine x_tswC (q := 68) (k := 5) dX1_pays_6 h6_5 (by decide) (by decide) rfl (by decide) ?_
    refine x_iconst (q := 69) (v := 1) dX1_pays_68 rfl (by decide) ?_
    refine x_ireturn dX1_pays_69 rfl rfl ?_
    exact ⟨by simp [pys, bI, *], rfl⟩
  by_cases h6_6 : x = 6
  · refine x_tswC (q := 46) (k := 6) dX1_pays_6 h6_6 (by decide) (by decide) rfl (by decide) ?_
    refine x_iconst (q := 47) (v := 5) dX1_pays_46 rfl (by decide) ?_
    refine x_ireturn dX1_pays_47 rfl rfl ?_
    exact ⟨by simp [pys, bI, *], rfl⟩
  refine x_tswD (q := 70) dX1_pays_6 (by have n1 := lv_neT h6_1 (a := 1) (by decide); have n2 := lv_neT h6_2 (a := 2) (by decide); have n3 := lv_neT h6_3 (a := 3) (by decide); have n4 := lv_neT h6_4 (a := 4) (by decide); have n5 := lv_neT h6_5 (a := 5) (by decide); have n6 := lv_neT h6_6 (a := 6) (by decide); omega) (by decide) ?_
  refine x_iload_n (q := 71) dX1_pays_70 rfl rfl ?_
  refine x_ireturn dX1_pays_71 rfl rfl ?_
  exact ⟨by simp [pys, bI, *], rfl⟩
theorem dX1_isStoned_0 : decode cX1_isStoned 0 = .ok (.iload_n 0, 1) := by decide +kernel
theorem dX1_isStoned_1 : decode cX1_isStoned 1 = .ok (.iconst 5, 1) := by decide +kernel
theorem dX1_isStoned_2 : decode cX1_isStoned 2 = .ok (.if_icmp .lt 7, 3) := by decide +kernel
theorem dX1_isStoned_5 : decode cX1_isStoned 5 = .ok (.iconst 1, 1) := by decide +kernel
theorem dX1_isStoned_6 : decode cX1_isStoned 6 = .ok (.goto 4, 3) := by decide +kernel
theorem dX1_isStoned_9 : decode cX1_isStoned 9 = .ok (.iconst 0, 1) := by decide +kernel
theorem dX1_isStoned_10 : decode cX1_isStoned 10 = .ok (.ireturn, 1) := by decide +kernel
set_option maxRecDepth 20000 in
set_option maxHeartbeats 4000000 in
theorem c_X1_isStoned {K : Cx} {w : Int32} {m : TM} : CT yX1_isStoned cX1_isStoned 1 (some .boolean) 0 0 K [.int w] (m) (some (.int (bI (!decide (w < 5))))) (m) := by
  refine ct_ofd (n := 0) (by decide +kernel) rfl rfl ?_
  show XX RX1 cX1_isStoned 1 (some .boolean) 0 0 K 0 [some (.int w)] [] (m) (fun r1 m1 => r1 = (some (.int (bI (!decide (w < 5))))) ∧ m1 = m)
  refine x_iload_n (q := 1) dX1_isStoned_0 rfl rfl ?_
  refine x_iconst (q := 2) (v := 5) dX1_isStoned_1 rfl (by decide) ?_
  refine x_icmp_lt (q := 5) (t := 9) dX1_isStoned_2 rfl (by decide) (fun h2 => ?_) (fun h2 => ?_)
  · refine x_iconst (q := 10) (v := 0) dX1_isStoned_9 rfl (by decide) ?_
    refine x_ireturn dX1_isStoned_10 rfl (by decide) ?_
    exact ⟨by simp [bI, bI, *], rfl⟩
  refine x_iconst (q := 6) (v := 1) dX1_isStoned_5 rfl (by decide) ?_
  refine x_goto (q := 10) dX1_isStoned_6 (by decide) ?_
  refine x_ireturn dX1_isStoned_10 rfl (by decide) ?_
  exact ⟨by simp [bI, bI, *], rfl⟩
theorem dX1_sinks_0 : decode cX1_sinks 0 = .ok (.iload_n 0, 1) := by decide +kernel
theorem dX1_sinks_1 : decode cX1_sinks 1 = .ok (.bipush 20, 2) := by decide +kernel
theorem dX1_sinks_3 : decode cX1_sinks 3 = .ok (.idiv, 1) := by decide +kernel
theorem dX1_sinks_4 : decode cX1_sinks 4 = .ok (.ireturn, 1) := by decide +kernel
set_option maxRecDepth 20000 in
set_option maxHeartbeats 4000000 in
theorem c_X1_sinks {K : Cx} {w : Int32} {m : TM} : CT yX1_sinks cX1_sinks 1 (some .int) 0 0 K [.int w] (m) (some (.int (w / 20))) (m) := by
  refine ct_ofd (n := 0) (by decide +kernel) rfl rfl ?_
  show XX RX1 cX1_sinks 1 (some .int) 0 0 K 0 [some (.int w)] [] (m) (fun r1 m1 => r1 = (some (.int (w / 20))) ∧ m1 = m)
  refine x_iload_n (q := 1) dX1_sinks_0 rfl rfl ?_
  refine x_bipush (q := 3) (v := 20) dX1_sinks_1 rfl (by decide) ?_
  refine x_idiv (q := 4) dX1_sinks_3 rfl (by decide) ?_
  refine x_ireturn dX1_sinks_4 rfl rfl ?_
  exact ⟨by simp [bI, bI, *], rfl⟩
theorem dX1_weighAlike_0 : decode cX1_weighAlike 0 = .ok (.iload_n 0, 1) := by decide +kernel
theorem dX1_weighAlike_1 : decode cX1_weighAlike 1 = .ok (.invokestatic 50, 3) := by decide +kernel
theorem dX1_weighAlike_4 : decode cX1_weighAlike 4 = .ok (.iload_n 1, 1) := by decide +kernel
theorem dX1_weighAlike_5 : decode cX1_weighAlike 5 = .ok (.invokestatic 50, 3) := by decide +kernel
theorem dX1_weighAlike_8 : decode cX1_weighAlike 8 = .ok (.if_icmp .ne 18, 3) := by decide +kernel
theorem dX1_weighAlike_11 : decode cX1_weighAlike 11 = .ok (.iload_n 0, 1) := by decide +kernel
theorem dX1_weighAlike_12 : decode cX1_weighAlike 12 = .ok (.invokestatic 54, 3) := by decide +kernel
theorem dX1_weighAlike_15 : decode cX1_weighAlike 15 = .ok (.iload_n 1, 1) := by decide +kernel
theorem dX1_weighAlike_16 : decode cX1_weighAlike 16 = .ok (.invokestatic 54, 3) := by decide +kernel
theorem dX1_weighAlike_19 : decode cX1_weighAlike 19 = .ok (.if_icmp .ne 7, 3) := by decide +kernel
theorem dX1_weighAlike_22 : decode cX1_weighAlike 22 = .ok (.iconst 1, 1) := by decide +kernel
theorem dX1_weighAlike_23 : decode cX1_weighAlike 23 = .ok (.goto 4, 3) := by decide +kernel
theorem dX1_weighAlike_26 : decode cX1_weighAlike 26 = .ok (.iconst 0, 1) := by decide +kernel
theorem dX1_weighAlike_27 : decode cX1_weighAlike 27 = .ok (.ireturn, 1) := by decide +kernel
set_option maxRecDepth 20000 in
set_option maxHeartbeats 4000000 in
theorem c_X1_weighAlike {K : Cx} {a b : Int32} {m : TM} : CT yX1_weighAlike cX1_weighAlike 2 (some .boolean) 1 20 K [.int a, .int b] (m) (some (.int (bI (wal a b)))) (m) := by
  refine ct_ofd (n := 0) (by decide +kernel) rfl rfl ?_
  show XX RX1 cX1_weighAlike 2 (some .boolean) 1 20 K 0 [some (.int a), some (.int b)] [] (m) (fun r1 m1 => r1 = (some (.int (bI (wal a b)))) ∧ m1 = m)
  refine x_iload_n (q := 1) dX1_weighAlike_0 rfl rfl ?_
  refine x_callS1v (q := 4) dX1_weighAlike_1 rfl ml_X1_50 ms_X1_isStoned c_X1_isStoned (Nat.le_of_ble_eq_true rfl) ⟨by decide, by decide⟩ ?_
  refine x_iload_n (q := 5) dX1_weighAlike_4 rfl rfl ?_
  refine x_callS1v (q := 8) dX1_weighAlike_5 rfl ml_X1_50 ms_X1_isStoned c_X1_isStoned (Nat.le_of_ble_eq_true rfl) ⟨by decide, by decide⟩ ?_
  refine x_icmp_ne (q := 11) (t := 26) dX1_weighAlike_8 rfl (by decide) (fun h8 => ?_) (fun h8 => ?_)
  · refine x_iconst (q := 27) (v := 0) dX1_weighAlike_26 rfl (by decide) ?_
    refine x_ireturn dX1_weighAlike_27 rfl (by decide) ?_
    exact ⟨by first | (rw [wal, decide_eq_true h8, decide_eq_true h19]; rfl) | (rw [wal, decide_eq_false h19, Bool.and_false]; rfl) | (rw [wal, decide_eq_false h8]; rfl), rfl⟩
  refine x_iload_n (q := 12) dX1_weighAlike_11 rfl rfl ?_
  refine x_callS1v (q := 15) dX1_weighAlike_12 rfl ml_X1_54 ms_X1_sinks c_X1_sinks (Nat.le_of_ble_eq_true rfl) ⟨by decide, by decide⟩ ?_
  refine x_iload_n (q := 16) dX1_weighAlike_15 rfl rfl ?_
  refine x_callS1v (q := 19) dX1_weighAlike_16 rfl ml_X1_54 ms_X1_sinks c_X1_sinks (Nat.le_of_ble_eq_true rfl) ⟨by decide, by decide⟩ ?_
  refine x_icmp_ne (q := 22) (t := 26) dX1_weighAlike_19 rfl (by decide) (fun h19 => ?_) (fun h19 => ?_)
  · refine x_iconst (q := 27) (v := 0) dX1_weighAlike_26 rfl (by decide) ?_
    refine x_ireturn dX1_weighAlike_27 rfl (by decide) ?_
    exact ⟨by first | (rw [wal, decide_eq_true h8, decide_eq_true h19]; rfl) | (rw [wal, decide_eq_false h19, Bool.and_false]; rfl) | (rw [wal, decide_eq_false h8]; rfl), rfl⟩
  refine x_iconst (q := 23) (v := 1) dX1_weighAlike_22 rfl (by decide) ?_
  refine x_goto (q := 27) dX1_weighAlike_23 (by decide) ?_
  refine x_ireturn dX1_weighAlike_27 rfl (by decide) ?_
  exact ⟨by first | (rw [wal, decide_eq_true h8, decide_eq_true h19]; rfl) | (rw [wal, decide_eq_false h19, Bool.and_false]; rfl) | (rw [wal, decide_eq_false h8]; rfl), rfl⟩
theorem dX1_isTouched_0 : decode cX1_isTouched 0 = .ok (.iload_n 1, 1) := by decide +kernel
theorem dX1_isTouched_1 : decode cX1_isTouched 1 = .ok (.aload_n 0, 1) := by decide +kernel
theorem dX1_isTouched_2 : decode cX1_isTouched 2 = .ok (.getfield 15, 3) := by decide +kernel
theorem dX1_isTouched_5 : decode cX1_isTouched 5 = .ok (.iconst 3, 1) := by decide +kernel
theorem dX1_isTouched_6 : decode cX1_isTouched 6 = .ok (.isub, 1) := by decide +kernel
theorem dX1_isTouched_7 : decode cX1_isTouched 7 = .ok (.if_icmp .lt 11, 3) := by decide +kernel
theorem dX1_isTouched_10 : decode cX1_isTouched 10 = .ok (.iload_n 1, 1) := by decide +kernel
theorem dX1_isTouched_11 : decode cX1_isTouched 11 = .ok (.ifCond .le 7, 3) := by decide +kernel
theorem dX1_isTouched_14 : decode cX1_isTouched 14 = .ok (.iconst 1, 1) := by decide +kernel
theorem dX1_isTouched_15 : decode cX1_isTouched 15 = .ok (.goto 4, 3) := by decide +kernel
theorem dX1_isTouched_18 : decode cX1_isTouched 18 = .ok (.iconst 0, 1) := by decide +kernel
theorem dX1_isTouched_19 : decode cX1_isTouched 19 = .ok (.ireturn, 1) := by decide +kernel
set_option maxRecDepth 20000 in
set_option maxHeartbeats 4000000 in
theorem c_X1_isTouched {K : Cx} {b k : Nat} {s : Nat → Int32} {t : Int32} {m : TM} (hb : isC b) (hk : k < 8) : CT yX1_isTouched cX1_isTouched 2 (some .boolean) 0 0 K [.ref (b + 4 + k), .int t] (sr m b s) (some (.int (bI (tch (s (12 + 7 * k + 1)) t)))) (sr m b s) := by
  refine ct_ofd (n := 0) (by decide +kernel) rfl rfl ?_
  show XX RX1 cX1_isTouched 2 (some .boolean) 0 0 K 0 [some (.ref (b + 4 + k)), some (.int t)] [] (sr m b s) (fun r1 m1 => r1 = (some (.int (bI (tch (s (12 + 7 * k + 1)) t)))) ∧ m1 = sr m b s)
  refine x_iload_n (q := 1) dX1_isTouched_0 rfl rfl ?_
  refine x_aload_n (q := 2) dX1_isTouched_1 rfl rfl ?_
  refine x_getIr (q := 5) dX1_isTouched_2 rfl fl_X1_15 (ob1 hb hk 1 (by decide)) ?_
  refine x_iconst (q := 6) (v := 3) dX1_isTouched_5 rfl (by decide) ?_
  refine x_isub (q := 7) dX1_isTouched_6 rfl ?_
  refine x_icmp_lt (q := 10) (t := 18) dX1_isTouched_7 rfl (by decide) (fun h7 => ?_) (fun h7 => ?_)
  · refine x_iconst (q := 19) (v := 0) dX1_isTouched_18 rfl (by decide) ?_
    refine x_ireturn dX1_isTouched_19 rfl (by decide) ?_
    exact ⟨by simp [tch, bI, *], rfl⟩
  refine x_iload_n (q := 11) dX1_isTouched_10 rfl rfl ?_
  refine x_if_le (q := 14) (t := 18) dX1_isTouched_11 rfl (by decide) (fun h11 => ?_) (fun h11 => ?_)
  · refine x_iconst (q := 19) (v := 0) dX1_isTouched_18 rfl (by decide) ?_
    refine x_ireturn dX1_isTouched_19 rfl (by decide) ?_
    exact ⟨by simp [tch, bI, *], rfl⟩
  refine x_iconst (q := 15) (v := 1) dX1_isTouched_14 rfl (by decide) ?_
  refine x_goto (q := 19) dX1_isTouched_15 (by decide) ?_
  refine x_ireturn dX1_isTouched_19 rfl (by decide) ?_
  exact ⟨by simp [tch, bI, *], rfl⟩
theorem dX1_isSignedFor_0 : decode cX1_isSignedFor 0 = .ok (.aload_n 0, 1) := by decide +kernel
theorem dX1_isSignedFor_1 : decode cX1_isSignedFor 1 = .ok (.getfield 9, 3) := by decide +kernel
theorem dX1_isSignedFor_4 : decode cX1_isSignedFor 4 = .ok (.tableswitch 179 1 6 #[40, 94, 116, 138, 169, 64], 40) := by decide +kernel
theorem dX1_isSignedFor_44 : decode cX1_isSignedFor 44 = .ok (.iload_n 1, 1) := by decide +kernel
theorem dX1_isSignedFor_45 : decode cX1_isSignedFor 45 = .ok (.aload_n 0, 1) := by decide +kernel
theorem dX1_isSignedFor_46 : decode cX1_isSignedFor 46 = .ok (.getfield 15, 3) := by decide +kernel
theorem dX1_isSignedFor_49 : decode cX1_isSignedFor 49 = .ok (.if_icmp .lt 17, 3) := by decide +kernel
theorem dX1_isSignedFor_52 : decode cX1_isSignedFor 52 = .ok (.aload_n 0, 1) := by decide +kernel
theorem dX1_isSignedFor_53 : decode cX1_isSignedFor 53 = .ok (.getfield 18, 3) := by decide +kernel
theorem dX1_isSignedFor_56 : decode cX1_isSignedFor 56 = .ok (.invokestatic 50, 3) := by decide +kernel
theorem dX1_isSignedFor_59 : decode cX1_isSignedFor 59 = .ok (.ifCond .eq 7, 3) := by decide +kernel
theorem dX1_isSignedFor_62 : decode cX1_isSignedFor 62 = .ok (.iconst 1, 1) := by decide +kernel
theorem dX1_isSignedFor_63 : decode cX1_isSignedFor 63 = .ok (.goto 4, 3) := by decide +kernel
theorem dX1_isSignedFor_66 : decode cX1_isSignedFor 66 = .ok (.iconst 0, 1) := by decide +kernel
theorem dX1_isSignedFor_67 : decode cX1_isSignedFor 67 = .ok (.ireturn, 1) := by decide +kernel
theorem dX1_isSignedFor_68 : decode cX1_isSignedFor 68 = .ok (.iload_n 1, 1) := by decide +kernel
theorem dX1_isSignedFor_69 : decode cX1_isSignedFor 69 = .ok (.aload_n 0, 1) := by decide +kernel
theorem dX1_isSignedFor_70 : decode cX1_isSignedFor 70 = .ok (.getfield 15, 3) := by decide +kernel
theorem dX1_isSignedFor_73 : decode cX1_isSignedFor 73 = .ok (.if_icmp .lt 23, 3) := by decide +kernel
theorem dX1_isSignedFor_76 : decode cX1_isSignedFor 76 = .ok (.aload_n 0, 1) := by decide +kernel
theorem dX1_isSignedFor_77 : decode cX1_isSignedFor 77 = .ok (.getfield 18, 3) := by decide +kernel
theorem dX1_isSignedFor_80 : decode cX1_isSignedFor 80 = .ok (.invokestatic 50, 3) := by decide +kernel
theorem dX1_isSignedFor_83 : decode cX1_isSignedFor 83 = .ok (.ifCond .eq 13, 3) := by decide +kernel
theorem dX1_isSignedFor_86 : decode cX1_isSignedFor 86 = .ok (.iload_n 2, 1) := by decide +kernel
theorem dX1_isSignedFor_87 : decode cX1_isSignedFor 87 = .ok (.iconst 2, 1) := by decide +kernel
theorem dX1_isSignedFor_88 : decode cX1_isSignedFor 88 = .ok (.irem, 1) := by decide +kernel
theorem dX1_isSignedFor_89 : decode cX1_isSignedFor 89 = .ok (.ifCond .ne 7, 3) := by decide +kernel
theorem dX1_isSignedFor_92 : decode cX1_isSignedFor 92 = .ok (.iconst 1, 1) := by decide +kernel
theorem dX1_isSignedFor_93 : decode cX1_isSignedFor 93 = .ok (.goto 4, 3) := by decide +kernel
theorem dX1_isSignedFor_96 : decode cX1_isSignedFor 96 = .ok (.iconst 0, 1) := by decide +kernel
theorem dX1_isSignedFor_97 : decode cX1_isSignedFor 97 = .ok (.ireturn, 1) := by decide +kernel
theorem dX1_isSignedFor_98 : decode cX1_isSignedFor 98 = .ok (.iload_n 1, 1) := by decide +kernel
theorem dX1_isSignedFor_99 : decode cX1_isSignedFor 99 = .ok (.aload_n 0, 1) := by decide +kernel
theorem dX1_isSignedFor_100 : decode cX1_isSignedFor 100 = .ok (.getfield 15, 3) := by decide +kernel
theorem dX1_isSignedFor_103 : decode cX1_isSignedFor 103 = .ok (.aload_n 0, 1) := by decide +kernel
theorem dX1_isSignedFor_104 : decode cX1_isSignedFor 104 = .ok (.getfield 18, 3) := by decide +kernel
theorem dX1_isSignedFor_107 : decode cX1_isSignedFor 107 = .ok (.invokestatic 54, 3) := by decide +kernel
theorem dX1_isSignedFor_110 : decode cX1_isSignedFor 110 = .ok (.iadd, 1) := by decide +kernel
theorem dX1_isSignedFor_111 : decode cX1_isSignedFor 111 = .ok (.if_icmp .lt 7, 3) := by decide +kernel
theorem dX1_isSignedFor_114 : decode cX1_isSignedFor 114 = .ok (.iconst 1, 1) := by decide +kernel
theorem dX1_isSignedFor_115 : decode cX1_isSignedFor 115 = .ok (.goto 4, 3) := by decide +kernel
theorem dX1_isSignedFor_118 : decode cX1_isSignedFor 118 = .ok (.iconst 0, 1) := by decide +kernel
theorem dX1_isSignedFor_119 : decode cX1_isSignedFor 119 = .ok (.ireturn, 1) := by decide +kernel
theorem dX1_isSignedFor_120 : decode cX1_isSignedFor 120 = .ok (.iload_n 1, 1) := by decide +kernel
theorem dX1_isSignedFor_121 : decode cX1_isSignedFor 121 = .ok (.aload_n 0, 1) := by decide +kernel
theorem dX1_isSignedFor_122 : decode cX1_isSignedFor 122 = .ok (.getfield 15, 3) := by decide +kernel
theorem dX1_isSignedFor_125 : decode cX1_isSignedFor 125 = .ok (.aload_n 0, 1) := by decide +kernel
theorem dX1_isSignedFor_126 : decode cX1_isSignedFor 126 = .ok (.getfield 18, 3) := by decide +kernel
theorem dX1_isSignedFor_129 : decode cX1_isSignedFor 129 = .ok (.invokestatic 54, 3) := by decide +kernel
theorem dX1_isSignedFor_132 : decode cX1_isSignedFor 132 = .ok (.iadd, 1) := by decide +kernel
theorem dX1_isSignedFor_133 : decode cX1_isSignedFor 133 = .ok (.if_icmp .lt 7, 3) := by decide +kernel
theorem dX1_isSignedFor_136 : decode cX1_isSignedFor 136 = .ok (.iconst 1, 1) := by decide +kernel
theorem dX1_isSignedFor_137 : decode cX1_isSignedFor 137 = .ok (.goto 4, 3) := by decide +kernel
theorem dX1_isSignedFor_140 : decode cX1_isSignedFor 140 = .ok (.iconst 0, 1) := by decide +kernel
theorem dX1_isSignedFor_141 : decode cX1_isSignedFor 141 = .ok (.ireturn, 1) := by decide +kernel
theorem dX1_isSignedFor_142 : decode cX1_isSignedFor 142 = .ok (.iload_n 1, 1) := by decide +kernel
theorem dX1_isSignedFor_143 : decode cX1_isSignedFor 143 = .ok (.aload_n 0, 1) := by decide +kernel
theorem dX1_isSignedFor_144 : decode cX1_isSignedFor 144 = .ok (.getfield 15, 3) := by decide +kernel
theorem dX1_isSignedFor_147 : decode cX1_isSignedFor 147 = .ok (.aload_n 0, 1) := by decide +kernel
theorem dX1_isSignedFor_148 : decode cX1_isSignedFor 148 = .ok (.getfield 18, 3) := by decide +kernel
theorem dX1_isSignedFor_151 : decode cX1_isSignedFor 151 = .ok (.invokestatic 54, 3) := by decide +kernel
theorem dX1_isSignedFor_154 : decode cX1_isSignedFor 154 = .ok (.iadd, 1) := by decide +kernel
theorem dX1_isSignedFor_155 : decode cX1_isSignedFor 155 = .ok (.if_icmp .lt 16, 3) := by decide +kernel
theorem dX1_isSignedFor_158 : decode cX1_isSignedFor 158 = .ok (.aload_n 0, 1) := by decide +kernel
theorem dX1_isSignedFor_159 : decode cX1_isSignedFor 159 = .ok (.getfield 30, 3) := by decide +kernel
theorem dX1_isSignedFor_162 : decode cX1_isSignedFor 162 = .ok (.bipush 7, 2) := by decide +kernel
theorem dX1_isSignedFor_164 : decode cX1_isSignedFor 164 = .ok (.if_icmp .lt 7, 3) := by decide +kernel
theorem dX1_isSignedFor_167 : decode cX1_isSignedFor 167 = .ok (.iconst 1, 1) := by decide +kernel
theorem dX1_isSignedFor_168 : decode cX1_isSignedFor 168 = .ok (.goto 4, 3) := by decide +kernel
theorem dX1_isSignedFor_171 : decode cX1_isSignedFor 171 = .ok (.iconst 0, 1) := by decide +kernel
theorem dX1_isSignedFor_172 : decode cX1_isSignedFor 172 = .ok (.ireturn, 1) := by decide +kernel
theorem dX1_isSignedFor_173 : decode cX1_isSignedFor 173 = .ok (.iload_n 1, 1) := by decide +kernel
theorem dX1_isSignedFor_174 : decode cX1_isSignedFor 174 = .ok (.ifCond .le 7, 3) := by decide +kernel
theorem dX1_isSignedFor_177 : decode cX1_isSignedFor 177 = .ok (.iconst 1, 1) := by decide +kernel
theorem dX1_isSignedFor_178 : decode cX1_isSignedFor 178 = .ok (.goto 4, 3) := by decide +kernel
theorem dX1_isSignedFor_181 : decode cX1_isSignedFor 181 = .ok (.iconst 0, 1) := by decide +kernel
theorem dX1_isSignedFor_182 : decode cX1_isSignedFor 182 = .ok (.ireturn, 1) := by decide +kernel
theorem dX1_isSignedFor_183 : decode cX1_isSignedFor 183 = .ok (.iload_n 1, 1) := by decide +kernel
theorem dX1_isSignedFor_184 : decode cX1_isSignedFor 184 = .ok (.aload_n 0, 1) := by decide +kernel
theorem dX1_isSignedFor_185 : decode cX1_isSignedFor 185 = .ok (.getfield 15, 3) := by decide +kernel
theorem dX1_isSignedFor_188 : decode cX1_isSignedFor 188 = .ok (.if_icmp .lt 7, 3) := by decide +kernel
theorem dX1_isSignedFor_191 : decode cX1_isSignedFor 191 = .ok (.iconst 1, 1) := by decide +kernel
theorem dX1_isSignedFor_192 : decode cX1_isSignedFor 192 = .ok (.goto 4, 3) := by decide +kernel
theorem dX1_isSignedFor_195 : decode cX1_isSignedFor 195 = .ok (.iconst 0, 1) := by decide +kernel
theorem dX1_isSignedFor_196 : decode cX1_isSignedFor 196 = .ok (.ireturn, 1) := by decide +kernel
set_option maxRecDepth 20000 in
set_option maxHeartbeats 4000000 in
theorem c_X1_isSignedFor {K : Cx} {b k : Nat} {s : Nat → Int32} {t d : Int32} {m : TM} (hb : isC b) (hk : k < 8) : CT yX1_isSignedFor cX1_isSignedFor 3 (some .boolean) 1 20 K [.ref (b + 4 + k), .int t, .int d] (sr m b s) (some (.int (bI (sg (s (12 + 7 * k + 0)) (s (12 + 7 * k + 1)) (s (12 + 7 * k + 2)) (s (12 + 7 * k + 6)) d t)))) (sr m b s) := by
  refine ct_ofd (n := 0) (by decide +kernel) rfl rfl ?_
  show XX RX1 cX1_isSignedFor 3 (some .boolean) 1 20 K 0 [some (.ref (b + 4 + k)), some (.int t), some (.int d)] [] (sr m b s) (fun r1 m1 => r1 = (some (.int (bI (sg (s (12 + 7 * k + 0)) (s (12 + 7 * k + 1)) (s (12 + 7 * k + 2)) (s (12 + 7 * k + 6)) d t)))) ∧ m1 = sr m b s)
  refine x_aload_n (q := 1) dX1_isSignedFor_0 rfl rfl ?_
  refine x_getIr (q := 4) dX1_isSignedFor_1 rfl fl_X1_9 (ob1 hb hk 0 (by decide)) ?_
  by_cases h4_1 : s (12 + 7 * k + 0) = 1
  · refine x_tswC (q := 44) (k := 1) dX1_isSignedFor_4 h4_1 (by decide) (by decide) rfl (by decide) ?_
    refine x_iload_n (q := 45) dX1_isSignedFor_44 rfl rfl ?_
    refine x_aload_n (q := 46) dX1_isSignedFor_45 rfl rfl ?_
    refine x_getIr (q := 49) dX1_isSignedFor_46 rfl fl_X1_15 (ob1 hb hk 1 (by decide)) ?_
    refine x_icmp_lt (q := 52) (t := 66) dX1_isSignedFor_49 rfl (by decide) (fun h49 => ?_) (fun h49 => ?_)
    · refine x_iconst (q := 67) (v := 0) dX1_isSignedFor_66 rfl (by decide) ?_
      refine x_ireturn dX1_isSignedFor_67 rfl (by decide) ?_
      exact ⟨by simp_all [sg, bI], rfl⟩
    refine x_aload_n (q := 53) dX1_isSignedFor_52 rfl rfl ?_
    refine x_getIr (q := 56) dX1_isSignedFor_53 rfl fl_X1_18 (ob1 hb hk 2 (by decide)) ?_
    refine x_callS1v (q := 59) dX1_isSignedFor_56 rfl ml_X1_50 ms_X1_isStoned c_X1_isStoned (Nat.le_of_ble_eq_true rfl) ⟨by decide, by decide⟩ ?_
    refine x_ifB_eq (q := 62) (t := 66) dX1_isSignedFor_59 rfl (by decide) (fun h59 => ?_) (fun h59 => ?_)
    · refine x_iconst (q := 67) (v := 0) dX1_isSignedFor_66 rfl (by decide) ?_
      refine x_ireturn dX1_isSignedFor_67 rfl (by decide) ?_
      exact ⟨by simp_all [sg, bI], rfl⟩
    refine x_iconst (q := 63) (v := 1) dX1_isSignedFor_62 rfl (by decide) ?_
    refine x_goto (q := 67) dX1_isSignedFor_63 (by decide) ?_
    refine x_ireturn dX1_isSignedFor_67 rfl (by decide) ?_
    exact ⟨by simp_all [sg, bI], rfl⟩
  by_cases h4_2 : s (12 + 7 * k + 0) = 2
  · refine x_tswC (q := 98) (k := 2) dX1_isSignedFor_4 h4_2 (by decide) (by decide) rfl (by decide) ?_
    refine x_iload_n (q := 99) dX1_isSignedFor_98 rfl rfl ?_
    refine x_aload_n (q := 100) dX1_isSignedFor_99 rfl rfl ?_
    refine x_getIr (q := 103) dX1_isSignedFor_100 rfl fl_X1_15 (ob1 hb hk 1 (by decide)) ?_
    refine x_aload_n (q := 104) dX1_isSignedFor_103 rfl rfl ?_
    refine x_getIr (q := 107) dX1_isSignedFor_104 rfl fl_X1_18 (ob1 hb hk 2 (by decide)) ?_
    refine x_callS1v (q := 110) dX1_isSignedFor_107 rfl ml_X1_54 ms_X1_sinks c_X1_sinks (Nat.le_of_ble_eq_true rfl) ⟨by decide, by decide⟩ ?_
    refine x_iadd (q := 111) dX1_isSignedFor_110 rfl ?_
    refine x_icmp_lt (q := 114) (t := 118) dX1_isSignedFor_111 rfl (by decide) (fun h111 => ?_) (fun h111 => ?_)
    · refine x_iconst (q := 119) (v := 0) dX1_isSignedFor_118 rfl (by decide) ?_
      refine x_ireturn dX1_isSignedFor_119 rfl (by decide) ?_
      exact ⟨by simp_all [sg, bI], rfl⟩
    refine x_iconst (q := 115) (v := 1) dX1_isSignedFor_114 rfl (by decide) ?_
    refine x_goto (q := 119) dX1_isSignedFor_115 (by decide) ?_
    refine x_ireturn dX1_isSignedFor_119 rfl (by decide) ?_
    exact ⟨by simp_all [sg, bI], rfl⟩
  by_cases h4_3 : s (12 + 7 * k + 0) = 3
  · refine x_tswC (q := 120) (k := 3) dX1_isSignedFor_4 h4_3 (by decide) (by decide) rfl (by decide) ?_
    refine x_iload_n (q := 121) dX1_isSignedFor_120 rfl rfl ?_
    refine x_aload_n (q := 122) dX1_isSignedFor_121 rfl rfl ?_
    refine x_getIr (q := 125) dX1_isSignedFor_122 rfl fl_X1_15 (ob1 hb hk 1 (by decide)) ?_
    refine x_aload_n (q := 126) dX1_isSignedFor_125 rfl rfl ?_
    refine x_getIr (q := 129) dX1_isSignedFor_126 rfl fl_X1_18 (ob1 hb hk 2 (by decide)) ?_
    refine x_callS1v (q := 132) dX1_isSignedFor_129 rfl ml_X1_54 ms_X1_sinks c_X1_sinks (Nat.le_of_ble_eq_true rfl) ⟨by decide, by decide⟩ ?_
    refine x_iadd (q := 133) dX1_isSignedFor_132 rfl ?_
    refine x_icmp_lt (q := 136) (t := 140) dX1_isSignedFor_133 rfl (by decide) (fun h133 => ?_) (fun h133 => ?_)
    · refine x_iconst (q := 141) (v := 0) dX1_isSignedFor_140 rfl (by decide) ?_
      refine x_ireturn dX1_isSignedFor_141 rfl (by decide) ?_
      exact ⟨by simp_all [sg, bI], rfl⟩
    refine x_iconst (q := 137) (v := 1) dX1_isSignedFor_136 rfl (by decide) ?_
    refine x_goto (q := 141) dX1_isSignedFor_137 (by decide) ?_
    refine x_ireturn dX1_isSignedFor_141 rfl (by decide) ?_
    exact ⟨by simp_all [sg, bI], rfl⟩
  by_cases h4_4 : s (12 + 7 * k + 0) = 4
  · refine x_tswC (q := 142) (k := 4) dX1_isSignedFor_4 h4_4 (by decide) (by decide) rfl (by decide) ?_
    refine x_iload_n (q := 143) dX1_isSignedFor_142 rfl rfl ?_
    refine x_aload_n (q := 144) dX1_isSignedFor_143 rfl rfl ?_
    refine x_getIr (q := 147) dX1_isSignedFor_144 rfl fl_X1_15 (ob1 hb hk 1 (by decide)) ?_
    refine x_aload_n (q := 148) dX1_isSignedFor_147 rfl rfl ?_
    refine x_getIr (q := 151) dX1_isSignedFor_148 rfl fl_X1_18 (ob1 hb hk 2 (by decide)) ?_
    refine x_callS1v (q := 154) dX1_isSignedFor_151 rfl ml_X1_54 ms_X1_sinks c_X1_sinks (Nat.le_of_ble_eq_true rfl) ⟨by decide, by decide⟩ ?_
    refine x_iadd (q := 155) dX1_isSignedFor_154 rfl ?_
    refine x_icmp_lt (q := 158) (t := 171) dX1_isSignedFor_155 rfl (by decide) (fun h155 => ?_) (fun h155 => ?_)
    · refine x_iconst (q := 172) (v := 0) dX1_isSignedFor_171 rfl (by decide) ?_
      refine x_ireturn dX1_isSignedFor_172 rfl (by decide) ?_
      exact ⟨by simp_all [sg, bI], rfl⟩
    refine x_aload_n (q := 159) dX1_isSignedFor_158 rfl rfl ?_
    refine x_getIr (q := 162) dX1_isSignedFor_159 rfl fl_X1_30 (ob1 hb hk 6 (by decide)) ?_
    refine x_bipush (q := 164) (v := 7) dX1_isSignedFor_162 rfl (by decide) ?_
    refine x_icmp_lt (q := 167) (t := 171) dX1_isSignedFor_164 rfl (by decide) (fun h164 => ?_) (fun h164 => ?_)
    · refine x_iconst (q := 172) (v := 0) dX1_isSignedFor_171 rfl (by decide) ?_
      refine x_ireturn dX1_isSignedFor_172 rfl (by decide) ?_
      exact ⟨by simp_all [sg, bI], rfl⟩
    refine x_iconst (q := 168) (v := 1) dX1_isSignedFor_167 rfl (by decide) ?_
    refine x_goto (q := 172) dX1_isSignedFor_168 (by decide) ?_
    refine x_ireturn dX1_isSignedFor_172 rfl (by decide) ?_
    exact ⟨by simp_all [sg, bI], rfl⟩
  by_cases h4_5 : s (12 + 7 * k + 0) = 5
  · refine x_tswC (q := 173) (k := 5) dX1_isSignedFor_4 h4_5 (by decide) (by decide) rfl (by decide) ?_
    refine x_iload_n (q := 174) dX1_isSignedFor_173 rfl rfl ?_
    refine x_if_le (q := 177) (t := 181) dX1_isSignedFor_174 rfl (by decide) (fun h174 => ?_) (fun h174 => ?_)
    · refine x_iconst (q := 182) (v := 0) dX1_isSignedFor_181 rfl (by decide) ?_
      refine x_ireturn dX1_isSignedFor_182 rfl (by decide) ?_
      exact ⟨by simp_all [sg, bI], rfl⟩
    refine x_iconst (q := 178) (v := 1) dX1_isSignedFor_177 rfl (by decide) ?_
    refine x_goto (q := 182) dX1_isSignedFor_178 (by decide) ?_
    refine x_ireturn dX1_isSignedFor_182 rfl (by decide) ?_
    exact ⟨by simp_all [sg, bI], rfl⟩
  by_cases h4_6 : s (12 + 7 * k + 0) = 6
  · refine x_tswC (q := 68) (k := 6) dX1_isSignedFor_4 h4_6 (by decide) (by decide) rfl (by decide) ?_
    refine x_iload_n (q := 69) dX1_isSignedFor_68 rfl rfl ?_
    refine x_aload_n (q := 70) dX1_isSignedFor_69 rfl rfl ?_
    refine x_getIr (q := 73) dX1_isSignedFor_70 rfl fl_X1_15 (ob1 hb hk 1 (by decide)) ?_
    refine x_icmp_lt (q := 76) (t := 96) dX1_isSignedFor_73 rfl (by decide) (fun h73 => ?_) (fun h73 => ?_)
    · refine x_iconst (q := 97) (v := 0) dX1_isSignedFor_96 rfl (by decide) ?_
      refine x_ireturn dX1_isSignedFor_97 rfl (by decide) ?_
      exact ⟨by simp_all [sg, bI], rfl⟩
    refine x_aload_n (q := 77) dX1_isSignedFor_76 rfl rfl ?_
    refine x_getIr (q := 80) dX1_isSignedFor_77 rfl fl_X1_18 (ob1 hb hk 2 (by decide)) ?_
    refine x_callS1v (q := 83) dX1_isSignedFor_80 rfl ml_X1_50 ms_X1_isStoned c_X1_isStoned (Nat.le_of_ble_eq_true rfl) ⟨by decide, by decide⟩ ?_
    refine x_ifB_eq (q := 86) (t := 96) dX1_isSignedFor_83 rfl (by decide) (fun h83 => ?_) (fun h83 => ?_)
    · refine x_iconst (q := 97) (v := 0) dX1_isSignedFor_96 rfl (by decide) ?_
      refine x_ireturn dX1_isSignedFor_97 rfl (by decide) ?_
      exact ⟨by simp_all [sg, bI], rfl⟩
    refine x_iload_n (q := 87) dX1_isSignedFor_86 rfl rfl ?_
    refine x_iconst (q := 88) (v := 2) dX1_isSignedFor_87 rfl (by decide) ?_
    refine x_irem (q := 89) dX1_isSignedFor_88 rfl (by decide) ?_
    refine x_if_ne (q := 92) (t := 96) dX1_isSignedFor_89 rfl (by decide) (fun h89 => ?_) (fun h89 => ?_)
    · refine x_iconst (q := 97) (v := 0) dX1_isSignedFor_96 rfl (by decide) ?_
      refine x_ireturn dX1_isSignedFor_97 rfl (by decide) ?_
      exact ⟨by simp_all [sg, bI], rfl⟩
    refine x_iconst (q := 93) (v := 1) dX1_isSignedFor_92 rfl (by decide) ?_
    refine x_goto (q := 97) dX1_isSignedFor_93 (by decide) ?_
    refine x_ireturn dX1_isSignedFor_97 rfl (by decide) ?_
    exact ⟨by simp_all [sg, bI], rfl⟩
  refine x_tswD (q := 183) dX1_isSignedFor_4 (by have n1 := lv_neT h4_1 (a := 1) (by decide); have n2 := lv_neT h4_2 (a := 2) (by decide); have n3 := lv_neT h4_3 (a := 3) (by decide); have n4 := lv_neT h4_4 (a := 4) (by decide); have n5 := lv_neT h4_5 (a := 5) (by decide); have n6 := lv_neT h4_6 (a := 6) (by decide); omega) (by decide) ?_
  refine x_iload_n (q := 184) dX1_isSignedFor_183 rfl rfl ?_
  refine x_aload_n (q := 185) dX1_isSignedFor_184 rfl rfl ?_
  refine x_getIr (q := 188) dX1_isSignedFor_185 rfl fl_X1_15 (ob1 hb hk 1 (by decide)) ?_
  refine x_icmp_lt (q := 191) (t := 195) dX1_isSignedFor_188 rfl (by decide) (fun h188 => ?_) (fun h188 => ?_)
  · refine x_iconst (q := 196) (v := 0) dX1_isSignedFor_195 rfl (by decide) ?_
    refine x_ireturn dX1_isSignedFor_196 rfl (by decide) ?_
    exact ⟨by simp_all [sg, bI], rfl⟩
  refine x_iconst (q := 192) (v := 1) dX1_isSignedFor_191 rfl (by decide) ?_
  refine x_goto (q := 196) dX1_isSignedFor_192 (by decide) ?_
  refine x_ireturn dX1_isSignedFor_196 rfl (by decide) ?_
  exact ⟨by simp_all [sg, bI], rfl⟩
theorem dX1_told_0 : decode cX1_told 0 = .ok (.iload_n 1, 1) := by decide +kernel
theorem dX1_told_1 : decode cX1_told 1 = .ok (.tableswitch 118 0 9 #[55, 60, 65, 70, 75, 80, 85, 90, 98, 106], 55) := by decide +kernel
theorem dX1_told_56 : decode cX1_told 56 = .ok (.aload_n 0, 1) := by decide +kernel
theorem dX1_told_57 : decode cX1_told 57 = .ok (.getfield 9, 3) := by decide +kernel
theorem dX1_told_60 : decode cX1_told 60 = .ok (.ireturn, 1) := by decide +kernel
theorem dX1_told_61 : decode cX1_told 61 = .ok (.aload_n 0, 1) := by decide +kernel
theorem dX1_told_62 : decode cX1_told 62 = .ok (.getfield 15, 3) := by decide +kernel
theorem dX1_told_65 : decode cX1_told 65 = .ok (.ireturn, 1) := by decide +kernel
theorem dX1_told_66 : decode cX1_told 66 = .ok (.aload_n 0, 1) := by decide +kernel
theorem dX1_told_67 : decode cX1_told 67 = .ok (.getfield 18, 3) := by decide +kernel
theorem dX1_told_70 : decode cX1_told 70 = .ok (.ireturn, 1) := by decide +kernel
theorem dX1_told_71 : decode cX1_told 71 = .ok (.aload_n 0, 1) := by decide +kernel
theorem dX1_told_72 : decode cX1_told 72 = .ok (.getfield 21, 3) := by decide +kernel
theorem dX1_told_75 : decode cX1_told 75 = .ok (.ireturn, 1) := by decide +kernel
theorem dX1_told_76 : decode cX1_told 76 = .ok (.aload_n 0, 1) := by decide +kernel
theorem dX1_told_77 : decode cX1_told 77 = .ok (.getfield 24, 3) := by decide +kernel
theorem dX1_told_80 : decode cX1_told 80 = .ok (.ireturn, 1) := by decide +kernel
theorem dX1_told_81 : decode cX1_told 81 = .ok (.aload_n 0, 1) := by decide +kernel
theorem dX1_told_82 : decode cX1_told 82 = .ok (.getfield 27, 3) := by decide +kernel
theorem dX1_told_85 : decode cX1_told 85 = .ok (.ireturn, 1) := by decide +kernel
theorem dX1_told_86 : decode cX1_told 86 = .ok (.aload_n 0, 1) := by decide +kernel
theorem dX1_told_87 : decode cX1_told 87 = .ok (.getfield 30, 3) := by decide +kernel
theorem dX1_told_90 : decode cX1_told 90 = .ok (.ireturn, 1) := by decide +kernel
theorem dX1_told_91 : decode cX1_told 91 = .ok (.aload_n 0, 1) := by decide +kernel
theorem dX1_told_92 : decode cX1_told 92 = .ok (.getfield 9, 3) := by decide +kernel
theorem dX1_told_95 : decode cX1_told 95 = .ok (.invokestatic 33, 3) := by decide +kernel
theorem dX1_told_98 : decode cX1_told 98 = .ok (.ireturn, 1) := by decide +kernel
theorem dX1_told_99 : decode cX1_told 99 = .ok (.aload_n 0, 1) := by decide +kernel
theorem dX1_told_100 : decode cX1_told 100 = .ok (.getfield 9, 3) := by decide +kernel
theorem dX1_told_103 : decode cX1_told 103 = .ok (.invokestatic 37, 3) := by decide +kernel
theorem dX1_told_106 : decode cX1_told 106 = .ok (.ireturn, 1) := by decide +kernel
theorem dX1_told_107 : decode cX1_told 107 = .ok (.aload_n 0, 1) := by decide +kernel
theorem dX1_told_108 : decode cX1_told 108 = .ok (.getfield 9, 3) := by decide +kernel
theorem dX1_told_111 : decode cX1_told 111 = .ok (.aload_n 0, 1) := by decide +kernel
theorem dX1_told_112 : decode cX1_told 112 = .ok (.getfield 18, 3) := by decide +kernel
theorem dX1_told_115 : decode cX1_told 115 = .ok (.invokestatic 40, 3) := by decide +kernel
theorem dX1_told_118 : decode cX1_told 118 = .ok (.ireturn, 1) := by decide +kernel
theorem dX1_told_119 : decode cX1_told 119 = .ok (.aload_n 0, 1) := by decide +kernel
theorem dX1_told_120 : decode cX1_told 120 = .ok (.getfield 9, 3) := by decide +kernel
theorem dX1_told_123 : decode cX1_told 123 = .ok (.invokestatic 44, 3) := by decide +kernel
theorem dX1_told_126 : decode cX1_told 126 = .ok (.ireturn, 1) := by decide +kernel
set_option maxRecDepth 20000 in
set_option maxHeartbeats 4000000 in
theorem c_X1_told {K : Cx} {b k : Nat} {s : Nat → Int32} {x : Int32} {m : TM} (hb : isC b) (hk : k < 8) : CT yX1_told cX1_told 2 (some .int) 1 22 K [.ref (b + 4 + k), .int x] (sr m b s) (some (.int (tld s k x))) (sr m b s) := by
  refine ct_ofd (n := 0) (by decide +kernel) rfl rfl ?_
  show XX RX1 cX1_told 2 (some .int) 1 22 K 0 [some (.ref (b + 4 + k)), some (.int x)] [] (sr m b s) (fun r1 m1 => r1 = (some (.int (tld s k x))) ∧ m1 = sr m b s)
  refine x_iload_n (q := 1) dX1_told_0 rfl rfl ?_
  by_cases h1_0 : x = 0
  · refine x_tswC (q := 56) (k := 0) dX1_told_1 h1_0 (by decide) (by decide) rfl (by decide) ?_
    refine x_aload_n (q := 57) dX1_told_56 rfl rfl ?_
    refine x_getIr (q := 60) dX1_told_57 rfl fl_X1_9 (ob1 hb hk 0 (by decide)) ?_
    refine x_ireturn dX1_told_60 rfl rfl ?_
    exact ⟨by simp [tld, bI, *], rfl⟩
  by_cases h1_1 : x = 1
  · refine x_tswC (q := 61) (k := 1) dX1_told_1 h1_1 (by decide) (by decide) rfl (by decide) ?_
    refine x_aload_n (q := 62) dX1_told_61 rfl rfl ?_
    refine x_getIr (q := 65) dX1_told_62 rfl fl_X1_15 (ob1 hb hk 1 (by decide)) ?_
    refine x_ireturn dX1_told_65 rfl rfl ?_
    exact ⟨by simp [tld, bI, *], rfl⟩
  by_cases h1_2 : x = 2
  · refine x_tswC (q := 66) (k := 2) dX1_told_1 h1_2 (by decide) (by decide) rfl (by decide) ?_
    refine x_aload_n (q := 67) dX1_told_66 rfl rfl ?_
    refine x_getIr (q := 70) dX1_told_67 rfl fl_X1_18 (ob1 hb hk 2 (by decide)) ?_
    refine x_ireturn dX1_told_70 rfl rfl ?_
    exact ⟨by simp [tld, bI, *], rfl⟩
  by_cases h1_3 : x = 3
  · refine x_tswC (q := 71) (k := 3) dX1_told_1 h1_3 (by decide) (by decide) rfl (by decide) ?_
    refine x_aload_n (q := 72) dX1_told_71 rfl rfl ?_
    refine x_getIr (q := 75) dX1_told_72 rfl fl_X1_21 (ob1 hb hk 3 (by decide)) ?_
    refine x_ireturn dX1_told_75 rfl rfl ?_
    exact ⟨by simp [tld, bI, *], rfl⟩
  by_cases h1_4 : x = 4
  · refine x_tswC (q := 76) (k := 4) dX1_told_1 h1_4 (by decide) (by decide) rfl (by decide) ?_
    refine x_aload_n (q := 77) dX1_told_76 rfl rfl ?_
    refine x_getIr (q := 80) dX1_told_77 rfl fl_X1_24 (ob1 hb hk 4 (by decide)) ?_
    refine x_ireturn dX1_told_80 rfl rfl ?_
    exact ⟨by simp [tld, bI, *], rfl⟩
  by_cases h1_5 : x = 5
  · refine x_tswC (q := 81) (k := 5) dX1_told_1 h1_5 (by decide) (by decide) rfl (by decide) ?_
    refine x_aload_n (q := 82) dX1_told_81 rfl rfl ?_
    refine x_getIr (q := 85) dX1_told_82 rfl fl_X1_27 (ob1 hb hk 5 (by decide)) ?_
    refine x_ireturn dX1_told_85 rfl rfl ?_
    exact ⟨by simp [tld, bI, *], rfl⟩
  by_cases h1_6 : x = 6
  · refine x_tswC (q := 86) (k := 6) dX1_told_1 h1_6 (by decide) (by decide) rfl (by decide) ?_
    refine x_aload_n (q := 87) dX1_told_86 rfl rfl ?_
    refine x_getIr (q := 90) dX1_told_87 rfl fl_X1_30 (ob1 hb hk 6 (by decide)) ?_
    refine x_ireturn dX1_told_90 rfl rfl ?_
    exact ⟨by simp [tld, bI, *], rfl⟩
  by_cases h1_7 : x = 7
  · refine x_tswC (q := 91) (k := 7) dX1_told_1 h1_7 (by decide) (by decide) rfl (by decide) ?_
    refine x_aload_n (q := 92) dX1_told_91 rfl rfl ?_
    refine x_getIr (q := 95) dX1_told_92 rfl fl_X1_9 (ob1 hb hk 0 (by decide)) ?_
    refine x_callS1v (q := 98) dX1_told_95 rfl ml_X1_33 ms_X1_moves c_X1_moves (Nat.le_of_ble_eq_true rfl) ⟨by decide, by decide⟩ ?_
    refine x_ireturn dX1_told_98 rfl rfl ?_
    exact ⟨by simp [tld, bI, *], rfl⟩
  by_cases h1_8 : x = 8
  · refine x_tswC (q := 99) (k := 8) dX1_told_1 h1_8 (by decide) (by decide) rfl (by decide) ?_
    refine x_aload_n (q := 100) dX1_told_99 rfl rfl ?_
    refine x_getIr (q := 103) dX1_told_100 rfl fl_X1_9 (ob1 hb hk 0 (by decide)) ?_
    refine x_callS1v (q := 106) dX1_told_103 rfl ml_X1_37 ms_X1_lasts c_X1_lasts (Nat.le_of_ble_eq_true rfl) ⟨by decide, by decide⟩ ?_
    refine x_ireturn dX1_told_106 rfl rfl ?_
    exact ⟨by simp [tld, bI, *], rfl⟩
  by_cases h1_9 : x = 9
  · refine x_tswC (q := 107) (k := 9) dX1_told_1 h1_9 (by decide) (by decide) rfl (by decide) ?_
    refine x_aload_n (q := 108) dX1_told_107 rfl rfl ?_
    refine x_getIr (q := 111) dX1_told_108 rfl fl_X1_9 (ob1 hb hk 0 (by decide)) ?_
    refine x_aload_n (q := 112) dX1_told_111 rfl rfl ?_
    refine x_getIr (q := 115) dX1_told_112 rfl fl_X1_18 (ob1 hb hk 2 (by decide)) ?_
    refine x_callS2v (q := 118) dX1_told_115 rfl ml_X1_40 ms_X1_pays c_X1_pays (Nat.le_of_ble_eq_true rfl) ⟨by decide, by decide⟩ ?_
    refine x_ireturn dX1_told_118 rfl rfl ?_
    exact ⟨by simp [tld, bI, *], rfl⟩
  refine x_tswD (q := 119) dX1_told_1 (by have n0 := lv_neT h1_0 (a := 0) (by decide); have n1 := lv_neT h1_1 (a := 1) (by decide); have n2 := lv_neT h1_2 (a := 2) (by decide); have n3 := lv_neT h1_3 (a := 3) (by decide); have n4 := lv_neT h1_4 (a := 4) (by decide); have n5 := lv_neT h1_5 (a := 5) (by decide); have n6 := lv_neT h1_6 (a := 6) (by decide); have n7 := lv_neT h1_7 (a := 7) (by decide); have n8 := lv_neT h1_8 (a := 8) (by decide); have n9 := lv_neT h1_9 (a := 9) (by decide); omega) (by decide) ?_
  refine x_aload_n (q := 120) dX1_told_119 rfl rfl ?_
  refine x_getIr (q := 123) dX1_told_120 rfl fl_X1_9 (ob1 hb hk 0 (by decide)) ?_
  refine x_callS1v (q := 126) dX1_told_123 rfl ml_X1_44 ms_X1_delays c_X1_delays (Nat.le_of_ble_eq_true rfl) ⟨by decide, by decide⟩ ?_
  refine x_ireturn dX1_told_126 rfl rfl ?_
  exact ⟨by simp [tld, bI, *], rfl⟩
theorem dX1_put_0 : decode cX1_put 0 = .ok (.iload_n 1, 1) := by decide +kernel
theorem dX1_put_1 : decode cX1_put 1 = .ok (.tableswitch 99 0 6 #[43, 51, 59, 67, 75, 83, 91], 43) := by decide +kernel
theorem dX1_put_44 : decode cX1_put 44 = .ok (.aload_n 0, 1) := by decide +kernel
theorem dX1_put_45 : decode cX1_put 45 = .ok (.iload_n 2, 1) := by decide +kernel
theorem dX1_put_46 : decode cX1_put 46 = .ok (.putfield 9, 3) := by decide +kernel
theorem dX1_put_49 : decode cX1_put 49 = .ok (.goto 51, 3) := by decide +kernel
theorem dX1_put_52 : decode cX1_put 52 = .ok (.aload_n 0, 1) := by decide +kernel
theorem dX1_put_53 : decode cX1_put 53 = .ok (.iload_n 2, 1) := by decide +kernel
theorem dX1_put_54 : decode cX1_put 54 = .ok (.putfield 15, 3) := by decide +kernel
theorem dX1_put_57 : decode cX1_put 57 = .ok (.goto 43, 3) := by decide +kernel
theorem dX1_put_60 : decode cX1_put 60 = .ok (.aload_n 0, 1) := by decide +kernel
theorem dX1_put_61 : decode cX1_put 61 = .ok (.iload_n 2, 1) := by decide +kernel
theorem dX1_put_62 : decode cX1_put 62 = .ok (.putfield 18, 3) := by decide +kernel
theorem dX1_put_65 : decode cX1_put 65 = .ok (.goto 35, 3) := by decide +kernel
theorem dX1_put_68 : decode cX1_put 68 = .ok (.aload_n 0, 1) := by decide +kernel
theorem dX1_put_69 : decode cX1_put 69 = .ok (.iload_n 2, 1) := by decide +kernel
theorem dX1_put_70 : decode cX1_put 70 = .ok (.putfield 21, 3) := by decide +kernel
theorem dX1_put_73 : decode cX1_put 73 = .ok (.goto 27, 3) := by decide +kernel
theorem dX1_put_76 : decode cX1_put 76 = .ok (.aload_n 0, 1) := by decide +kernel
theorem dX1_put_77 : decode cX1_put 77 = .ok (.iload_n 2, 1) := by decide +kernel
theorem dX1_put_78 : decode cX1_put 78 = .ok (.putfield 24, 3) := by decide +kernel
theorem dX1_put_81 : decode cX1_put 81 = .ok (.goto 19, 3) := by decide +kernel
theorem dX1_put_84 : decode cX1_put 84 = .ok (.aload_n 0, 1) := by decide +kernel
theorem dX1_put_85 : decode cX1_put 85 = .ok (.iload_n 2, 1) := by decide +kernel
theorem dX1_put_86 : decode cX1_put 86 = .ok (.putfield 27, 3) := by decide +kernel
theorem dX1_put_89 : decode cX1_put 89 = .ok (.goto 11, 3) := by decide +kernel
theorem dX1_put_92 : decode cX1_put 92 = .ok (.aload_n 0, 1) := by decide +kernel
theorem dX1_put_93 : decode cX1_put 93 = .ok (.iload_n 2, 1) := by decide +kernel
theorem dX1_put_94 : decode cX1_put 94 = .ok (.putfield 30, 3) := by decide +kernel
theorem dX1_put_97 : decode cX1_put 97 = .ok (.goto 3, 3) := by decide +kernel
theorem dX1_put_100 : decode cX1_put 100 = .ok (.return_, 1) := by decide +kernel
set_option maxRecDepth 20000 in
set_option maxHeartbeats 4000000 in
theorem c_X1_put {K : Cx} {b k : Nat} {s : Nat → Int32} {x v : Int32} {m : TM} (hb : isC b) (hk : k < 8) : CT yX1_put cX1_put 3 none 0 0 K [.ref (b + 4 + k), .int x, .int v] (sr m b s) none (sr m b (ptF s k x v)) := by
  refine ct_ofd (n := 0) (by decide +kernel) rfl rfl ?_
  show XX RX1 cX1_put 3 none 0 0 K 0 [some (.ref (b + 4 + k)), some (.int x), some (.int v)] [] (sr m b s) (fun r1 m1 => r1 = none ∧ m1 = sr m b (ptF s k x v))
  refine x_iload_n (q := 1) dX1_put_0 rfl rfl ?_
  by_cases h1_0 : x = 0
  · refine x_tswC (q := 44) (k := 0) dX1_put_1 h1_0 (by decide) (by decide) rfl (by decide) ?_
    refine x_aload_n (q := 45) dX1_put_44 rfl rfl ?_
    refine x_iload_n (q := 46) dX1_put_45 rfl rfl ?_
    refine x_putIr (q := 49) dX1_put_46 rfl fl_X1_9 (ob1 hb hk 0 (by decide)) rfl rfl rfl  ?_
    refine x_goto (q := 100) dX1_put_49 (by decide) ?_
    refine x_return dX1_put_100 rfl ?_
    exact ⟨rfl, by simp [ptF, *]⟩
  by_cases h1_1 : x = 1
  · refine x_tswC (q := 52) (k := 1) dX1_put_1 h1_1 (by decide) (by decide) rfl (by decide) ?_
    refine x_aload_n (q := 53) dX1_put_52 rfl rfl ?_
    refine x_iload_n (q := 54) dX1_put_53 rfl rfl ?_
    refine x_putIr (q := 57) dX1_put_54 rfl fl_X1_15 (ob1 hb hk 1 (by decide)) rfl rfl rfl  ?_
    refine x_goto (q := 100) dX1_put_57 (by decide) ?_
    refine x_return dX1_put_100 rfl ?_
    exact ⟨rfl, by simp [ptF, *]⟩
  by_cases h1_2 : x = 2
  · refine x_tswC (q := 60) (k := 2) dX1_put_1 h1_2 (by decide) (by decide) rfl (by decide) ?_
    refine x_aload_n (q := 61) dX1_put_60 rfl rfl ?_
    refine x_iload_n (q := 62) dX1_put_61 rfl rfl ?_
    refine x_putIr (q := 65) dX1_put_62 rfl fl_X1_18 (ob1 hb hk 2 (by decide)) rfl rfl rfl  ?_
    refine x_goto (q := 100) dX1_put_65 (by decide) ?_
    refine x_return dX1_put_100 rfl ?_
    exact ⟨rfl, by simp [ptF, *]⟩
  by_cases h1_3 : x = 3
  · refine x_tswC (q := 68) (k := 3) dX1_put_1 h1_3 (by decide) (by decide) rfl (by decide) ?_
    refine x_aload_n (q := 69) dX1_put_68 rfl rfl ?_
    refine x_iload_n (q := 70) dX1_put_69 rfl rfl ?_
    refine x_putIr (q := 73) dX1_put_70 rfl fl_X1_21 (ob1 hb hk 3 (by decide)) rfl rfl rfl  ?_
    refine x_goto (q := 100) dX1_put_73 (by decide) ?_
    refine x_return dX1_put_100 rfl ?_
    exact ⟨rfl, by simp [ptF, *]⟩
  by_cases h1_4 : x = 4
  · refine x_tswC (q := 76) (k := 4) dX1_put_1 h1_4 (by decide) (by decide) rfl (by decide) ?_
    refine x_aload_n (q := 77) dX1_put_76 rfl rfl ?_
    refine x_iload_n (q := 78) dX1_put_77 rfl rfl ?_
    refine x_putIr (q := 81) dX1_put_78 rfl fl_X1_24 (ob1 hb hk 4 (by decide)) rfl rfl rfl  ?_
    refine x_goto (q := 100) dX1_put_81 (by decide) ?_
    refine x_return dX1_put_100 rfl ?_
    exact ⟨rfl, by simp [ptF, *]⟩
  by_cases h1_5 : x = 5
  · refine x_tswC (q := 84) (k := 5) dX1_put_1 h1_5 (by decide) (by decide) rfl (by decide) ?_
    refine x_aload_n (q := 85) dX1_put_84 rfl rfl ?_
    refine x_iload_n (q := 86) dX1_put_85 rfl rfl ?_
    refine x_putIr (q := 89) dX1_put_86 rfl fl_X1_27 (ob1 hb hk 5 (by decide)) rfl rfl rfl  ?_
    refine x_goto (q := 100) dX1_put_89 (by decide) ?_
    refine x_return dX1_put_100 rfl ?_
    exact ⟨rfl, by simp [ptF, *]⟩
  by_cases h1_6 : x = 6
  · refine x_tswC (q := 92) (k := 6) dX1_put_1 h1_6 (by decide) (by decide) rfl (by decide) ?_
    refine x_aload_n (q := 93) dX1_put_92 rfl rfl ?_
    refine x_iload_n (q := 94) dX1_put_93 rfl rfl ?_
    refine x_putIr (q := 97) dX1_put_94 rfl fl_X1_30 (ob1 hb hk 6 (by decide)) rfl rfl rfl  ?_
    refine x_goto (q := 100) dX1_put_97 (by decide) ?_
    refine x_return dX1_put_100 rfl ?_
    exact ⟨rfl, by simp [ptF, *]⟩
  refine x_tswD (q := 100) dX1_put_1 (by have n0 := lv_neT h1_0 (a := 0) (by decide); have n1 := lv_neT h1_1 (a := 1) (by decide); have n2 := lv_neT h1_2 (a := 2) (by decide); have n3 := lv_neT h1_3 (a := 3) (by decide); have n4 := lv_neT h1_4 (a := 4) (by decide); have n5 := lv_neT h1_5 (a := 5) (by decide); have n6 := lv_neT h1_6 (a := 6) (by decide); omega) (by decide) ?_
  refine x_return dX1_put_100 rfl ?_
  exact ⟨rfl, by simp [ptF, *]⟩
theorem dX1_beNew_0 : decode cX1_beNew 0 = .ok (.aload_n 0, 1) := by decide +kernel
theorem dX1_beNew_1 : decode cX1_beNew 1 = .ok (.iload_n 1, 1) := by decide +kernel
theorem dX1_beNew_2 : decode cX1_beNew 2 = .ok (.putfield 9, 3) := by decide +kernel
theorem dX1_beNew_5 : decode cX1_beNew 5 = .ok (.aload_n 0, 1) := by decide +kernel
theorem dX1_beNew_6 : decode cX1_beNew 6 = .ok (.iconst 0, 1) := by decide +kernel
theorem dX1_beNew_7 : decode cX1_beNew 7 = .ok (.putfield 15, 3) := by decide +kernel
theorem dX1_beNew_10 : decode cX1_beNew 10 = .ok (.aload_n 0, 1) := by decide +kernel
theorem dX1_beNew_11 : decode cX1_beNew 11 = .ok (.bipush 10, 2) := by decide +kernel
theorem dX1_beNew_13 : decode cX1_beNew 13 = .ok (.putfield 18, 3) := by decide +kernel
theorem dX1_beNew_16 : decode cX1_beNew 16 = .ok (.aload_n 0, 1) := by decide +kernel
theorem dX1_beNew_17 : decode cX1_beNew 17 = .ok (.iconst 0, 1) := by decide +kernel
theorem dX1_beNew_18 : decode cX1_beNew 18 = .ok (.putfield 21, 3) := by decide +kernel
theorem dX1_beNew_21 : decode cX1_beNew 21 = .ok (.aload_n 0, 1) := by decide +kernel
theorem dX1_beNew_22 : decode cX1_beNew 22 = .ok (.iconst 0, 1) := by decide +kernel
theorem dX1_beNew_23 : decode cX1_beNew 23 = .ok (.putfield 24, 3) := by decide +kernel
theorem dX1_beNew_26 : decode cX1_beNew 26 = .ok (.aload_n 0, 1) := by decide +kernel
theorem dX1_beNew_27 : decode cX1_beNew 27 = .ok (.iconst 0, 1) := by decide +kernel
theorem dX1_beNew_28 : decode cX1_beNew 28 = .ok (.putfield 27, 3) := by decide +kernel
theorem dX1_beNew_31 : decode cX1_beNew 31 = .ok (.aload_n 0, 1) := by decide +kernel
theorem dX1_beNew_32 : decode cX1_beNew 32 = .ok (.iconst 0, 1) := by decide +kernel
theorem dX1_beNew_33 : decode cX1_beNew 33 = .ok (.putfield 30, 3) := by decide +kernel
theorem dX1_beNew_36 : decode cX1_beNew 36 = .ok (.return_, 1) := by decide +kernel
set_option maxRecDepth 20000 in
set_option maxHeartbeats 4000000 in
theorem c_X1_beNew {K : Cx} {b k : Nat} {s : Nat → Int32} {x : Int32} {m : TM} (hb : isC b) (hk : k < 8) : CT yX1_beNew cX1_beNew 2 none 0 0 K [.ref (b + 4 + k), .int x] (sr m b s) none (sr m b (newF s k x)) := by
  refine ct_ofd (n := 0) (by decide +kernel) rfl rfl ?_
  show XX RX1 cX1_beNew 2 none 0 0 K 0 [some (.ref (b + 4 + k)), some (.int x)] [] (sr m b s) (fun r1 m1 => r1 = none ∧ m1 = sr m b (newF s k x))
  refine x_aload_n (q := 1) dX1_beNew_0 rfl rfl ?_
  refine x_iload_n (q := 2) dX1_beNew_1 rfl rfl ?_
  refine x_putIr (q := 5) dX1_beNew_2 rfl fl_X1_9 (ob1 hb hk 0 (by decide)) rfl rfl rfl  ?_
  refine x_aload_n (q := 6) dX1_beNew_5 rfl rfl ?_
  refine x_iconst (q := 7) (v := 0) dX1_beNew_6 rfl (by decide) ?_
  refine x_putIr (q := 10) dX1_beNew_7 rfl fl_X1_15 (ob1 hb hk 1 (by decide)) rfl rfl rfl  ?_
  refine x_aload_n (q := 11) dX1_beNew_10 rfl rfl ?_
  refine x_bipush (q := 13) (v := 10) dX1_beNew_11 rfl (by decide) ?_
  refine x_putIr (q := 16) dX1_beNew_13 rfl fl_X1_18 (ob1 hb hk 2 (by decide)) rfl rfl rfl  ?_
  refine x_aload_n (q := 17) dX1_beNew_16 rfl rfl ?_
  refine x_iconst (q := 18) (v := 0) dX1_beNew_17 rfl (by decide) ?_
  refine x_putIr (q := 21) dX1_beNew_18 rfl fl_X1_21 (ob1 hb hk 3 (by decide)) rfl rfl rfl  ?_
  refine x_aload_n (q := 22) dX1_beNew_21 rfl rfl ?_
  refine x_iconst (q := 23) (v := 0) dX1_beNew_22 rfl (by decide) ?_
  refine x_putIr (q := 26) dX1_beNew_23 rfl fl_X1_24 (ob1 hb hk 4 (by decide)) rfl rfl rfl  ?_
  refine x_aload_n (q := 27) dX1_beNew_26 rfl rfl ?_
  refine x_iconst (q := 28) (v := 0) dX1_beNew_27 rfl (by decide) ?_
  refine x_putIr (q := 31) dX1_beNew_28 rfl fl_X1_27 (ob1 hb hk 5 (by decide)) rfl rfl rfl  ?_
  refine x_aload_n (q := 32) dX1_beNew_31 rfl rfl ?_
  refine x_iconst (q := 33) (v := 0) dX1_beNew_32 rfl (by decide) ?_
  refine x_putIr (q := 36) dX1_beNew_33 rfl fl_X1_30 (ob1 hb hk 6 (by decide)) rfl rfl rfl  ?_
  refine x_return dX1_beNew_36 rfl ?_
  exact ⟨rfl, rfl⟩
theorem dX1_turnOver_0 : decode cX1_turnOver 0 = .ok (.aload_n 0, 1) := by decide +kernel
theorem dX1_turnOver_1 : decode cX1_turnOver 1 = .ok (.aload_n 0, 1) := by decide +kernel
theorem dX1_turnOver_2 : decode cX1_turnOver 2 = .ok (.getfield 30, 3) := by decide +kernel
theorem dX1_turnOver_5 : decode cX1_turnOver 5 = .ok (.iconst 1, 1) := by decide +kernel
theorem dX1_turnOver_6 : decode cX1_turnOver 6 = .ok (.iadd, 1) := by decide +kernel
theorem dX1_turnOver_7 : decode cX1_turnOver 7 = .ok (.sipush 9999, 3) := by decide +kernel
theorem dX1_turnOver_10 : decode cX1_turnOver 10 = .ok (.invokestatic 57, 3) := by decide +kernel
theorem dX1_turnOver_13 : decode cX1_turnOver 13 = .ok (.putfield 30, 3) := by decide +kernel
theorem dX1_turnOver_16 : decode cX1_turnOver 16 = .ok (.aload_n 0, 1) := by decide +kernel
theorem dX1_turnOver_17 : decode cX1_turnOver 17 = .ok (.aload_n 0, 1) := by decide +kernel
theorem dX1_turnOver_18 : decode cX1_turnOver 18 = .ok (.getfield 15, 3) := by decide +kernel
theorem dX1_turnOver_21 : decode cX1_turnOver 21 = .ok (.aload_n 0, 1) := by decide +kernel
theorem dX1_turnOver_22 : decode cX1_turnOver 22 = .ok (.getfield 9, 3) := by decide +kernel
theorem dX1_turnOver_25 : decode cX1_turnOver 25 = .ok (.invokestatic 33, 3) := by decide +kernel
theorem dX1_turnOver_28 : decode cX1_turnOver 28 = .ok (.iadd, 1) := by decide +kernel
theorem dX1_turnOver_29 : decode cX1_turnOver 29 = .ok (.bipush 20, 2) := by decide +kernel
theorem dX1_turnOver_31 : decode cX1_turnOver 31 = .ok (.invokestatic 57, 3) := by decide +kernel
theorem dX1_turnOver_34 : decode cX1_turnOver 34 = .ok (.putfield 15, 3) := by decide +kernel
theorem dX1_turnOver_37 : decode cX1_turnOver 37 = .ok (.return_, 1) := by decide +kernel
set_option maxRecDepth 20000 in
set_option maxHeartbeats 4000000 in
theorem c_X1_turnOver {K : Cx} {b k : Nat} {s : Nat → Int32} {m : TM} (hb : isC b) (hk : k < 8) : CT yX1_turnOver cX1_turnOver 1 none 1 21 K [.ref (b + 4 + k)] (sr m b s) none (sr m b (trn s k)) := by
  refine ct_ofd (n := 0) (by decide +kernel) rfl rfl ?_
  show XX RX1 cX1_turnOver 1 none 1 21 K 0 [some (.ref (b + 4 + k))] [] (sr m b s) (fun r1 m1 => r1 = none ∧ m1 = sr m b (trn s k))
  refine x_aload_n (q := 1) dX1_turnOver_0 rfl rfl ?_
  refine x_aload_n (q := 2) dX1_turnOver_1 rfl rfl ?_
  refine x_getIr (q := 5) dX1_turnOver_2 rfl fl_X1_30 (ob1 hb hk 6 (by decide)) ?_
  refine x_iconst (q := 6) (v := 1) dX1_turnOver_5 rfl (by decide) ?_
  refine x_iadd (q := 7) dX1_turnOver_6 rfl ?_
  refine x_sipush (q := 10) (v := 9999) dX1_turnOver_7 rfl (by decide) ?_
  refine x_mmin (q := 13) dX1_turnOver_10 rfl ml_X1_57 ⟨by decide, Nat.le_of_ble_eq_true rfl⟩ ?_
  refine x_putIr (q := 16) dX1_turnOver_13 rfl fl_X1_30 (ob1 hb hk 6 (by decide)) rfl rfl rfl  ?_
  refine x_aload_n (q := 17) dX1_turnOver_16 rfl rfl ?_
  refine x_aload_n (q := 18) dX1_turnOver_17 rfl rfl ?_
  refine x_getIr (q := 21) dX1_turnOver_18 rfl fl_X1_15 (ob1 hb hk 1 (by decide)) ?_
  refine x_aload_n (q := 22) dX1_turnOver_21 rfl rfl ?_
  refine x_getIr (q := 25) dX1_turnOver_22 rfl fl_X1_9 (ob1 hb hk 0 (by decide)) ?_
  refine x_callS1v (q := 28) dX1_turnOver_25 rfl ml_X1_33 ms_X1_moves c_X1_moves (Nat.le_of_ble_eq_true rfl) ⟨by decide, by decide⟩ ?_
  refine x_iadd (q := 29) dX1_turnOver_28 rfl ?_
  refine x_bipush (q := 31) (v := 20) dX1_turnOver_29 rfl (by decide) ?_
  refine x_mmin (q := 34) dX1_turnOver_31 rfl ml_X1_57 ⟨by decide, Nat.le_of_ble_eq_true rfl⟩ ?_
  refine x_putIr (q := 37) dX1_turnOver_34 rfl fl_X1_15 (ob1 hb hk 1 (by decide)) rfl rfl rfl  ?_
  refine x_return dX1_turnOver_37 rfl ?_
  exact ⟨rfl, by simp [trn, upd]⟩
theorem dX1_waitOneDay_0 : decode cX1_waitOneDay 0 = .ok (.aload_n 0, 1) := by decide +kernel
theorem dX1_waitOneDay_1 : decode cX1_waitOneDay 1 = .ok (.aload_n 0, 1) := by decide +kernel
theorem dX1_waitOneDay_2 : decode cX1_waitOneDay 2 = .ok (.getfield 21, 3) := by decide +kernel
theorem dX1_waitOneDay_5 : decode cX1_waitOneDay 5 = .ok (.iconst 1, 1) := by decide +kernel
theorem dX1_waitOneDay_6 : decode cX1_waitOneDay 6 = .ok (.iadd, 1) := by decide +kernel
theorem dX1_waitOneDay_7 : decode cX1_waitOneDay 7 = .ok (.sipush 9999, 3) := by decide +kernel
theorem dX1_waitOneDay_10 : decode cX1_waitOneDay 10 = .ok (.invokestatic 57, 3) := by decide +kernel
theorem dX1_waitOneDay_13 : decode cX1_waitOneDay 13 = .ok (.putfield 21, 3) := by decide +kernel
theorem dX1_waitOneDay_16 : decode cX1_waitOneDay 16 = .ok (.aload_n 0, 1) := by decide +kernel
theorem dX1_waitOneDay_17 : decode cX1_waitOneDay 17 = .ok (.getfield 21, 3) := by decide +kernel
theorem dX1_waitOneDay_20 : decode cX1_waitOneDay 20 = .ok (.aload_n 0, 1) := by decide +kernel
theorem dX1_waitOneDay_21 : decode cX1_waitOneDay 21 = .ok (.getfield 9, 3) := by decide +kernel
theorem dX1_waitOneDay_24 : decode cX1_waitOneDay 24 = .ok (.invokestatic 37, 3) := by decide +kernel
theorem dX1_waitOneDay_27 : decode cX1_waitOneDay 27 = .ok (.if_icmp .le 8, 3) := by decide +kernel
theorem dX1_waitOneDay_30 : decode cX1_waitOneDay 30 = .ok (.aload_n 0, 1) := by decide +kernel
theorem dX1_waitOneDay_31 : decode cX1_waitOneDay 31 = .ok (.iconst 2, 1) := by decide +kernel
theorem dX1_waitOneDay_32 : decode cX1_waitOneDay 32 = .ok (.putfield 24, 3) := by decide +kernel
theorem dX1_waitOneDay_35 : decode cX1_waitOneDay 35 = .ok (.return_, 1) := by decide +kernel
set_option maxRecDepth 20000 in
set_option maxHeartbeats 4000000 in
theorem c_X1_waitOneDay {K : Cx} {b k : Nat} {s : Nat → Int32} {m : TM} (hb : isC b) (hk : k < 8) : CT yX1_waitOneDay cX1_waitOneDay 1 none 1 21 K [.ref (b + 4 + k)] (sr m b s) none (sr m b (wat s k)) := by
  refine ct_ofd (n := 0) (by decide +kernel) rfl rfl ?_
  show XX RX1 cX1_waitOneDay 1 none 1 21 K 0 [some (.ref (b + 4 + k))] [] (sr m b s) (fun r1 m1 => r1 = none ∧ m1 = sr m b (wat s k))
  refine x_aload_n (q := 1) dX1_waitOneDay_0 rfl rfl ?_
  refine x_aload_n (q := 2) dX1_waitOneDay_1 rfl rfl ?_
  refine x_getIr (q := 5) dX1_waitOneDay_2 rfl fl_X1_21 (ob1 hb hk 3 (by decide)) ?_
  refine x_iconst (q := 6) (v := 1) dX1_waitOneDay_5 rfl (by decide) ?_
  refine x_iadd (q := 7) dX1_waitOneDay_6 rfl ?_
  refine x_sipush (q := 10) (v := 9999) dX1_waitOneDay_7 rfl (by decide) ?_
  refine x_mmin (q := 13) dX1_waitOneDay_10 rfl ml_X1_57 ⟨by decide, Nat.le_of_ble_eq_true rfl⟩ ?_
  refine x_putIr (q := 16) dX1_waitOneDay_13 rfl fl_X1_21 (ob1 hb hk 3 (by decide)) rfl rfl rfl  ?_
  refine x_aload_n (q := 17) dX1_waitOneDay_16 rfl rfl ?_
  refine x_getIr (q := 20) dX1_waitOneDay_17 rfl fl_X1_21 (ob1 hb hk 3 (by decide)) ?_
  refine x_aload_n (q := 21) dX1_waitOneDay_20 rfl rfl ?_
  refine x_getIr (q := 24) dX1_waitOneDay_21 rfl fl_X1_9 (ob1 hb hk 0 (by decide)) ?_
  refine x_callS1v (q := 27) dX1_waitOneDay_24 rfl ml_X1_37 ms_X1_lasts c_X1_lasts (Nat.le_of_ble_eq_true rfl) ⟨by decide, by decide⟩ ?_
  refine x_icmp_le (q := 30) (t := 35) dX1_waitOneDay_27 rfl (by decide) (fun h27 => ?_) (fun h27 => ?_)
  · refine x_return dX1_waitOneDay_35 rfl ?_
    exact ⟨rfl, by first | (rw [upd_self, upd_ne (by omega)] at h27; rw [wat, if_neg (Int32.not_lt.mpr h27)]) | (rw [upd_self, upd_ne (by omega)] at h27; rw [wat, if_pos (Int32.not_le.mp h27)])⟩
  refine x_aload_n (q := 31) dX1_waitOneDay_30 rfl rfl ?_
  refine x_iconst (q := 32) (v := 2) dX1_waitOneDay_31 rfl (by decide) ?_
  refine x_putIr (q := 35) dX1_waitOneDay_32 rfl fl_X1_24 (ob1 hb hk 4 (by decide)) rfl rfl rfl  ?_
  refine x_return dX1_waitOneDay_35 rfl ?_
  exact ⟨rfl, by first | (rw [upd_self, upd_ne (by omega)] at h27; rw [wat, if_neg (Int32.not_lt.mpr h27)]) | (rw [upd_self, upd_ne (by omega)] at h27; rw [wat, if_pos (Int32.not_le.mp h27)])⟩
theorem dX1_becomeAs_0 : decode cX1_becomeAs 0 = .ok (.aload_n 0, 1) := by decide +kernel
theorem dX1_becomeAs_1 : decode cX1_becomeAs 1 = .ok (.aload_n 1, 1) := by decide +kernel
theorem dX1_becomeAs_2 : decode cX1_becomeAs 2 = .ok (.getfield 9, 3) := by decide +kernel
theorem dX1_becomeAs_5 : decode cX1_becomeAs 5 = .ok (.putfield 9, 3) := by decide +kernel
theorem dX1_becomeAs_8 : decode cX1_becomeAs 8 = .ok (.aload_n 0, 1) := by decide +kernel
theorem dX1_becomeAs_9 : decode cX1_becomeAs 9 = .ok (.aload_n 1, 1) := by decide +kernel
theorem dX1_becomeAs_10 : decode cX1_becomeAs 10 = .ok (.getfield 15, 3) := by decide +kernel
theorem dX1_becomeAs_13 : decode cX1_becomeAs 13 = .ok (.putfield 15, 3) := by decide +kernel
theorem dX1_becomeAs_16 : decode cX1_becomeAs 16 = .ok (.aload_n 0, 1) := by decide +kernel
theorem dX1_becomeAs_17 : decode cX1_becomeAs 17 = .ok (.aload_n 1, 1) := by decide +kernel
theorem dX1_becomeAs_18 : decode cX1_becomeAs 18 = .ok (.getfield 18, 3) := by decide +kernel
theorem dX1_becomeAs_21 : decode cX1_becomeAs 21 = .ok (.putfield 18, 3) := by decide +kernel
theorem dX1_becomeAs_24 : decode cX1_becomeAs 24 = .ok (.aload_n 0, 1) := by decide +kernel
theorem dX1_becomeAs_25 : decode cX1_becomeAs 25 = .ok (.aload_n 1, 1) := by decide +kernel
theorem dX1_becomeAs_26 : decode cX1_becomeAs 26 = .ok (.getfield 21, 3) := by decide +kernel
theorem dX1_becomeAs_29 : decode cX1_becomeAs 29 = .ok (.putfield 21, 3) := by decide +kernel
theorem dX1_becomeAs_32 : decode cX1_becomeAs 32 = .ok (.aload_n 0, 1) := by decide +kernel
theorem dX1_becomeAs_33 : decode cX1_becomeAs 33 = .ok (.aload_n 1, 1) := by decide +kernel
theorem dX1_becomeAs_34 : decode cX1_becomeAs 34 = .ok (.getfield 24, 3) := by decide +kernel
theorem dX1_becomeAs_37 : decode cX1_becomeAs 37 = .ok (.putfield 24, 3) := by decide +kernel
theorem dX1_becomeAs_40 : decode cX1_becomeAs 40 = .ok (.aload_n 0, 1) := by decide +kernel
theorem dX1_becomeAs_41 : decode cX1_becomeAs 41 = .ok (.aload_n 1, 1) := by decide +kernel
theorem dX1_becomeAs_42 : decode cX1_becomeAs 42 = .ok (.getfield 27, 3) := by decide +kernel
theorem dX1_becomeAs_45 : decode cX1_becomeAs 45 = .ok (.putfield 27, 3) := by decide +kernel
theorem dX1_becomeAs_48 : decode cX1_becomeAs 48 = .ok (.aload_n 0, 1) := by decide +kernel
theorem dX1_becomeAs_49 : decode cX1_becomeAs 49 = .ok (.aload_n 1, 1) := by decide +kernel
theorem dX1_becomeAs_50 : decode cX1_becomeAs 50 = .ok (.getfield 30, 3) := by decide +kernel
theorem dX1_becomeAs_53 : decode cX1_becomeAs 53 = .ok (.putfield 30, 3) := by decide +kernel
theorem dX1_becomeAs_56 : decode cX1_becomeAs 56 = .ok (.return_, 1) := by decide +kernel
set_option maxRecDepth 20000 in
set_option maxHeartbeats 4000000 in
theorem c_X1_becomeAs {K : Cx} {b k b2 j : Nat} {s : Nat → Int32} {m : TM} (hb : isC b) (hk : k < 8) (h2 : isC b2) (hj : j < 8) (hne : b2 ≠ b) : CT yX1_becomeAs cX1_becomeAs 2 none 0 0 K [.ref (b + 4 + k), .ref (b2 + 4 + j)] (sr m b s) none (sr m b (bcP s (m.1 b2) k j)) := by
  refine ct_ofd (n := 0) (by decide +kernel) rfl rfl ?_
  show XX RX1 cX1_becomeAs 2 none 0 0 K 0 [some (.ref (b + 4 + k)), some (.ref (b2 + 4 + j))] [] (sr m b s) (fun r1 m1 => r1 = none ∧ m1 = sr m b (bcP s (m.1 b2) k j))
  refine x_aload_n (q := 1) dX1_becomeAs_0 rfl rfl ?_
  refine x_aload_n (q := 2) dX1_becomeAs_1 rfl rfl ?_
  refine x_getI (q := 5) dX1_becomeAs_2 rfl fl_X1_9 (ob1 h2 hj 0 (by decide)) ?_
  refine x_putIr (q := 8) dX1_becomeAs_5 rfl fl_X1_9 (ob1 hb hk 0 (by decide)) rfl rfl rfl  ?_
  refine x_aload_n (q := 9) dX1_becomeAs_8 rfl rfl ?_
  refine x_aload_n (q := 10) dX1_becomeAs_9 rfl rfl ?_
  refine x_getI (q := 13) dX1_becomeAs_10 rfl fl_X1_15 (ob1 h2 hj 1 (by decide)) ?_
  refine x_putIr (q := 16) dX1_becomeAs_13 rfl fl_X1_15 (ob1 hb hk 1 (by decide)) rfl rfl rfl  ?_
  refine x_aload_n (q := 17) dX1_becomeAs_16 rfl rfl ?_
  refine x_aload_n (q := 18) dX1_becomeAs_17 rfl rfl ?_
  refine x_getI (q := 21) dX1_becomeAs_18 rfl fl_X1_18 (ob1 h2 hj 2 (by decide)) ?_
  refine x_putIr (q := 24) dX1_becomeAs_21 rfl fl_X1_18 (ob1 hb hk 2 (by decide)) rfl rfl rfl  ?_
  refine x_aload_n (q := 25) dX1_becomeAs_24 rfl rfl ?_
  refine x_aload_n (q := 26) dX1_becomeAs_25 rfl rfl ?_
  refine x_getI (q := 29) dX1_becomeAs_26 rfl fl_X1_21 (ob1 h2 hj 3 (by decide)) ?_
  refine x_putIr (q := 32) dX1_becomeAs_29 rfl fl_X1_21 (ob1 hb hk 3 (by decide)) rfl rfl rfl  ?_
  refine x_aload_n (q := 33) dX1_becomeAs_32 rfl rfl ?_
  refine x_aload_n (q := 34) dX1_becomeAs_33 rfl rfl ?_
  refine x_getI (q := 37) dX1_becomeAs_34 rfl fl_X1_24 (ob1 h2 hj 4 (by decide)) ?_
  refine x_putIr (q := 40) dX1_becomeAs_37 rfl fl_X1_24 (ob1 hb hk 4 (by decide)) rfl rfl rfl  ?_
  refine x_aload_n (q := 41) dX1_becomeAs_40 rfl rfl ?_
  refine x_aload_n (q := 42) dX1_becomeAs_41 rfl rfl ?_
  refine x_getI (q := 45) dX1_becomeAs_42 rfl fl_X1_27 (ob1 h2 hj 5 (by decide)) ?_
  refine x_putIr (q := 48) dX1_becomeAs_45 rfl fl_X1_27 (ob1 hb hk 5 (by decide)) rfl rfl rfl  ?_
  refine x_aload_n (q := 49) dX1_becomeAs_48 rfl rfl ?_
  refine x_aload_n (q := 50) dX1_becomeAs_49 rfl rfl ?_
  refine x_getI (q := 53) dX1_becomeAs_50 rfl fl_X1_30 (ob1 h2 hj 6 (by decide)) ?_
  refine x_putIr (q := 56) dX1_becomeAs_53 rfl fl_X1_30 (ob1 hb hk 6 (by decide)) rfl rfl rfl  ?_
  refine x_return dX1_becomeAs_56 rfl ?_
  exact ⟨rfl, by simp only [sr_ne hne]; rfl⟩
theorem dX1_isA_0 : decode cX1_isA 0 = .ok (.aload_n 0, 1) := by decide +kernel
theorem dX1_isA_1 : decode cX1_isA 1 = .ok (.getfield 9, 3) := by decide +kernel
theorem dX1_isA_4 : decode cX1_isA 4 = .ok (.istore_n 2, 1) := by decide +kernel
theorem dX1_isA_5 : decode cX1_isA 5 = .ok (.iconst 0, 1) := by decide +kernel
theorem dX1_isA_6 : decode cX1_isA 6 = .ok (.istore_n 3, 1) := by decide +kernel
theorem dX1_isA_7 : decode cX1_isA 7 = .ok (.iload_n 3, 1) := by decide +kernel
theorem dX1_isA_8 : decode cX1_isA 8 = .ok (.bipush 6, 2) := by decide +kernel
theorem dX1_isA_10 : decode cX1_isA 10 = .ok (.if_icmp .gt 26, 3) := by decide +kernel
theorem dX1_isA_13 : decode cX1_isA 13 = .ok (.iload_n 2, 1) := by decide +kernel
theorem dX1_isA_14 : decode cX1_isA 14 = .ok (.iconst (-1), 1) := by decide +kernel
theorem dX1_isA_15 : decode cX1_isA 15 = .ok (.if_icmp .eq 21, 3) := by decide +kernel
theorem dX1_isA_18 : decode cX1_isA 18 = .ok (.iload_n 2, 1) := by decide +kernel
theorem dX1_isA_19 : decode cX1_isA 19 = .ok (.iload_n 1, 1) := by decide +kernel
theorem dX1_isA_20 : decode cX1_isA 20 = .ok (.if_icmp .ne 5, 3) := by decide +kernel
theorem dX1_isA_23 : decode cX1_isA 23 = .ok (.iconst 1, 1) := by decide +kernel
theorem dX1_isA_24 : decode cX1_isA 24 = .ok (.ireturn, 1) := by decide +kernel
theorem dX1_isA_25 : decode cX1_isA 25 = .ok (.iload_n 2, 1) := by decide +kernel
theorem dX1_isA_26 : decode cX1_isA 26 = .ok (.invokestatic 47, 3) := by decide +kernel
theorem dX1_isA_29 : decode cX1_isA 29 = .ok (.istore_n 2, 1) := by decide +kernel
theorem dX1_isA_30 : decode cX1_isA 30 = .ok (.iinc 3 1, 3) := by decide +kernel
theorem dX1_isA_33 : decode cX1_isA 33 = .ok (.goto (-26), 3) := by decide +kernel
theorem dX1_isA_36 : decode cX1_isA 36 = .ok (.iconst 0, 1) := by decide +kernel
theorem dX1_isA_37 : decode cX1_isA 37 = .ok (.ireturn, 1) := by decide +kernel
set_option maxRecDepth 20000 in
set_option maxHeartbeats 4000000 in
theorem l_X1_isA {K : Cx} {b k : Nat} {so : Int32} {mm : TM} (hb : isC b) (hk : k < 8) : ∀ (n : Nat) (j : Nat) (x : Int32), 7 - j < n → j ≤ 7 → XX RX1 cX1_isA 4 (some .boolean) 1 20 K 7 [some (.ref (b + 4 + k)), some (.int so), some (.int x), some (.int (nI j))] [] (mm) (fun r1 m1 => r1 = (some (.int (bI (anc (7 - j) x so)))) ∧ m1 = mm) := by
  intro n
  induction n with
  | zero => intro j x hlt; exact absurd hlt (Nat.not_lt_zero _)
  | succ n ih =>
    intro j x hlt hj
    refine x_iload_n (q := 8) dX1_isA_7 rfl rfl ?_
    refine x_bipush (q := 10) (v := 6) dX1_isA_8 rfl (by decide) ?_
    refine x_icmp_gt (q := 13) (t := 36) dX1_isA_10 rfl (by decide) (fun h10 => ?_) (fun h10 => ?_)
    · 
      refine x_iconst (q := 37) (v := 0) dX1_isA_36 rfl (by decide) ?_
      refine x_ireturn dX1_isA_37 rfl (by decide) ?_
      refine ⟨?_, rfl⟩
      first
      | (have h6 : 6 < j := (jnI_lt (a := 6) (by omega) (by omega)).mp h10; rw [show 7 - j = 0 by omega, anc]; rfl)
      | (have e : 7 - j = (7 - (j + 1)) + 1 := by omega
         rw [e, anc]
         first | (rw [if_pos h15]; rfl) | (rw [if_neg h15, if_pos h20]; rfl))
    have hj6 : ¬ 6 < j := fun q => h10 ((jnI_lt (a := 6) (by omega) (by omega)).mpr q)
    refine x_iload_n (q := 14) dX1_isA_13 rfl rfl ?_
    refine x_iconst (q := 15) (v := (-1)) dX1_isA_14 rfl (by decide) ?_
    refine x_icmp_eq (q := 18) (t := 36) dX1_isA_15 rfl (by decide) (fun h15 => ?_) (fun h15 => ?_)
    · 
      refine x_iconst (q := 37) (v := 0) dX1_isA_36 rfl (by decide) ?_
      refine x_ireturn dX1_isA_37 rfl (by decide) ?_
      refine ⟨?_, rfl⟩
      first
      | (have h6 : 6 < j := (jnI_lt (a := 6) (by omega) (by omega)).mp h10; rw [show 7 - j = 0 by omega, anc]; rfl)
      | (have e : 7 - j = (7 - (j + 1)) + 1 := by omega
         rw [e, anc]
         first | (rw [if_pos h15]; rfl) | (rw [if_neg h15, if_pos h20]; rfl))
    refine x_iload_n (q := 19) dX1_isA_18 rfl rfl ?_
    refine x_iload_n (q := 20) dX1_isA_19 rfl rfl ?_
    refine x_icmp_ne (q := 23) (t := 25) dX1_isA_20 rfl (by decide) (fun h20 => ?_) (fun h20 => ?_)
    · refine x_iload_n (q := 26) dX1_isA_25 rfl rfl ?_
      refine x_callS1v (q := 29) dX1_isA_26 rfl ml_X1_47 ms_X1_over c_X1_over (Nat.le_of_ble_eq_true rfl) ⟨by decide, by decide⟩ ?_
      refine x_istore_n (q := 30) dX1_isA_29 rfl (by decide) rfl rfl ?_
      refine x_iinc (q := 33) (v := nI (j + 1)) dX1_isA_30 rfl rfl (jnI_s j) (by decide) rfl rfl ?_
      refine x_goto (q := 7) dX1_isA_33 (by decide) ?_
      have e : 7 - j = (7 - (j + 1)) + 1 := by omega
      have e2 : anc (7 - j) x so = anc (7 - (j + 1)) (ovr x) so := by rw [e, anc]; simp [h15, h20]
      rw [e2]
      exact ih (j + 1) (ovr x) (by omega) (by omega)
    refine x_iconst (q := 24) (v := 1) dX1_isA_23 rfl (by decide) ?_
    refine x_ireturn dX1_isA_24 rfl (by decide) ?_
    refine ⟨?_, rfl⟩
    first
    | (have h6 : 6 < j := (jnI_lt (a := 6) (by omega) (by omega)).mp h10; rw [show 7 - j = 0 by omega, anc]; rfl)
    | (have e : 7 - j = (7 - (j + 1)) + 1 := by omega
       rw [e, anc]
       first | (rw [if_pos h15]; rfl) | (rw [if_neg h15, if_pos h20]; rfl))
set_option maxRecDepth 20000 in
set_option maxHeartbeats 4000000 in
theorem c_X1_isA {K : Cx} {b k : Nat} {s : Nat → Int32} {so : Int32} {m : TM} (hb : isC b) (hk : k < 8) : CT yX1_isA cX1_isA 4 (some .boolean) 1 20 K [.ref (b + 4 + k), .int so] (sr m b s) (some (.int (bI (anc 7 (s (12 + 7 * k + 0)) so)))) (sr m b s) := by
  refine ct_ofd (n := 2) (by decide +kernel) rfl rfl ?_
  show XX RX1 cX1_isA 4 (some .boolean) 1 20 K 0 [some (.ref (b + 4 + k)), some (.int so), none, none] [] (sr m b s) (fun r1 m1 => r1 = (some (.int (bI (anc 7 (s (12 + 7 * k + 0)) so)))) ∧ m1 = sr m b s)
  refine x_aload_n (q := 1) dX1_isA_0 rfl rfl ?_
  refine x_getIr (q := 4) dX1_isA_1 rfl fl_X1_9 (ob1 hb hk 0 (by decide)) ?_
  refine x_istore_n (q := 5) dX1_isA_4 rfl (by decide) rfl rfl ?_
  refine x_iconst (q := 6) (v := 0) dX1_isA_5 rfl (by decide) ?_
  refine x_istore_n (q := 7) dX1_isA_6 rfl (by decide) rfl rfl ?_
  exact l_X1_isA hb hk 8 0 _ (by omega) (by omega)
end
section
/-! a coast: its row of 78 numbers -/
theorem lp_stop {x : Int32} {n j : Nat} (hn : x = nI n) (h8 : n ≤ 100000) (hj : j ≤ 100000) (h : x ≤ nI j) : n ≤ j := by
  rw [hn] at h
  exact (jnI_le' (by omega) (by omega)).mp h
theorem lp_go {x : Int32} {n j : Nat} (hn : x = nI n) (h8 : n ≤ 100000) (hj : j ≤ 100000) (h : ¬ x ≤ nI j) : j < n := by
  rw [hn] at h
  exact Nat.lt_of_not_le fun q => h ((jnI_le' (by omega) (by omega)).mpr q)
def rm6 (x : Int32) : Int32 := x - x / 6 * 6
def tdx (s : Nat → Int32) : Nat := (rm6 (s 0 + s 4)).toNatClampNeg
def TD (s : Nat → Int32) : Prop := IX (rm6 (s 0 + s 4)) (tdx s) 6
def tdF (s : Nat → Int32) : Int32 := s (6 + tdx s) + s 5
def meF (s : Nat → Int32) (k : Nat) (t : Int32) : Nat → Int32 :=
  if sg (s (12 + 7 * k + 0)) (s (12 + 7 * k + 1)) (s (12 + 7 * k + 2)) (s (12 + 7 * k + 6)) (s 0) t = true then upd (upd (upd s (12 + 7 * k + 4) 1) 3 (minI (s 3 + pys (s (12 + 7 * k + 0)) (s (12 + 7 * k + 2))) 99999)) 4 (minI (s 4 + dly (s (12 + 7 * k + 0))) 9999)
  else if tch (s (12 + 7 * k + 1)) t = true then trn s k else s
def mtC (u : Nat → Int32) (t : Int32) (j : Nat) : Nat → Int32 := if u (12 + 7 * j + 4) = 0 then (if u (12 + 7 * j + 5) = 0 then meF u j t else u) else u
def stC (u : Nat → Int32) (t : Int32) (j : Nat) : Nat → Int32 := if mtC u t j (12 + 7 * j + 4) = 0 then wat (mtC u t j) j else mtC u t j
def dyL (s : Nat → Int32) (t : Int32) : Nat → Nat → Int32
  | 0 => s
  | j + 1 => stC (dyL s t j) t j
def dyC (s : Nat → Int32) (n : Nat) : Nat → Int32 := upd (dyL s (tdF s) n) 0 (minI (dyL s (tdF s) n 0 + 1) 99999)
theorem trn_lo {s : Nat → Int32} {k i : Nat} (h : i < 12) : trn s k i = s i := by
  unfold trn
  rw [upd_ne (by omega), upd_ne (by omega)]
theorem wat_lo {s : Nat → Int32} {k i : Nat} (h : i < 12) : wat s k i = s i := by
  unfold wat
  split
  · rw [upd_ne (by omega), upd_ne (by omega)]
  · rw [upd_ne (by omega)]
theorem meF_lo {s : Nat → Int32} {k i : Nat} {t : Int32} (h : i < 12) (h3 : i ≠ 3) (h4 : i ≠ 4) : meF s k t i = s i := by
  unfold meF
  split
  · rw [upd_ne h4, upd_ne h3, upd_ne (by omega)]
  · split
    · exact trn_lo h
    · rfl
theorem mtC_lo {s : Nat → Int32} {k i : Nat} {t : Int32} (h : i < 12) (h3 : i ≠ 3) (h4 : i ≠ 4) : mtC s t k i = s i := by
  unfold mtC
  split
  · split
    · exact meF_lo h h3 h4
    · rfl
  · rfl
theorem stC_lo {s : Nat → Int32} {k i : Nat} {t : Int32} (h : i < 12) (h3 : i ≠ 3) (h4 : i ≠ 4) : stC s t k i = s i := by
  unfold stC
  split
  · rw [wat_lo h, mtC_lo h h3 h4]
  · exact mtC_lo h h3 h4
theorem dyL_lo {s : Nat → Int32} {i : Nat} {t : Int32} (h : i < 12) (h3 : i ≠ 3) (h4 : i ≠ 4) : ∀ j, dyL s t j i = s i
  | 0 => rfl
  | j + 1 => by rw [dyL, stC_lo h h3 h4, dyL_lo h h3 h4 j]
/-- n days -/
def dysC (n8 : Nat) : Nat → (Nat → Int32) → Nat → Int32
  | 0, s => s
  | n + 1, s => dysC n8 n (dyC s n8)
def nz (z : Int32) : Int32 := z * 1103515245 + 12345
def dr (z : Int32) : Int32 := ((nz z).toUInt32 >>> ((8 : Int32).toUInt32 &&& Int32.toUInt32 31)).toInt32
/-- parcels of a state, of the first j, as a set -/
def thF (s : Nat → Int32) (x : Int32) : Nat → Int32
  | 0 => 0
  | j + 1 => if s (12 + 7 * j + 4) = x then thF s x j ||| ((1 : Int32) <<< (nI j &&& 31)) else thF s x j
def lyF (s : Nat → Int32) (x : Int32) : Nat → Int32
  | 0 => 0
  | j + 1 => if s (12 + 7 * j + 4) = 0 ∧ s (12 + 7 * j + 1) = x then lyF s x j ||| ((1 : Int32) <<< (nI j &&& 31)) else lyF s x j
def deF (s : Nat → Int32) (x : Int32) : Nat → Int32
  | 0 => 0
  | j + 1 => if dly (s (12 + 7 * j + 0)) ≤ 0 then deF s x j else deF s x j ||| (x &&& ((1 : Int32) <<< (nI j &&& 31)))
def weF (s : Nat → Int32) : Nat → Int32
  | 0 => 0
  | j + 1 => if s (12 + 7 * j + 4) = 0 then weF s j + s (12 + 7 * j + 2) else weF s j
def spF (s : Nat → Int32) : Nat → Int32
  | 0 => 0
  | j + 1 => if s (68 + j) = -1 then spF s j else spF s j + 1
def cpR (s u : Nat → Int32) (a d n : Nat) : Nat → Int32 := fun i => if d ≤ i ∧ i < d + n then u (a + (i - d)) else s i
theorem cpy_sr {m : TM} {b b2 a d n : Nat} {s : Nat → Int32} (hne : b2 ≠ b) : cpy (sr m b s) b2 a b d n = sr m b (cpR s (m.1 b2) a d n) := by
  unfold cpy sr cpR
  refine Prod.ext (funext fun u => funext fun v => ?_) rfl
  by_cases h : u = b
  · subst h
    by_cases h2 : d ≤ v ∧ v < d + n <;> simp [h2, hne]
  · simp [h]
def bc0 (s u : Nat → Int32) : Nat → Int32 := upd (upd (upd (upd (upd (upd (cpR s u 6 6 6) 4 (u 4)) 5 (u 5)) 3 (u 3)) 0 (u 0)) 2 (u 2)) 1 (u 1)
def bcL (s u : Nat → Int32) : Nat → Nat → Int32
  | 0 => s
  | j + 1 => bcP (bcL s u j) u j j
def bcF (s u : Nat → Int32) (n : Nat) : Nat → Int32 := cpR (bcL (bc0 s u) u n) u 68 68 10
theorem bcP_lo {s u : Nat → Int32} {k j i : Nat} (h : i < 12) : bcP s u k j i = s i := by
  unfold bcP
  rw [upd_ne (by omega), upd_ne (by omega), upd_ne (by omega), upd_ne (by omega), upd_ne (by omega), upd_ne (by omega), upd_ne (by omega)]
theorem bcL_lo {s u : Nat → Int32} {i : Nat} (h : i < 12) : ∀ j, bcL s u j i = s i
  | 0 => rfl
  | j + 1 => by rw [bcL, bcP_lo h, bcL_lo h j]
def lsub : List (Option Value) → List (Option Value) → Prop
  | [], _ => True
  | none :: a, [] => lsub a []
  | none :: a, _ :: b => lsub a b
  | some v :: a, some w :: b => v = w ∧ lsub a b
  | some _ :: _, _ => False
theorem lsub_ok : ∀ (a b : List (Option Value)), lsub a b → ∀ (i : Nat) (v : Value), a[i]? = some (some v) → b[i]? = some (some v)
  | [], _, _, i, v, h => by simp at h
  | none :: a, [], h, i, v, h2 => by
    cases i with
    | zero => simp at h2
    | succ i =>
      have := lsub_ok a [] h i v (by simpa using h2)
      simp at this
  | none :: a, _ :: b, h, i, v, h2 => by
    cases i with
    | zero => simp at h2
    | succ i =>
      have := lsub_ok a b h i v (by simpa using h2)
      simpa using this
  | some x :: a, some y :: b, h, i, v, h2 => by
    cases i with
    | zero =>
      obtain ⟨h1, -⟩ := h
      subst h1
      simpa using h2
    | succ i =>
      have := lsub_ok a b h.2 i v (by simpa using h2)
      simpa using this
  | some _ :: _, [], h, _, _, _ => h.elim
  | some _ :: _, none :: _, h, _, _, _ => h.elim
theorem x_ls {own : String} {cc : ByteArray} {mL : Nat} {rt : Option FieldType} {fr lo : Nat} {K : Cx} {pc : Nat} {ls ls2 : List (Option Value)} {st : List Value} {m : TM} {Q : Option Value → TM → Prop} (h : XX own cc mL rt fr lo K pc ls2 st m Q) (hs : lsub ls2 ls) : XX own cc mL rt fr lo K pc ls st m Q := x_sub ls2 (lsub_ok ls2 ls hs) h
theorem dX0_tideOfDay_0 : decode cX0_tideOfDay 0 = .ok (.aload_n 0, 1) := by decide +kernel
theorem dX0_tideOfDay_1 : decode cX0_tideOfDay 1 = .ok (.getfield 9, 3) := by decide +kernel
theorem dX0_tideOfDay_4 : decode cX0_tideOfDay 4 = .ok (.aload_n 0, 1) := by decide +kernel
theorem dX0_tideOfDay_5 : decode cX0_tideOfDay 5 = .ok (.getfield 25, 3) := by decide +kernel
theorem dX0_tideOfDay_8 : decode cX0_tideOfDay 8 = .ok (.aload_n 0, 1) := by decide +kernel
theorem dX0_tideOfDay_9 : decode cX0_tideOfDay 9 = .ok (.getfield 15, 3) := by decide +kernel
theorem dX0_tideOfDay_12 : decode cX0_tideOfDay 12 = .ok (.iadd, 1) := by decide +kernel
theorem dX0_tideOfDay_13 : decode cX0_tideOfDay 13 = .ok (.bipush 6, 2) := by decide +kernel
theorem dX0_tideOfDay_15 : decode cX0_tideOfDay 15 = .ok (.irem, 1) := by decide +kernel
theorem dX0_tideOfDay_16 : decode cX0_tideOfDay 16 = .ok (.iaload, 1) := by decide +kernel
theorem dX0_tideOfDay_17 : decode cX0_tideOfDay 17 = .ok (.aload_n 0, 1) := by decide +kernel
theorem dX0_tideOfDay_18 : decode cX0_tideOfDay 18 = .ok (.getfield 19, 3) := by decide +kernel
theorem dX0_tideOfDay_21 : decode cX0_tideOfDay 21 = .ok (.iadd, 1) := by decide +kernel
theorem dX0_tideOfDay_22 : decode cX0_tideOfDay 22 = .ok (.ireturn, 1) := by decide +kernel
set_option maxRecDepth 20000 in
set_option maxHeartbeats 4000000 in
theorem c_X0_tideOfDay {K : Cx} {b : Nat} {s : Nat → Int32} {m : TM} (hb : isC b) (ht : TD s) : CT yX0_tideOfDay cX0_tideOfDay 1 (some .int) 0 0 K [.ref b] (sr m b s) (some (.int (tdF s))) (sr m b s) := by
  refine ct_ofd (n := 0) (by decide +kernel) rfl rfl ?_
  show XX RX0 cX0_tideOfDay 1 (some .int) 0 0 K 0 [some (.ref b)] [] (sr m b s) (fun r1 m1 => r1 = (some (.int (tdF s))) ∧ m1 = sr m b s)
  refine x_aload_n (q := 1) dX0_tideOfDay_0 rfl rfl ?_
  refine x_getR (q := 4) dX0_tideOfDay_1 rfl fl_X0_9 (or0_list hb) ?_
  refine x_aload_n (q := 5) dX0_tideOfDay_4 rfl rfl ?_
  refine x_getIr (q := 8) dX0_tideOfDay_5 rfl fl_X0_25 (ob0_day hb) ?_
  refine x_aload_n (q := 9) dX0_tideOfDay_8 rfl rfl ?_
  refine x_getIr (q := 12) dX0_tideOfDay_9 rfl fl_X0_15 (ob0_late hb) ?_
  refine x_iadd (q := 13) dX0_tideOfDay_12 rfl ?_
  refine x_bipush (q := 15) (v := 6) dX0_tideOfDay_13 rfl (by decide) ?_
  refine x_irem (q := 16) dX0_tideOfDay_15 rfl (by decide) ?_
  refine x_ialdr (q := 17) dX0_tideOfDay_16 rfl (ar_list hb) ht rfl ?_
  refine x_aload_n (q := 18) dX0_tideOfDay_17 rfl rfl ?_
  refine x_getIr (q := 21) dX0_tideOfDay_18 rfl fl_X0_19 (ob0_storm hb) ?_
  refine x_iadd (q := 22) dX0_tideOfDay_21 rfl ?_
  refine x_ireturn dX0_tideOfDay_22 rfl rfl ?_
  exact ⟨rfl, rfl⟩
theorem dX0_nextDraw_0 : decode cX0_nextDraw 0 = .ok (.aload_n 0, 1) := by decide +kernel
theorem dX0_nextDraw_1 : decode cX0_nextDraw 1 = .ok (.aload_n 0, 1) := by decide +kernel
theorem dX0_nextDraw_2 : decode cX0_nextDraw 2 = .ok (.getfield 28, 3) := by decide +kernel
theorem dX0_nextDraw_5 : decode cX0_nextDraw 5 = .ok (.ldc 109, 2) := by decide +kernel
theorem dX0_nextDraw_7 : decode cX0_nextDraw 7 = .ok (.imul, 1) := by decide +kernel
theorem dX0_nextDraw_8 : decode cX0_nextDraw 8 = .ok (.sipush 12345, 3) := by decide +kernel
theorem dX0_nextDraw_11 : decode cX0_nextDraw 11 = .ok (.iadd, 1) := by decide +kernel
theorem dX0_nextDraw_12 : decode cX0_nextDraw 12 = .ok (.putfield 28, 3) := by decide +kernel
theorem dX0_nextDraw_15 : decode cX0_nextDraw 15 = .ok (.aload_n 0, 1) := by decide +kernel
theorem dX0_nextDraw_16 : decode cX0_nextDraw 16 = .ok (.getfield 28, 3) := by decide +kernel
theorem dX0_nextDraw_19 : decode cX0_nextDraw 19 = .ok (.bipush 8, 2) := by decide +kernel
theorem dX0_nextDraw_21 : decode cX0_nextDraw 21 = .ok (.iushr, 1) := by decide +kernel
theorem dX0_nextDraw_22 : decode cX0_nextDraw 22 = .ok (.ireturn, 1) := by decide +kernel
set_option maxRecDepth 20000 in
set_option maxHeartbeats 4000000 in
theorem c_X0_nextDraw {K : Cx} {b : Nat} {s : Nat → Int32} {m : TM} (hb : isC b) : CT yX0_nextDraw cX0_nextDraw 1 (some .int) 0 0 K [.ref b] (sr m b s) (some (.int (dr (s 2)))) (sr m b (upd s 2 (nz (s 2)))) := by
  refine ct_ofd (n := 0) (by decide +kernel) rfl rfl ?_
  show XX RX0 cX0_nextDraw 1 (some .int) 0 0 K 0 [some (.ref b)] [] (sr m b s) (fun r1 m1 => r1 = (some (.int (dr (s 2)))) ∧ m1 = sr m b (upd s 2 (nz (s 2))))
  refine x_aload_n (q := 1) dX0_nextDraw_0 rfl rfl ?_
  refine x_aload_n (q := 2) dX0_nextDraw_1 rfl rfl ?_
  refine x_getIr (q := 5) dX0_nextDraw_2 rfl fl_X0_28 (ob0_z hb) ?_
  refine x_ldc (q := 7) dX0_nextDraw_5 rfl kc_X0_109 ?_
  refine x_imul (q := 8) dX0_nextDraw_7 rfl ?_
  refine x_sipush (q := 11) (v := 12345) dX0_nextDraw_8 rfl (by decide) ?_
  refine x_iadd (q := 12) dX0_nextDraw_11 rfl ?_
  refine x_putIr (q := 15) dX0_nextDraw_12 rfl fl_X0_28 (ob0_z hb) rfl rfl rfl  ?_
  refine x_aload_n (q := 16) dX0_nextDraw_15 rfl rfl ?_
  refine x_getIr (q := 19) dX0_nextDraw_16 rfl fl_X0_28 (ob0_z hb) ?_
  refine x_bipush (q := 21) (v := 8) dX0_nextDraw_19 rfl (by decide) ?_
  refine x_iushr (q := 22) dX0_nextDraw_21 rfl ?_
  refine x_ireturn dX0_nextDraw_22 rfl rfl ?_
  exact ⟨by rw [upd_self]; rfl, rfl⟩
theorem dX0_meet_0 : decode cX0_meet 0 = .ok (.aload_n 1, 1) := by decide +kernel
theorem dX0_meet_1 : decode cX0_meet 1 = .ok (.iload_n 2, 1) := by decide +kernel
theorem dX0_meet_2 : decode cX0_meet 2 = .ok (.aload_n 0, 1) := by decide +kernel
theorem dX0_meet_3 : decode cX0_meet 3 = .ok (.getfield 25, 3) := by decide +kernel
theorem dX0_meet_6 : decode cX0_meet 6 = .ok (.invokevirtual 85, 3) := by decide +kernel
theorem dX0_meet_9 : decode cX0_meet 9 = .ok (.ifCond .eq 58, 3) := by decide +kernel
theorem dX0_meet_12 : decode cX0_meet 12 = .ok (.aload_n 1, 1) := by decide +kernel
theorem dX0_meet_13 : decode cX0_meet 13 = .ok (.iconst 1, 1) := by decide +kernel
theorem dX0_meet_14 : decode cX0_meet 14 = .ok (.putfield 65, 3) := by decide +kernel
theorem dX0_meet_17 : decode cX0_meet 17 = .ok (.aload_n 0, 1) := by decide +kernel
theorem dX0_meet_18 : decode cX0_meet 18 = .ok (.aload_n 0, 1) := by decide +kernel
theorem dX0_meet_19 : decode cX0_meet 19 = .ok (.getfield 22, 3) := by decide +kernel
theorem dX0_meet_22 : decode cX0_meet 22 = .ok (.aload_n 1, 1) := by decide +kernel
theorem dX0_meet_23 : decode cX0_meet 23 = .ok (.getfield 89, 3) := by decide +kernel
theorem dX0_meet_26 : decode cX0_meet 26 = .ok (.aload_n 1, 1) := by decide +kernel
theorem dX0_meet_27 : decode cX0_meet 27 = .ok (.getfield 92, 3) := by decide +kernel
theorem dX0_meet_30 : decode cX0_meet 30 = .ok (.invokestatic 95, 3) := by decide +kernel
theorem dX0_meet_33 : decode cX0_meet 33 = .ok (.iadd, 1) := by decide +kernel
theorem dX0_meet_34 : decode cX0_meet 34 = .ok (.ldc 78, 2) := by decide +kernel
theorem dX0_meet_36 : decode cX0_meet 36 = .ok (.invokestatic 79, 3) := by decide +kernel
theorem dX0_meet_39 : decode cX0_meet 39 = .ok (.putfield 22, 3) := by decide +kernel
theorem dX0_meet_42 : decode cX0_meet 42 = .ok (.aload_n 0, 1) := by decide +kernel
theorem dX0_meet_43 : decode cX0_meet 43 = .ok (.aload_n 0, 1) := by decide +kernel
theorem dX0_meet_44 : decode cX0_meet 44 = .ok (.getfield 15, 3) := by decide +kernel
theorem dX0_meet_47 : decode cX0_meet 47 = .ok (.aload_n 1, 1) := by decide +kernel
theorem dX0_meet_48 : decode cX0_meet 48 = .ok (.getfield 89, 3) := by decide +kernel
theorem dX0_meet_51 : decode cX0_meet 51 = .ok (.invokestatic 98, 3) := by decide +kernel
theorem dX0_meet_54 : decode cX0_meet 54 = .ok (.iadd, 1) := by decide +kernel
theorem dX0_meet_55 : decode cX0_meet 55 = .ok (.sipush 9999, 3) := by decide +kernel
theorem dX0_meet_58 : decode cX0_meet 58 = .ok (.invokestatic 79, 3) := by decide +kernel
theorem dX0_meet_61 : decode cX0_meet 61 = .ok (.putfield 15, 3) := by decide +kernel
theorem dX0_meet_64 : decode cX0_meet 64 = .ok (.goto 15, 3) := by decide +kernel
theorem dX0_meet_67 : decode cX0_meet 67 = .ok (.aload_n 1, 1) := by decide +kernel
theorem dX0_meet_68 : decode cX0_meet 68 = .ok (.iload_n 2, 1) := by decide +kernel
theorem dX0_meet_69 : decode cX0_meet 69 = .ok (.invokevirtual 102, 3) := by decide +kernel
theorem dX0_meet_72 : decode cX0_meet 72 = .ok (.ifCond .eq 7, 3) := by decide +kernel
theorem dX0_meet_75 : decode cX0_meet 75 = .ok (.aload_n 1, 1) := by decide +kernel
theorem dX0_meet_76 : decode cX0_meet 76 = .ok (.invokevirtual 106, 3) := by decide +kernel
theorem dX0_meet_79 : decode cX0_meet 79 = .ok (.return_, 1) := by decide +kernel
set_option maxRecDepth 20000 in
set_option maxHeartbeats 4000000 in
theorem c_X0_meet {K : Cx} {b : Nat} {k : Nat} {t : Int32} {s : Nat → Int32} {m : TM} (hb : isC b) (hk : k < 8) : CT yX0_meet cX0_meet 3 none 2 42 K [.ref b, .ref (b + 4 + k), .int t] (sr m b s) none (sr m b (meF s k t)) := by
  refine ct_ofd (n := 0) (by decide +kernel) rfl rfl ?_
  show XX RX0 cX0_meet 3 none 2 42 K 0 [some (.ref b), some (.ref (b + 4 + k)), some (.int t)] [] (sr m b s) (fun r1 m1 => r1 = none ∧ m1 = sr m b (meF s k t))
  refine x_aload_n (q := 1) dX0_meet_0 rfl rfl ?_
  refine x_iload_n (q := 2) dX0_meet_1 rfl rfl ?_
  refine x_aload_n (q := 3) dX0_meet_2 rfl rfl ?_
  refine x_getIr (q := 6) dX0_meet_3 rfl fl_X0_25 (ob0_day hb) ?_
  refine x_callV2v (q := 9) dX0_meet_6 rfl ml_X0_85 mv_X1_isSignedFor (rv1 hb hk) rfl (c_X1_isSignedFor hb hk) (Nat.le_of_ble_eq_true rfl) ⟨by decide, by decide⟩ ?_
  refine x_ifB_eq (q := 12) (t := 67) dX0_meet_9 rfl (by decide) (fun h9 => ?_) (fun h9 => ?_)
  · refine x_aload_n (q := 68) dX0_meet_67 rfl rfl ?_
    refine x_iload_n (q := 69) dX0_meet_68 rfl rfl ?_
    refine x_callV1v (q := 72) dX0_meet_69 rfl ml_X0_102 mv_X1_isTouched (rv1 hb hk) rfl (c_X1_isTouched hb hk) (Nat.le_of_ble_eq_true rfl) ⟨by decide, by decide⟩ ?_
    refine x_ifB_eq (q := 75) (t := 79) dX0_meet_72 rfl (by decide) (fun h72 => ?_) (fun h72 => ?_)
    · refine x_return dX0_meet_79 rfl ?_
      refine ⟨rfl, ?_⟩
      rw [meF, if_neg (by rw [h9]; exact Bool.false_ne_true)]
      first
      | rw [if_pos h72]
      | rw [if_neg (by rw [h72]; exact Bool.false_ne_true)]
    refine x_aload_n (q := 76) dX0_meet_75 rfl rfl ?_
    refine x_callV0n (q := 79) dX0_meet_76 rfl ml_X0_106 mv_X1_turnOver (rv1 hb hk) rfl (c_X1_turnOver hb hk) (Nat.le_of_ble_eq_true rfl) ⟨by decide, by decide⟩ ?_
    refine x_return dX0_meet_79 rfl ?_
    refine ⟨rfl, ?_⟩
    rw [meF, if_neg (by rw [h9]; exact Bool.false_ne_true)]
    first
    | rw [if_pos h72]
    | rw [if_neg (by rw [h72]; exact Bool.false_ne_true)]
  refine x_aload_n (q := 13) dX0_meet_12 rfl rfl ?_
  refine x_iconst (q := 14) (v := 1) dX0_meet_13 rfl (by decide) ?_
  refine x_putIr (q := 17) dX0_meet_14 rfl fl_X0_65 (ob1 hb hk 4 (by decide)) rfl rfl rfl  ?_
  refine x_aload_n (q := 18) dX0_meet_17 rfl rfl ?_
  refine x_aload_n (q := 19) dX0_meet_18 rfl rfl ?_
  refine x_getIr (q := 22) dX0_meet_19 rfl fl_X0_22 (ob0_amber hb) ?_
  refine x_aload_n (q := 23) dX0_meet_22 rfl rfl ?_
  refine x_getIr (q := 26) dX0_meet_23 rfl fl_X0_89 (ob1 hb hk 0 (by decide)) ?_
  refine x_aload_n (q := 27) dX0_meet_26 rfl rfl ?_
  refine x_getIr (q := 30) dX0_meet_27 rfl fl_X0_92 (ob1 hb hk 2 (by decide)) ?_
  refine x_callS2v (q := 33) dX0_meet_30 rfl ml_X0_95 ms_X1_pays c_X1_pays (Nat.le_of_ble_eq_true rfl) ⟨by decide, by decide⟩ ?_
  refine x_iadd (q := 34) dX0_meet_33 rfl ?_
  refine x_ldc (q := 36) dX0_meet_34 rfl kc_X0_78 ?_
  refine x_mmin (q := 39) dX0_meet_36 rfl ml_X0_79 ⟨by decide, Nat.le_of_ble_eq_true rfl⟩ ?_
  refine x_putIr (q := 42) dX0_meet_39 rfl fl_X0_22 (ob0_amber hb) rfl rfl rfl  ?_
  refine x_aload_n (q := 43) dX0_meet_42 rfl rfl ?_
  refine x_aload_n (q := 44) dX0_meet_43 rfl rfl ?_
  refine x_getIr (q := 47) dX0_meet_44 rfl fl_X0_15 (ob0_late hb) ?_
  refine x_aload_n (q := 48) dX0_meet_47 rfl rfl ?_
  refine x_getIr (q := 51) dX0_meet_48 rfl fl_X0_89 (ob1 hb hk 0 (by decide)) ?_
  refine x_callS1v (q := 54) dX0_meet_51 rfl ml_X0_98 ms_X1_delays c_X1_delays (Nat.le_of_ble_eq_true rfl) ⟨by decide, by decide⟩ ?_
  refine x_iadd (q := 55) dX0_meet_54 rfl ?_
  refine x_sipush (q := 58) (v := 9999) dX0_meet_55 rfl (by decide) ?_
  refine x_mmin (q := 61) dX0_meet_58 rfl ml_X0_79 ⟨by decide, Nat.le_of_ble_eq_true rfl⟩ ?_
  refine x_putIr (q := 64) dX0_meet_61 rfl fl_X0_15 (ob0_late hb) rfl rfl rfl  ?_
  refine x_goto (q := 79) dX0_meet_64 (by decide) ?_
  refine x_return dX0_meet_79 rfl ?_
  refine ⟨rfl, ?_⟩
  have e1 : upd s (12 + 7 * k + 4) 1 3 = s 3 := upd_ne (by omega)
  have e2 : upd s (12 + 7 * k + 4) 1 (12 + 7 * k + 0) = s (12 + 7 * k + 0) := upd_ne (by omega)
  have e3 : upd s (12 + 7 * k + 4) 1 (12 + 7 * k + 2) = s (12 + 7 * k + 2) := upd_ne (by omega)
  rw [meF, if_pos h9, e1, e2, e3]
  rw [upd_ne (i := 3) (j := 4) (by decide), upd_ne (i := 12 + 7 * k + 4) (j := 4) (by omega), upd_ne (i := 3) (j := 12 + 7 * k + 0) (by omega), e2]
theorem dX0_allThatAre_0 : decode cX0_allThatAre 0 = .ok (.iconst 0, 1) := by decide +kernel
theorem dX0_allThatAre_1 : decode cX0_allThatAre 1 = .ok (.istore_n 2, 1) := by decide +kernel
theorem dX0_allThatAre_2 : decode cX0_allThatAre 2 = .ok (.iconst 0, 1) := by decide +kernel
theorem dX0_allThatAre_3 : decode cX0_allThatAre 3 = .ok (.istore_n 3, 1) := by decide +kernel
theorem dX0_allThatAre_4 : decode cX0_allThatAre 4 = .ok (.iload_n 3, 1) := by decide +kernel
theorem dX0_allThatAre_5 : decode cX0_allThatAre 5 = .ok (.aload_n 0, 1) := by decide +kernel
theorem dX0_allThatAre_6 : decode cX0_allThatAre 6 = .ok (.getfield 31, 3) := by decide +kernel
theorem dX0_allThatAre_9 : decode cX0_allThatAre 9 = .ok (.if_icmp .ge 28, 3) := by decide +kernel
theorem dX0_allThatAre_12 : decode cX0_allThatAre 12 = .ok (.aload_n 0, 1) := by decide +kernel
theorem dX0_allThatAre_13 : decode cX0_allThatAre 13 = .ok (.getfield 36, 3) := by decide +kernel
theorem dX0_allThatAre_16 : decode cX0_allThatAre 16 = .ok (.iload_n 3, 1) := by decide +kernel
theorem dX0_allThatAre_17 : decode cX0_allThatAre 17 = .ok (.aaload, 1) := by decide +kernel
theorem dX0_allThatAre_18 : decode cX0_allThatAre 18 = .ok (.getfield 65, 3) := by decide +kernel
theorem dX0_allThatAre_21 : decode cX0_allThatAre 21 = .ok (.iload_n 1, 1) := by decide +kernel
theorem dX0_allThatAre_22 : decode cX0_allThatAre 22 = .ok (.if_icmp .ne 9, 3) := by decide +kernel
theorem dX0_allThatAre_25 : decode cX0_allThatAre 25 = .ok (.iload_n 2, 1) := by decide +kernel
theorem dX0_allThatAre_26 : decode cX0_allThatAre 26 = .ok (.iconst 1, 1) := by decide +kernel
theorem dX0_allThatAre_27 : decode cX0_allThatAre 27 = .ok (.iload_n 3, 1) := by decide +kernel
theorem dX0_allThatAre_28 : decode cX0_allThatAre 28 = .ok (.ishl, 1) := by decide +kernel
theorem dX0_allThatAre_29 : decode cX0_allThatAre 29 = .ok (.ior, 1) := by decide +kernel
theorem dX0_allThatAre_30 : decode cX0_allThatAre 30 = .ok (.istore_n 2, 1) := by decide +kernel
theorem dX0_allThatAre_31 : decode cX0_allThatAre 31 = .ok (.iinc 3 1, 3) := by decide +kernel
theorem dX0_allThatAre_34 : decode cX0_allThatAre 34 = .ok (.goto (-30), 3) := by decide +kernel
theorem dX0_allThatAre_37 : decode cX0_allThatAre 37 = .ok (.iload_n 2, 1) := by decide +kernel
theorem dX0_allThatAre_38 : decode cX0_allThatAre 38 = .ok (.ireturn, 1) := by decide +kernel
set_option maxRecDepth 20000 in
set_option maxHeartbeats 4000000 in
theorem l_X0_allThatAre {K : Cx} {b n8 : Nat} {x : Int32} {s : Nat → Int32} {m : TM} (hb : isC b) (hn : s 1 = nI n8) (h8 : n8 ≤ 8) : ∀ (n : Nat) (j : Nat), n8 - j < n → j ≤ n8 → XX RX0 cX0_allThatAre 4 (some .int) 0 0 K 4 [some (.ref b), some (.int x), some (.int (thF s x j)), some (.int (nI j))] [] (sr m b s) (fun r1 m1 => r1 = (some (.int (thF s x n8))) ∧ m1 = sr m b s) := by
  intro n
  induction n with
  | zero => intro j hlt; exact absurd hlt (Nat.not_lt_zero _)
  | succ n ih =>
    intro j hlt hj
    refine x_iload_n (q := 5) dX0_allThatAre_4 rfl rfl ?_
    refine x_aload_n (q := 6) dX0_allThatAre_5 rfl rfl ?_
    refine x_getIr (q := 9) dX0_allThatAre_6 rfl fl_X0_31 (ob0_laid hb) ?_
    refine x_icmp_ge (q := 12) (t := 37) dX0_allThatAre_9 rfl (by decide) (fun h9 => ?_) (fun h9 => ?_)
    · refine x_iload_n (q := 38) dX0_allThatAre_37 rfl rfl ?_
      refine x_ireturn dX0_allThatAre_38 rfl rfl ?_
      have e : j = n8 := Nat.le_antisymm hj (lp_stop hn (by omega) (by omega) h9)
      subst e
      exact ⟨rfl, rfl⟩
    have hjn : j < n8 := lp_go hn (by omega) (by omega) h9
    have hj8 : j < 8 := by omega
    refine x_aload_n (q := 13) dX0_allThatAre_12 rfl rfl ?_
    refine x_getR (q := 16) dX0_allThatAre_13 rfl fl_X0_36 (or0_slip hb) ?_
    refine x_iload_n (q := 17) dX0_allThatAre_16 rfl rfl ?_
    refine x_slip (q := 18) dX0_allThatAre_17 rfl hb (ix_nI hj8 (by decide)) ?_
    refine x_getIr (q := 21) dX0_allThatAre_18 rfl fl_X0_65 (ob1 hb hj8 4 (by decide)) ?_
    refine x_iload_n (q := 22) dX0_allThatAre_21 rfl rfl ?_
    refine x_icmp_ne (q := 25) (t := 31) dX0_allThatAre_22 rfl (by decide) (fun h22 => ?_) (fun h22 => ?_)
    · refine x_iinc (q := 34) (v := nI (j + 1)) dX0_allThatAre_31 rfl rfl (jnI_s j) (by decide) rfl rfl ?_
      refine x_goto (q := 4) dX0_allThatAre_34 (by decide) ?_
      have key := ih (j + 1) (by omega) (by omega)
      simp only [thF, h22, if_true, if_false, and_self, and_true, and_false, true_and, false_and] at key
      exact key
    refine x_iload_n (q := 26) dX0_allThatAre_25 rfl rfl ?_
    refine x_iconst (q := 27) (v := 1) dX0_allThatAre_26 rfl (by decide) ?_
    refine x_iload_n (q := 28) dX0_allThatAre_27 rfl rfl ?_
    refine x_ishl (q := 29) dX0_allThatAre_28 rfl ?_
    refine x_ior (q := 30) dX0_allThatAre_29 rfl ?_
    refine x_istore_n (q := 31) dX0_allThatAre_30 rfl (by decide) rfl rfl ?_
    refine x_iinc (q := 34) (v := nI (j + 1)) dX0_allThatAre_31 rfl rfl (jnI_s j) (by decide) rfl rfl ?_
    refine x_goto (q := 4) dX0_allThatAre_34 (by decide) ?_
    have key := ih (j + 1) (by omega) (by omega)
    simp only [thF, h22, if_true, if_false, and_self, and_true, and_false, true_and, false_and] at key
    exact key
set_option maxRecDepth 20000 in
set_option maxHeartbeats 4000000 in
theorem c_X0_allThatAre {K : Cx} {b n8 : Nat} {x : Int32} {s : Nat → Int32} {m : TM} (hb : isC b) (hn : s 1 = nI n8) (h8 : n8 ≤ 8) : CT yX0_allThatAre cX0_allThatAre 4 (some .int) 0 0 K [.ref b, .int x] (sr m b s) (some (.int (thF s x n8))) (sr m b s) := by
  refine ct_ofd (n := 2) (by decide +kernel) rfl rfl ?_
  show XX RX0 cX0_allThatAre 4 (some .int) 0 0 K 0 [some (.ref b), some (.int x), none, none] [] (sr m b s) (fun r1 m1 => r1 = (some (.int (thF s x n8))) ∧ m1 = sr m b s)
  refine x_iconst (q := 1) (v := 0) dX0_allThatAre_0 rfl (by decide) ?_
  refine x_istore_n (q := 2) dX0_allThatAre_1 rfl (by decide) rfl rfl ?_
  refine x_iconst (q := 3) (v := 0) dX0_allThatAre_2 rfl (by decide) ?_
  refine x_istore_n (q := 4) dX0_allThatAre_3 rfl (by decide) rfl rfl ?_
  exact l_X0_allThatAre hb hn h8 (n8 + 1) 0 (by omega) (by omega)
theorem dX0_lyingOn_0 : decode cX0_lyingOn 0 = .ok (.iconst 0, 1) := by decide +kernel
theorem dX0_lyingOn_1 : decode cX0_lyingOn 1 = .ok (.istore_n 2, 1) := by decide +kernel
theorem dX0_lyingOn_2 : decode cX0_lyingOn 2 = .ok (.iconst 0, 1) := by decide +kernel
theorem dX0_lyingOn_3 : decode cX0_lyingOn 3 = .ok (.istore_n 3, 1) := by decide +kernel
theorem dX0_lyingOn_4 : decode cX0_lyingOn 4 = .ok (.iload_n 3, 1) := by decide +kernel
theorem dX0_lyingOn_5 : decode cX0_lyingOn 5 = .ok (.aload_n 0, 1) := by decide +kernel
theorem dX0_lyingOn_6 : decode cX0_lyingOn 6 = .ok (.getfield 31, 3) := by decide +kernel
theorem dX0_lyingOn_9 : decode cX0_lyingOn 9 = .ok (.if_icmp .ge 40, 3) := by decide +kernel
theorem dX0_lyingOn_12 : decode cX0_lyingOn 12 = .ok (.aload_n 0, 1) := by decide +kernel
theorem dX0_lyingOn_13 : decode cX0_lyingOn 13 = .ok (.getfield 36, 3) := by decide +kernel
theorem dX0_lyingOn_16 : decode cX0_lyingOn 16 = .ok (.iload_n 3, 1) := by decide +kernel
theorem dX0_lyingOn_17 : decode cX0_lyingOn 17 = .ok (.aaload, 1) := by decide +kernel
theorem dX0_lyingOn_18 : decode cX0_lyingOn 18 = .ok (.getfield 65, 3) := by decide +kernel
theorem dX0_lyingOn_21 : decode cX0_lyingOn 21 = .ok (.ifCond .ne 22, 3) := by decide +kernel
theorem dX0_lyingOn_24 : decode cX0_lyingOn 24 = .ok (.aload_n 0, 1) := by decide +kernel
theorem dX0_lyingOn_25 : decode cX0_lyingOn 25 = .ok (.getfield 36, 3) := by decide +kernel
theorem dX0_lyingOn_28 : decode cX0_lyingOn 28 = .ok (.iload_n 3, 1) := by decide +kernel
theorem dX0_lyingOn_29 : decode cX0_lyingOn 29 = .ok (.aaload, 1) := by decide +kernel
theorem dX0_lyingOn_30 : decode cX0_lyingOn 30 = .ok (.getfield 110, 3) := by decide +kernel
theorem dX0_lyingOn_33 : decode cX0_lyingOn 33 = .ok (.iload_n 1, 1) := by decide +kernel
theorem dX0_lyingOn_34 : decode cX0_lyingOn 34 = .ok (.if_icmp .ne 9, 3) := by decide +kernel
theorem dX0_lyingOn_37 : decode cX0_lyingOn 37 = .ok (.iload_n 2, 1) := by decide +kernel
theorem dX0_lyingOn_38 : decode cX0_lyingOn 38 = .ok (.iconst 1, 1) := by decide +kernel
theorem dX0_lyingOn_39 : decode cX0_lyingOn 39 = .ok (.iload_n 3, 1) := by decide +kernel
theorem dX0_lyingOn_40 : decode cX0_lyingOn 40 = .ok (.ishl, 1) := by decide +kernel
theorem dX0_lyingOn_41 : decode cX0_lyingOn 41 = .ok (.ior, 1) := by decide +kernel
theorem dX0_lyingOn_42 : decode cX0_lyingOn 42 = .ok (.istore_n 2, 1) := by decide +kernel
theorem dX0_lyingOn_43 : decode cX0_lyingOn 43 = .ok (.iinc 3 1, 3) := by decide +kernel
theorem dX0_lyingOn_46 : decode cX0_lyingOn 46 = .ok (.goto (-42), 3) := by decide +kernel
theorem dX0_lyingOn_49 : decode cX0_lyingOn 49 = .ok (.iload_n 2, 1) := by decide +kernel
theorem dX0_lyingOn_50 : decode cX0_lyingOn 50 = .ok (.ireturn, 1) := by decide +kernel
set_option maxRecDepth 20000 in
set_option maxHeartbeats 4000000 in
theorem l_X0_lyingOn {K : Cx} {b n8 : Nat} {x : Int32} {s : Nat → Int32} {m : TM} (hb : isC b) (hn : s 1 = nI n8) (h8 : n8 ≤ 8) : ∀ (n : Nat) (j : Nat), n8 - j < n → j ≤ n8 → XX RX0 cX0_lyingOn 4 (some .int) 0 0 K 4 [some (.ref b), some (.int x), some (.int (lyF s x j)), some (.int (nI j))] [] (sr m b s) (fun r1 m1 => r1 = (some (.int (lyF s x n8))) ∧ m1 = sr m b s) := by
  intro n
  induction n with
  | zero => intro j hlt; exact absurd hlt (Nat.not_lt_zero _)
  | succ n ih =>
    intro j hlt hj
    refine x_iload_n (q := 5) dX0_lyingOn_4 rfl rfl ?_
    refine x_aload_n (q := 6) dX0_lyingOn_5 rfl rfl ?_
    refine x_getIr (q := 9) dX0_lyingOn_6 rfl fl_X0_31 (ob0_laid hb) ?_
    refine x_icmp_ge (q := 12) (t := 49) dX0_lyingOn_9 rfl (by decide) (fun h9 => ?_) (fun h9 => ?_)
    · refine x_iload_n (q := 50) dX0_lyingOn_49 rfl rfl ?_
      refine x_ireturn dX0_lyingOn_50 rfl rfl ?_
      have e : j = n8 := Nat.le_antisymm hj (lp_stop hn (by omega) (by omega) h9)
      subst e
      exact ⟨rfl, rfl⟩
    have hjn : j < n8 := lp_go hn (by omega) (by omega) h9
    have hj8 : j < 8 := by omega
    refine x_aload_n (q := 13) dX0_lyingOn_12 rfl rfl ?_
    refine x_getR (q := 16) dX0_lyingOn_13 rfl fl_X0_36 (or0_slip hb) ?_
    refine x_iload_n (q := 17) dX0_lyingOn_16 rfl rfl ?_
    refine x_slip (q := 18) dX0_lyingOn_17 rfl hb (ix_nI hj8 (by decide)) ?_
    refine x_getIr (q := 21) dX0_lyingOn_18 rfl fl_X0_65 (ob1 hb hj8 4 (by decide)) ?_
    refine x_if_ne (q := 24) (t := 43) dX0_lyingOn_21 rfl (by decide) (fun h21 => ?_) (fun h21 => ?_)
    · refine x_iinc (q := 46) (v := nI (j + 1)) dX0_lyingOn_43 rfl rfl (jnI_s j) (by decide) rfl rfl ?_
      refine x_goto (q := 4) dX0_lyingOn_46 (by decide) ?_
      have key := ih (j + 1) (by omega) (by omega)
      simp only [lyF, h21, if_true, if_false, and_self, and_true, and_false, true_and, false_and] at key
      exact key
    refine x_aload_n (q := 25) dX0_lyingOn_24 rfl rfl ?_
    refine x_getR (q := 28) dX0_lyingOn_25 rfl fl_X0_36 (or0_slip hb) ?_
    refine x_iload_n (q := 29) dX0_lyingOn_28 rfl rfl ?_
    refine x_slip (q := 30) dX0_lyingOn_29 rfl hb (ix_nI hj8 (by decide)) ?_
    refine x_getIr (q := 33) dX0_lyingOn_30 rfl fl_X0_110 (ob1 hb hj8 1 (by decide)) ?_
    refine x_iload_n (q := 34) dX0_lyingOn_33 rfl rfl ?_
    refine x_icmp_ne (q := 37) (t := 43) dX0_lyingOn_34 rfl (by decide) (fun h34 => ?_) (fun h34 => ?_)
    · refine x_iinc (q := 46) (v := nI (j + 1)) dX0_lyingOn_43 rfl rfl (jnI_s j) (by decide) rfl rfl ?_
      refine x_goto (q := 4) dX0_lyingOn_46 (by decide) ?_
      have key := ih (j + 1) (by omega) (by omega)
      simp only [lyF, h21, h34, if_true, if_false, and_self, and_true, and_false, true_and, false_and] at key
      exact key
    refine x_iload_n (q := 38) dX0_lyingOn_37 rfl rfl ?_
    refine x_iconst (q := 39) (v := 1) dX0_lyingOn_38 rfl (by decide) ?_
    refine x_iload_n (q := 40) dX0_lyingOn_39 rfl rfl ?_
    refine x_ishl (q := 41) dX0_lyingOn_40 rfl ?_
    refine x_ior (q := 42) dX0_lyingOn_41 rfl ?_
    refine x_istore_n (q := 43) dX0_lyingOn_42 rfl (by decide) rfl rfl ?_
    refine x_iinc (q := 46) (v := nI (j + 1)) dX0_lyingOn_43 rfl rfl (jnI_s j) (by decide) rfl rfl ?_
    refine x_goto (q := 4) dX0_lyingOn_46 (by decide) ?_
    have key := ih (j + 1) (by omega) (by omega)
    simp only [lyF, h21, h34, if_true, if_false, and_self, and_true, and_false, true_and, false_and] at key
    exact key
set_option maxRecDepth 20000 in
set_option maxHeartbeats 4000000 in
theorem c_X0_lyingOn {K : Cx} {b n8 : Nat} {x : Int32} {s : Nat → Int32} {m : TM} (hb : isC b) (hn : s 1 = nI n8) (h8 : n8 ≤ 8) : CT yX0_lyingOn cX0_lyingOn 4 (some .int) 0 0 K [.ref b, .int x] (sr m b s) (some (.int (lyF s x n8))) (sr m b s) := by
  refine ct_ofd (n := 2) (by decide +kernel) rfl rfl ?_
  show XX RX0 cX0_lyingOn 4 (some .int) 0 0 K 0 [some (.ref b), some (.int x), none, none] [] (sr m b s) (fun r1 m1 => r1 = (some (.int (lyF s x n8))) ∧ m1 = sr m b s)
  refine x_iconst (q := 1) (v := 0) dX0_lyingOn_0 rfl (by decide) ?_
  refine x_istore_n (q := 2) dX0_lyingOn_1 rfl (by decide) rfl rfl ?_
  refine x_iconst (q := 3) (v := 0) dX0_lyingOn_2 rfl (by decide) ?_
  refine x_istore_n (q := 4) dX0_lyingOn_3 rfl (by decide) rfl rfl ?_
  exact l_X0_lyingOn hb hn h8 (n8 + 1) 0 (by omega) (by omega)
theorem dX0_delaying_0 : decode cX0_delaying 0 = .ok (.iconst 0, 1) := by decide +kernel
theorem dX0_delaying_1 : decode cX0_delaying 1 = .ok (.istore_n 2, 1) := by decide +kernel
theorem dX0_delaying_2 : decode cX0_delaying 2 = .ok (.iconst 0, 1) := by decide +kernel
theorem dX0_delaying_3 : decode cX0_delaying 3 = .ok (.istore_n 3, 1) := by decide +kernel
theorem dX0_delaying_4 : decode cX0_delaying 4 = .ok (.iload_n 3, 1) := by decide +kernel
theorem dX0_delaying_5 : decode cX0_delaying 5 = .ok (.aload_n 0, 1) := by decide +kernel
theorem dX0_delaying_6 : decode cX0_delaying 6 = .ok (.getfield 31, 3) := by decide +kernel
theorem dX0_delaying_9 : decode cX0_delaying 9 = .ok (.if_icmp .ge 32, 3) := by decide +kernel
theorem dX0_delaying_12 : decode cX0_delaying 12 = .ok (.aload_n 0, 1) := by decide +kernel
theorem dX0_delaying_13 : decode cX0_delaying 13 = .ok (.getfield 36, 3) := by decide +kernel
theorem dX0_delaying_16 : decode cX0_delaying 16 = .ok (.iload_n 3, 1) := by decide +kernel
theorem dX0_delaying_17 : decode cX0_delaying 17 = .ok (.aaload, 1) := by decide +kernel
theorem dX0_delaying_18 : decode cX0_delaying 18 = .ok (.getfield 89, 3) := by decide +kernel
theorem dX0_delaying_21 : decode cX0_delaying 21 = .ok (.invokestatic 98, 3) := by decide +kernel
theorem dX0_delaying_24 : decode cX0_delaying 24 = .ok (.ifCond .le 11, 3) := by decide +kernel
theorem dX0_delaying_27 : decode cX0_delaying 27 = .ok (.iload_n 2, 1) := by decide +kernel
theorem dX0_delaying_28 : decode cX0_delaying 28 = .ok (.iload_n 1, 1) := by decide +kernel
theorem dX0_delaying_29 : decode cX0_delaying 29 = .ok (.iconst 1, 1) := by decide +kernel
theorem dX0_delaying_30 : decode cX0_delaying 30 = .ok (.iload_n 3, 1) := by decide +kernel
theorem dX0_delaying_31 : decode cX0_delaying 31 = .ok (.ishl, 1) := by decide +kernel
theorem dX0_delaying_32 : decode cX0_delaying 32 = .ok (.iand, 1) := by decide +kernel
theorem dX0_delaying_33 : decode cX0_delaying 33 = .ok (.ior, 1) := by decide +kernel
theorem dX0_delaying_34 : decode cX0_delaying 34 = .ok (.istore_n 2, 1) := by decide +kernel
theorem dX0_delaying_35 : decode cX0_delaying 35 = .ok (.iinc 3 1, 3) := by decide +kernel
theorem dX0_delaying_38 : decode cX0_delaying 38 = .ok (.goto (-34), 3) := by decide +kernel
theorem dX0_delaying_41 : decode cX0_delaying 41 = .ok (.iload_n 2, 1) := by decide +kernel
theorem dX0_delaying_42 : decode cX0_delaying 42 = .ok (.ireturn, 1) := by decide +kernel
set_option maxRecDepth 20000 in
set_option maxHeartbeats 4000000 in
theorem l_X0_delaying {K : Cx} {b n8 : Nat} {x : Int32} {s : Nat → Int32} {m : TM} (hb : isC b) (hn : s 1 = nI n8) (h8 : n8 ≤ 8) : ∀ (n : Nat) (j : Nat), n8 - j < n → j ≤ n8 → XX RX0 cX0_delaying 4 (some .int) 1 20 K 4 [some (.ref b), some (.int x), some (.int (deF s x j)), some (.int (nI j))] [] (sr m b s) (fun r1 m1 => r1 = (some (.int (deF s x n8))) ∧ m1 = sr m b s) := by
  intro n
  induction n with
  | zero => intro j hlt; exact absurd hlt (Nat.not_lt_zero _)
  | succ n ih =>
    intro j hlt hj
    refine x_iload_n (q := 5) dX0_delaying_4 rfl rfl ?_
    refine x_aload_n (q := 6) dX0_delaying_5 rfl rfl ?_
    refine x_getIr (q := 9) dX0_delaying_6 rfl fl_X0_31 (ob0_laid hb) ?_
    refine x_icmp_ge (q := 12) (t := 41) dX0_delaying_9 rfl (by decide) (fun h9 => ?_) (fun h9 => ?_)
    · refine x_iload_n (q := 42) dX0_delaying_41 rfl rfl ?_
      refine x_ireturn dX0_delaying_42 rfl rfl ?_
      have e : j = n8 := Nat.le_antisymm hj (lp_stop hn (by omega) (by omega) h9)
      subst e
      exact ⟨rfl, rfl⟩
    have hjn : j < n8 := lp_go hn (by omega) (by omega) h9
    have hj8 : j < 8 := by omega
    refine x_aload_n (q := 13) dX0_delaying_12 rfl rfl ?_
    refine x_getR (q := 16) dX0_delaying_13 rfl fl_X0_36 (or0_slip hb) ?_
    refine x_iload_n (q := 17) dX0_delaying_16 rfl rfl ?_
    refine x_slip (q := 18) dX0_delaying_17 rfl hb (ix_nI hj8 (by decide)) ?_
    refine x_getIr (q := 21) dX0_delaying_18 rfl fl_X0_89 (ob1 hb hj8 0 (by decide)) ?_
    refine x_callS1v (q := 24) dX0_delaying_21 rfl ml_X0_98 ms_X1_delays c_X1_delays (Nat.le_of_ble_eq_true rfl) ⟨by decide, by decide⟩ ?_
    refine x_if_le (q := 27) (t := 35) dX0_delaying_24 rfl (by decide) (fun h24 => ?_) (fun h24 => ?_)
    · refine x_iinc (q := 38) (v := nI (j + 1)) dX0_delaying_35 rfl rfl (jnI_s j) (by decide) rfl rfl ?_
      refine x_goto (q := 4) dX0_delaying_38 (by decide) ?_
      have key := ih (j + 1) (by omega) (by omega)
      simp only [deF, h24, if_true, if_false, and_self, and_true, and_false, true_and, false_and] at key
      exact key
    refine x_iload_n (q := 28) dX0_delaying_27 rfl rfl ?_
    refine x_iload_n (q := 29) dX0_delaying_28 rfl rfl ?_
    refine x_iconst (q := 30) (v := 1) dX0_delaying_29 rfl (by decide) ?_
    refine x_iload_n (q := 31) dX0_delaying_30 rfl rfl ?_
    refine x_ishl (q := 32) dX0_delaying_31 rfl ?_
    refine x_iand (q := 33) dX0_delaying_32 rfl ?_
    refine x_ior (q := 34) dX0_delaying_33 rfl ?_
    refine x_istore_n (q := 35) dX0_delaying_34 rfl (by decide) rfl rfl ?_
    refine x_iinc (q := 38) (v := nI (j + 1)) dX0_delaying_35 rfl rfl (jnI_s j) (by decide) rfl rfl ?_
    refine x_goto (q := 4) dX0_delaying_38 (by decide) ?_
    have key := ih (j + 1) (by omega) (by omega)
    simp only [deF, h24, if_true, if_false, and_self, and_true, and_false, true_and, false_and] at key
    exact key
set_option maxRecDepth 20000 in
set_option maxHeartbeats 4000000 in
theorem c_X0_delaying {K : Cx} {b n8 : Nat} {x : Int32} {s : Nat → Int32} {m : TM} (hb : isC b) (hn : s 1 = nI n8) (h8 : n8 ≤ 8) : CT yX0_delaying cX0_delaying 4 (some .int) 1 20 K [.ref b, .int x] (sr m b s) (some (.int (deF s x n8))) (sr m b s) := by
  refine ct_ofd (n := 2) (by decide +kernel) rfl rfl ?_
  show XX RX0 cX0_delaying 4 (some .int) 1 20 K 0 [some (.ref b), some (.int x), none, none] [] (sr m b s) (fun r1 m1 => r1 = (some (.int (deF s x n8))) ∧ m1 = sr m b s)
  refine x_iconst (q := 1) (v := 0) dX0_delaying_0 rfl (by decide) ?_
  refine x_istore_n (q := 2) dX0_delaying_1 rfl (by decide) rfl rfl ?_
  refine x_iconst (q := 3) (v := 0) dX0_delaying_2 rfl (by decide) ?_
  refine x_istore_n (q := 4) dX0_delaying_3 rfl (by decide) rfl rfl ?_
  exact l_X0_delaying hb hn h8 (n8 + 1) 0 (by omega) (by omega)
theorem dX0_weightThatLies_0 : decode cX0_weightThatLies 0 = .ok (.iconst 0, 1) := by decide +kernel
theorem dX0_weightThatLies_1 : decode cX0_weightThatLies 1 = .ok (.istore_n 1, 1) := by decide +kernel
theorem dX0_weightThatLies_2 : decode cX0_weightThatLies 2 = .ok (.iconst 0, 1) := by decide +kernel
theorem dX0_weightThatLies_3 : decode cX0_weightThatLies 3 = .ok (.istore_n 2, 1) := by decide +kernel
theorem dX0_weightThatLies_4 : decode cX0_weightThatLies 4 = .ok (.iload_n 2, 1) := by decide +kernel
theorem dX0_weightThatLies_5 : decode cX0_weightThatLies 5 = .ok (.aload_n 0, 1) := by decide +kernel
theorem dX0_weightThatLies_6 : decode cX0_weightThatLies 6 = .ok (.getfield 31, 3) := by decide +kernel
theorem dX0_weightThatLies_9 : decode cX0_weightThatLies 9 = .ok (.if_icmp .ge 33, 3) := by decide +kernel
theorem dX0_weightThatLies_12 : decode cX0_weightThatLies 12 = .ok (.aload_n 0, 1) := by decide +kernel
theorem dX0_weightThatLies_13 : decode cX0_weightThatLies 13 = .ok (.getfield 36, 3) := by decide +kernel
theorem dX0_weightThatLies_16 : decode cX0_weightThatLies 16 = .ok (.iload_n 2, 1) := by decide +kernel
theorem dX0_weightThatLies_17 : decode cX0_weightThatLies 17 = .ok (.aaload, 1) := by decide +kernel
theorem dX0_weightThatLies_18 : decode cX0_weightThatLies 18 = .ok (.getfield 65, 3) := by decide +kernel
theorem dX0_weightThatLies_21 : decode cX0_weightThatLies 21 = .ok (.ifCond .ne 15, 3) := by decide +kernel
theorem dX0_weightThatLies_24 : decode cX0_weightThatLies 24 = .ok (.iload_n 1, 1) := by decide +kernel
theorem dX0_weightThatLies_25 : decode cX0_weightThatLies 25 = .ok (.aload_n 0, 1) := by decide +kernel
theorem dX0_weightThatLies_26 : decode cX0_weightThatLies 26 = .ok (.getfield 36, 3) := by decide +kernel
theorem dX0_weightThatLies_29 : decode cX0_weightThatLies 29 = .ok (.iload_n 2, 1) := by decide +kernel
theorem dX0_weightThatLies_30 : decode cX0_weightThatLies 30 = .ok (.aaload, 1) := by decide +kernel
theorem dX0_weightThatLies_31 : decode cX0_weightThatLies 31 = .ok (.getfield 92, 3) := by decide +kernel
theorem dX0_weightThatLies_34 : decode cX0_weightThatLies 34 = .ok (.iadd, 1) := by decide +kernel
theorem dX0_weightThatLies_35 : decode cX0_weightThatLies 35 = .ok (.istore_n 1, 1) := by decide +kernel
theorem dX0_weightThatLies_36 : decode cX0_weightThatLies 36 = .ok (.iinc 2 1, 3) := by decide +kernel
theorem dX0_weightThatLies_39 : decode cX0_weightThatLies 39 = .ok (.goto (-35), 3) := by decide +kernel
theorem dX0_weightThatLies_42 : decode cX0_weightThatLies 42 = .ok (.iload_n 1, 1) := by decide +kernel
theorem dX0_weightThatLies_43 : decode cX0_weightThatLies 43 = .ok (.ireturn, 1) := by decide +kernel
set_option maxRecDepth 20000 in
set_option maxHeartbeats 4000000 in
theorem l_X0_weightThatLies {K : Cx} {b n8 : Nat} {s : Nat → Int32} {m : TM} (hb : isC b) (hn : s 1 = nI n8) (h8 : n8 ≤ 8) : ∀ (n : Nat) (j : Nat), n8 - j < n → j ≤ n8 → XX RX0 cX0_weightThatLies 3 (some .int) 0 0 K 4 [some (.ref b), some (.int (weF s j)), some (.int (nI j))] [] (sr m b s) (fun r1 m1 => r1 = (some (.int (weF s n8))) ∧ m1 = sr m b s) := by
  intro n
  induction n with
  | zero => intro j hlt; exact absurd hlt (Nat.not_lt_zero _)
  | succ n ih =>
    intro j hlt hj
    refine x_iload_n (q := 5) dX0_weightThatLies_4 rfl rfl ?_
    refine x_aload_n (q := 6) dX0_weightThatLies_5 rfl rfl ?_
    refine x_getIr (q := 9) dX0_weightThatLies_6 rfl fl_X0_31 (ob0_laid hb) ?_
    refine x_icmp_ge (q := 12) (t := 42) dX0_weightThatLies_9 rfl (by decide) (fun h9 => ?_) (fun h9 => ?_)
    · refine x_iload_n (q := 43) dX0_weightThatLies_42 rfl rfl ?_
      refine x_ireturn dX0_weightThatLies_43 rfl rfl ?_
      have e : j = n8 := Nat.le_antisymm hj (lp_stop hn (by omega) (by omega) h9)
      subst e
      exact ⟨rfl, rfl⟩
    have hjn : j < n8 := lp_go hn (by omega) (by omega) h9
    have hj8 : j < 8 := by omega
    refine x_aload_n (q := 13) dX0_weightThatLies_12 rfl rfl ?_
    refine x_getR (q := 16) dX0_weightThatLies_13 rfl fl_X0_36 (or0_slip hb) ?_
    refine x_iload_n (q := 17) dX0_weightThatLies_16 rfl rfl ?_
    refine x_slip (q := 18) dX0_weightThatLies_17 rfl hb (ix_nI hj8 (by decide)) ?_
    refine x_getIr (q := 21) dX0_weightThatLies_18 rfl fl_X0_65 (ob1 hb hj8 4 (by decide)) ?_
    refine x_if_ne (q := 24) (t := 36) dX0_weightThatLies_21 rfl (by decide) (fun h21 => ?_) (fun h21 => ?_)
    · refine x_iinc (q := 39) (v := nI (j + 1)) dX0_weightThatLies_36 rfl rfl (jnI_s j) (by decide) rfl rfl ?_
      refine x_goto (q := 4) dX0_weightThatLies_39 (by decide) ?_
      have key := ih (j + 1) (by omega) (by omega)
      simp only [weF, h21, if_true, if_false, and_self, and_true, and_false, true_and, false_and] at key
      exact key
    refine x_iload_n (q := 25) dX0_weightThatLies_24 rfl rfl ?_
    refine x_aload_n (q := 26) dX0_weightThatLies_25 rfl rfl ?_
    refine x_getR (q := 29) dX0_weightThatLies_26 rfl fl_X0_36 (or0_slip hb) ?_
    refine x_iload_n (q := 30) dX0_weightThatLies_29 rfl rfl ?_
    refine x_slip (q := 31) dX0_weightThatLies_30 rfl hb (ix_nI hj8 (by decide)) ?_
    refine x_getIr (q := 34) dX0_weightThatLies_31 rfl fl_X0_92 (ob1 hb hj8 2 (by decide)) ?_
    refine x_iadd (q := 35) dX0_weightThatLies_34 rfl ?_
    refine x_istore_n (q := 36) dX0_weightThatLies_35 rfl (by decide) rfl rfl ?_
    refine x_iinc (q := 39) (v := nI (j + 1)) dX0_weightThatLies_36 rfl rfl (jnI_s j) (by decide) rfl rfl ?_
    refine x_goto (q := 4) dX0_weightThatLies_39 (by decide) ?_
    have key := ih (j + 1) (by omega) (by omega)
    simp only [weF, h21, if_true, if_false, and_self, and_true, and_false, true_and, false_and] at key
    exact key
set_option maxRecDepth 20000 in
set_option maxHeartbeats 4000000 in
theorem c_X0_weightThatLies {K : Cx} {b n8 : Nat} {s : Nat → Int32} {m : TM} (hb : isC b) (hn : s 1 = nI n8) (h8 : n8 ≤ 8) : CT yX0_weightThatLies cX0_weightThatLies 3 (some .int) 0 0 K [.ref b] (sr m b s) (some (.int (weF s n8))) (sr m b s) := by
  refine ct_ofd (n := 2) (by decide +kernel) rfl rfl ?_
  show XX RX0 cX0_weightThatLies 3 (some .int) 0 0 K 0 [some (.ref b), none, none] [] (sr m b s) (fun r1 m1 => r1 = (some (.int (weF s n8))) ∧ m1 = sr m b s)
  refine x_iconst (q := 1) (v := 0) dX0_weightThatLies_0 rfl (by decide) ?_
  refine x_istore_n (q := 2) dX0_weightThatLies_1 rfl (by decide) rfl rfl ?_
  refine x_iconst (q := 3) (v := 0) dX0_weightThatLies_2 rfl (by decide) ?_
  refine x_istore_n (q := 4) dX0_weightThatLies_3 rfl (by decide) rfl rfl ?_
  exact l_X0_weightThatLies hb hn h8 (n8 + 1) 0 (by omega) (by omega)
theorem dX0_spotsThatHold_0 : decode cX0_spotsThatHold 0 = .ok (.iconst 0, 1) := by decide +kernel
theorem dX0_spotsThatHold_1 : decode cX0_spotsThatHold 1 = .ok (.istore_n 1, 1) := by decide +kernel
theorem dX0_spotsThatHold_2 : decode cX0_spotsThatHold 2 = .ok (.aload_n 0, 1) := by decide +kernel
theorem dX0_spotsThatHold_3 : decode cX0_spotsThatHold 3 = .ok (.getfield 40, 3) := by decide +kernel
theorem dX0_spotsThatHold_6 : decode cX0_spotsThatHold 6 = .ok (.astore_n 2, 1) := by decide +kernel
theorem dX0_spotsThatHold_7 : decode cX0_spotsThatHold 7 = .ok (.aload_n 2, 1) := by decide +kernel
theorem dX0_spotsThatHold_8 : decode cX0_spotsThatHold 8 = .ok (.arraylength, 1) := by decide +kernel
theorem dX0_spotsThatHold_9 : decode cX0_spotsThatHold 9 = .ok (.istore_n 3, 1) := by decide +kernel
theorem dX0_spotsThatHold_10 : decode cX0_spotsThatHold 10 = .ok (.iconst 0, 1) := by decide +kernel
theorem dX0_spotsThatHold_11 : decode cX0_spotsThatHold 11 = .ok (.istore 4, 2) := by decide +kernel
theorem dX0_spotsThatHold_13 : decode cX0_spotsThatHold 13 = .ok (.iload 4, 2) := by decide +kernel
theorem dX0_spotsThatHold_15 : decode cX0_spotsThatHold 15 = .ok (.iload_n 3, 1) := by decide +kernel
theorem dX0_spotsThatHold_16 : decode cX0_spotsThatHold 16 = .ok (.if_icmp .ge 24, 3) := by decide +kernel
theorem dX0_spotsThatHold_19 : decode cX0_spotsThatHold 19 = .ok (.aload_n 2, 1) := by decide +kernel
theorem dX0_spotsThatHold_20 : decode cX0_spotsThatHold 20 = .ok (.iload 4, 2) := by decide +kernel
theorem dX0_spotsThatHold_22 : decode cX0_spotsThatHold 22 = .ok (.iaload, 1) := by decide +kernel
theorem dX0_spotsThatHold_23 : decode cX0_spotsThatHold 23 = .ok (.istore 5, 2) := by decide +kernel
theorem dX0_spotsThatHold_25 : decode cX0_spotsThatHold 25 = .ok (.iload 5, 2) := by decide +kernel
theorem dX0_spotsThatHold_27 : decode cX0_spotsThatHold 27 = .ok (.iconst (-1), 1) := by decide +kernel
theorem dX0_spotsThatHold_28 : decode cX0_spotsThatHold 28 = .ok (.if_icmp .eq 6, 3) := by decide +kernel
theorem dX0_spotsThatHold_31 : decode cX0_spotsThatHold 31 = .ok (.iinc 1 1, 3) := by decide +kernel
theorem dX0_spotsThatHold_34 : decode cX0_spotsThatHold 34 = .ok (.iinc 4 1, 3) := by decide +kernel
theorem dX0_spotsThatHold_37 : decode cX0_spotsThatHold 37 = .ok (.goto (-24), 3) := by decide +kernel
theorem dX0_spotsThatHold_40 : decode cX0_spotsThatHold 40 = .ok (.iload_n 1, 1) := by decide +kernel
theorem dX0_spotsThatHold_41 : decode cX0_spotsThatHold 41 = .ok (.ireturn, 1) := by decide +kernel
set_option maxRecDepth 20000 in
set_option maxHeartbeats 4000000 in
theorem l_X0_spotsThatHold {K : Cx} {b N : Nat} {s : Nat → Int32} {m : TM} (hb : isC b) (hN : N = 10) : ∀ (n : Nat) (j : Nat), 10 - j < n → j ≤ 10 → XX RX0 cX0_spotsThatHold 6 (some .int) 0 0 K 13 [some (.ref b), some (.int (spF s j)), some (.ref (b + 3)), some (.int 10), some (.int (nI j)), none] [] (sr m b s) (fun r1 m1 => r1 = (some (.int (spF s N))) ∧ m1 = sr m b s) := by
  intro n
  induction n with
  | zero => intro j hlt; exact absurd hlt (Nat.not_lt_zero _)
  | succ n ih =>
    intro j hlt hj
    refine x_iload (q := 15) dX0_spotsThatHold_13 rfl rfl ?_
    refine x_iload_n (q := 16) dX0_spotsThatHold_15 rfl rfl ?_
    refine x_icmp_ge (q := 19) (t := 40) dX0_spotsThatHold_16 rfl (by decide) (fun h16 => ?_) (fun h16 => ?_)
    · refine x_iload_n (q := 41) dX0_spotsThatHold_40 rfl rfl ?_
      refine x_ireturn dX0_spotsThatHold_41 rfl rfl ?_
      have e : j = 10 := Nat.le_antisymm hj (lp_stop (n := 10) rfl (by omega) (by omega) h16)
      subst hN
      subst e
      exact ⟨rfl, rfl⟩
    have hjn : j < 10 := lp_go (n := 10) rfl (by omega) (by omega) h16
    refine x_aload_n (q := 20) dX0_spotsThatHold_19 rfl rfl ?_
    refine x_iload (q := 22) dX0_spotsThatHold_20 rfl rfl ?_
    refine x_ialdr (q := 23) dX0_spotsThatHold_22 rfl (ar_spots hb) (ix_nI (n := 10) hjn (by decide)) rfl ?_
    refine x_istore (q := 25) dX0_spotsThatHold_23 rfl (by decide) rfl rfl ?_
    refine x_iload (q := 27) dX0_spotsThatHold_25 rfl rfl ?_
    refine x_iconst (q := 28) (v := (-1)) dX0_spotsThatHold_27 rfl (by decide) ?_
    refine x_icmp_eq (q := 31) (t := 34) dX0_spotsThatHold_28 rfl (by decide) (fun h28 => ?_) (fun h28 => ?_)
    · refine x_iinc (q := 37) (v := nI (j + 1)) dX0_spotsThatHold_34 rfl rfl (jnI_s j) (by decide) rfl rfl ?_
      refine x_goto (q := 13) dX0_spotsThatHold_37 (by decide) ?_
      have key := ih (j + 1) (by omega) (by omega)
      simp only [spF, h28, if_true, if_false] at key
      exact x_ls key (And.intro rfl (And.intro rfl (And.intro rfl (And.intro rfl (And.intro rfl trivial)))))
    refine x_iinc (q := 34) dX0_spotsThatHold_31 rfl rfl rfl (by decide) rfl rfl ?_
    refine x_iinc (q := 37) (v := nI (j + 1)) dX0_spotsThatHold_34 rfl rfl (jnI_s j) (by decide) rfl rfl ?_
    refine x_goto (q := 13) dX0_spotsThatHold_37 (by decide) ?_
    have key := ih (j + 1) (by omega) (by omega)
    simp only [spF, h28, if_true, if_false] at key
    exact x_ls key (And.intro rfl (And.intro rfl (And.intro rfl (And.intro rfl (And.intro rfl trivial)))))
set_option maxRecDepth 20000 in
set_option maxHeartbeats 4000000 in
theorem c_X0_spotsThatHold {K : Cx} {b : Nat} {s : Nat → Int32} {m : TM} (hb : isC b) : CT yX0_spotsThatHold cX0_spotsThatHold 6 (some .int) 0 0 K [.ref b] (sr m b s) (some (.int (spF s 10))) (sr m b s) := by
  refine ct_ofd (n := 5) (by decide +kernel) rfl rfl ?_
  show XX RX0 cX0_spotsThatHold 6 (some .int) 0 0 K 0 [some (.ref b), none, none, none, none, none] [] (sr m b s) (fun r1 m1 => r1 = (some (.int (spF s 10))) ∧ m1 = sr m b s)
  refine x_iconst (q := 1) (v := 0) dX0_spotsThatHold_0 rfl (by decide) ?_
  refine x_istore_n (q := 2) dX0_spotsThatHold_1 rfl (by decide) rfl rfl ?_
  refine x_aload_n (q := 3) dX0_spotsThatHold_2 rfl rfl ?_
  refine x_getR (q := 6) dX0_spotsThatHold_3 rfl fl_X0_40 (or0_spots hb) ?_
  refine x_astore_n (q := 7) dX0_spotsThatHold_6 rfl (by decide) rfl rfl ?_
  refine x_aload_n (q := 8) dX0_spotsThatHold_7 rfl rfl ?_
  refine x_alen (q := 9) (v := 10) dX0_spotsThatHold_8 rfl (ra_spots hb) (by decide) (by decide) ?_
  refine x_istore_n (q := 10) dX0_spotsThatHold_9 rfl (by decide) rfl rfl ?_
  refine x_iconst (q := 11) (v := 0) dX0_spotsThatHold_10 rfl (by decide) ?_
  refine x_istore (q := 13) dX0_spotsThatHold_11 rfl (by decide) rfl rfl ?_
  exact l_X0_spotsThatHold hb rfl 11 0 (by omega) (by omega)
theorem dX0_passDay_0 : decode cX0_passDay 0 = .ok (.aload_n 0, 1) := by decide +kernel
theorem dX0_passDay_1 : decode cX0_passDay 1 = .ok (.invokevirtual 61, 3) := by decide +kernel
theorem dX0_passDay_4 : decode cX0_passDay 4 = .ok (.istore_n 1, 1) := by decide +kernel
theorem dX0_passDay_5 : decode cX0_passDay 5 = .ok (.iconst 0, 1) := by decide +kernel
theorem dX0_passDay_6 : decode cX0_passDay 6 = .ok (.istore_n 2, 1) := by decide +kernel
theorem dX0_passDay_7 : decode cX0_passDay 7 = .ok (.iload_n 2, 1) := by decide +kernel
theorem dX0_passDay_8 : decode cX0_passDay 8 = .ok (.aload_n 0, 1) := by decide +kernel
theorem dX0_passDay_9 : decode cX0_passDay 9 = .ok (.getfield 31, 3) := by decide +kernel
theorem dX0_passDay_12 : decode cX0_passDay 12 = .ok (.if_icmp .ge 47, 3) := by decide +kernel
theorem dX0_passDay_15 : decode cX0_passDay 15 = .ok (.aload_n 0, 1) := by decide +kernel
theorem dX0_passDay_16 : decode cX0_passDay 16 = .ok (.getfield 36, 3) := by decide +kernel
theorem dX0_passDay_19 : decode cX0_passDay 19 = .ok (.iload_n 2, 1) := by decide +kernel
theorem dX0_passDay_20 : decode cX0_passDay 20 = .ok (.aaload, 1) := by decide +kernel
theorem dX0_passDay_21 : decode cX0_passDay 21 = .ok (.astore_n 3, 1) := by decide +kernel
theorem dX0_passDay_22 : decode cX0_passDay 22 = .ok (.aload_n 3, 1) := by decide +kernel
theorem dX0_passDay_23 : decode cX0_passDay 23 = .ok (.getfield 65, 3) := by decide +kernel
theorem dX0_passDay_26 : decode cX0_passDay 26 = .ok (.ifCond .ne 16, 3) := by decide +kernel
theorem dX0_passDay_29 : decode cX0_passDay 29 = .ok (.aload_n 3, 1) := by decide +kernel
theorem dX0_passDay_30 : decode cX0_passDay 30 = .ok (.getfield 68, 3) := by decide +kernel
theorem dX0_passDay_33 : decode cX0_passDay 33 = .ok (.ifCond .ne 9, 3) := by decide +kernel
theorem dX0_passDay_36 : decode cX0_passDay 36 = .ok (.aload_n 0, 1) := by decide +kernel
theorem dX0_passDay_37 : decode cX0_passDay 37 = .ok (.aload_n 3, 1) := by decide +kernel
theorem dX0_passDay_38 : decode cX0_passDay 38 = .ok (.iload_n 1, 1) := by decide +kernel
theorem dX0_passDay_39 : decode cX0_passDay 39 = .ok (.invokevirtual 71, 3) := by decide +kernel
theorem dX0_passDay_42 : decode cX0_passDay 42 = .ok (.aload_n 3, 1) := by decide +kernel
theorem dX0_passDay_43 : decode cX0_passDay 43 = .ok (.getfield 65, 3) := by decide +kernel
theorem dX0_passDay_46 : decode cX0_passDay 46 = .ok (.ifCond .ne 7, 3) := by decide +kernel
theorem dX0_passDay_49 : decode cX0_passDay 49 = .ok (.aload_n 3, 1) := by decide +kernel
theorem dX0_passDay_50 : decode cX0_passDay 50 = .ok (.invokevirtual 75, 3) := by decide +kernel
theorem dX0_passDay_53 : decode cX0_passDay 53 = .ok (.iinc 2 1, 3) := by decide +kernel
theorem dX0_passDay_56 : decode cX0_passDay 56 = .ok (.goto (-49), 3) := by decide +kernel
theorem dX0_passDay_59 : decode cX0_passDay 59 = .ok (.aload_n 0, 1) := by decide +kernel
theorem dX0_passDay_60 : decode cX0_passDay 60 = .ok (.aload_n 0, 1) := by decide +kernel
theorem dX0_passDay_61 : decode cX0_passDay 61 = .ok (.getfield 25, 3) := by decide +kernel
theorem dX0_passDay_64 : decode cX0_passDay 64 = .ok (.iconst 1, 1) := by decide +kernel
theorem dX0_passDay_65 : decode cX0_passDay 65 = .ok (.iadd, 1) := by decide +kernel
theorem dX0_passDay_66 : decode cX0_passDay 66 = .ok (.ldc 78, 2) := by decide +kernel
theorem dX0_passDay_68 : decode cX0_passDay 68 = .ok (.invokestatic 79, 3) := by decide +kernel
theorem dX0_passDay_71 : decode cX0_passDay 71 = .ok (.putfield 25, 3) := by decide +kernel
theorem dX0_passDay_74 : decode cX0_passDay 74 = .ok (.return_, 1) := by decide +kernel
set_option maxRecDepth 20000 in
set_option maxHeartbeats 4000000 in
theorem l_X0_passDay {K : Cx} {b n8 : Nat} {t : Int32} {s : Nat → Int32} {m : TM} (hb : isC b) (hn : s 1 = nI n8) (h8 : n8 ≤ 8) : ∀ (n : Nat) (j : Nat), n8 - j < n → j ≤ n8 → XX RX0 cX0_passDay 4 none 3 64 K 7 [some (.ref b), some (.int t), some (.int (nI j)), none] [] (sr m b (dyL s t j)) (fun r1 m1 => r1 = none ∧ m1 = sr m b (upd (dyL s t n8) 0 (minI (dyL s t n8 0 + 1) 99999))) := by
  intro n
  induction n with
  | zero => intro j hlt; exact absurd hlt (Nat.not_lt_zero _)
  | succ n ih =>
    intro j hlt hj
    have hnj : dyL s t j 1 = nI n8 := by rw [dyL_lo (by decide) (by decide) (by decide), hn]
    refine x_iload_n (q := 8) dX0_passDay_7 rfl rfl ?_
    refine x_aload_n (q := 9) dX0_passDay_8 rfl rfl ?_
    refine x_getIr (q := 12) dX0_passDay_9 rfl fl_X0_31 (ob0_laid hb) ?_
    refine x_icmp_ge (q := 15) (t := 59) dX0_passDay_12 rfl (by decide) (fun h12 => ?_) (fun h12 => ?_)
    · refine x_aload_n (q := 60) dX0_passDay_59 rfl rfl ?_
      refine x_aload_n (q := 61) dX0_passDay_60 rfl rfl ?_
      refine x_getIr (q := 64) dX0_passDay_61 rfl fl_X0_25 (ob0_day hb) ?_
      refine x_iconst (q := 65) (v := 1) dX0_passDay_64 rfl (by decide) ?_
      refine x_iadd (q := 66) dX0_passDay_65 rfl ?_
      refine x_ldc (q := 68) dX0_passDay_66 rfl kc_X0_78 ?_
      refine x_mmin (q := 71) dX0_passDay_68 rfl ml_X0_79 ⟨by decide, Nat.le_of_ble_eq_true rfl⟩ ?_
      refine x_putIr (q := 74) dX0_passDay_71 rfl fl_X0_25 (ob0_day hb) rfl rfl rfl  ?_
      refine x_return dX0_passDay_74 rfl ?_
      have e : j = n8 := Nat.le_antisymm hj (lp_stop hnj (by omega) (by omega) h12)
      subst e
      exact ⟨rfl, rfl⟩
    have hjn : j < n8 := lp_go hnj (by omega) (by omega) h12
    have hj8 : j < 8 := by omega
    refine x_aload_n (q := 16) dX0_passDay_15 rfl rfl ?_
    refine x_getR (q := 19) dX0_passDay_16 rfl fl_X0_36 (or0_slip hb) ?_
    refine x_iload_n (q := 20) dX0_passDay_19 rfl rfl ?_
    refine x_slip (q := 21) dX0_passDay_20 rfl hb (ix_nI hj8 (by decide)) ?_
    refine x_astore_n (q := 22) dX0_passDay_21 rfl (by decide) rfl rfl ?_
    refine x_aload_n (q := 23) dX0_passDay_22 rfl rfl ?_
    refine x_getIr (q := 26) dX0_passDay_23 rfl fl_X0_65 (ob1 hb hj8 4 (by decide)) ?_
    refine x_if_ne (q := 29) (t := 42) dX0_passDay_26 rfl (by decide) (fun h26 => ?_) (fun h26 => ?_)
    · refine x_aload_n (q := 43) dX0_passDay_42 rfl rfl ?_
      refine x_getIr (q := 46) dX0_passDay_43 rfl fl_X0_65 (ob1 hb hj8 4 (by decide)) ?_
      refine x_if_ne (q := 49) (t := 53) dX0_passDay_46 rfl (by decide) (fun h46 => ?_) (fun h46 => ?_)
      · refine x_iinc (q := 56) (v := nI (j + 1)) dX0_passDay_53 rfl rfl (jnI_s j) (by decide) rfl rfl ?_
        refine x_goto (q := 7) dX0_passDay_56 (by decide) ?_
        have key := ih (j + 1) (by omega) (by omega)
        have e : dyL s t (j + 1) = stC (dyL s t j) t j := rfl
        rw [e] at key
        have em : mtC (dyL s t j) t j = dyL s t j := by simp only [mtC, h26, if_true, if_false]
        rw [stC, em, if_neg h46] at key
        exact x_ls key (And.intro rfl (And.intro rfl (And.intro rfl trivial)))
      refine x_aload_n (q := 50) dX0_passDay_49 rfl rfl ?_
      refine x_callV0n (q := 53) dX0_passDay_50 rfl ml_X0_75 mv_X1_waitOneDay (rv1 hb hj8) rfl (c_X1_waitOneDay hb hj8) (Nat.le_of_ble_eq_true rfl) ⟨by decide, by decide⟩ ?_
      refine x_iinc (q := 56) (v := nI (j + 1)) dX0_passDay_53 rfl rfl (jnI_s j) (by decide) rfl rfl ?_
      refine x_goto (q := 7) dX0_passDay_56 (by decide) ?_
      have key := ih (j + 1) (by omega) (by omega)
      have e : dyL s t (j + 1) = stC (dyL s t j) t j := rfl
      rw [e] at key
      have em : mtC (dyL s t j) t j = dyL s t j := by simp only [mtC, h26, if_true, if_false]
      rw [stC, em, if_pos h46] at key
      exact x_ls key (And.intro rfl (And.intro rfl (And.intro rfl trivial)))
    refine x_aload_n (q := 30) dX0_passDay_29 rfl rfl ?_
    refine x_getIr (q := 33) dX0_passDay_30 rfl fl_X0_68 (ob1 hb hj8 5 (by decide)) ?_
    refine x_if_ne (q := 36) (t := 42) dX0_passDay_33 rfl (by decide) (fun h33 => ?_) (fun h33 => ?_)
    · refine x_aload_n (q := 43) dX0_passDay_42 rfl rfl ?_
      refine x_getIr (q := 46) dX0_passDay_43 rfl fl_X0_65 (ob1 hb hj8 4 (by decide)) ?_
      refine x_if_ne (q := 49) (t := 53) dX0_passDay_46 rfl (by decide) (fun h46 => ?_) (fun h46 => ?_)
      · refine x_iinc (q := 56) (v := nI (j + 1)) dX0_passDay_53 rfl rfl (jnI_s j) (by decide) rfl rfl ?_
        refine x_goto (q := 7) dX0_passDay_56 (by decide) ?_
        have key := ih (j + 1) (by omega) (by omega)
        have e : dyL s t (j + 1) = stC (dyL s t j) t j := rfl
        rw [e] at key
        have em : mtC (dyL s t j) t j = dyL s t j := by simp only [mtC, h26, h33, if_true, if_false]
        rw [stC, em, if_neg h46] at key
        exact x_ls key (And.intro rfl (And.intro rfl (And.intro rfl trivial)))
      refine x_aload_n (q := 50) dX0_passDay_49 rfl rfl ?_
      refine x_callV0n (q := 53) dX0_passDay_50 rfl ml_X0_75 mv_X1_waitOneDay (rv1 hb hj8) rfl (c_X1_waitOneDay hb hj8) (Nat.le_of_ble_eq_true rfl) ⟨by decide, by decide⟩ ?_
      refine x_iinc (q := 56) (v := nI (j + 1)) dX0_passDay_53 rfl rfl (jnI_s j) (by decide) rfl rfl ?_
      refine x_goto (q := 7) dX0_passDay_56 (by decide) ?_
      have key := ih (j + 1) (by omega) (by omega)
      have e : dyL s t (j + 1) = stC (dyL s t j) t j := rfl
      rw [e] at key
      have em : mtC (dyL s t j) t j = dyL s t j := by simp only [mtC, h26, h33, if_true, if_false]
      rw [stC, em, if_pos h46] at key
      exact x_ls key (And.intro rfl (And.intro rfl (And.intro rfl trivial)))
    refine x_aload_n (q := 37) dX0_passDay_36 rfl rfl ?_
    refine x_aload_n (q := 38) dX0_passDay_37 rfl rfl ?_
    refine x_iload_n (q := 39) dX0_passDay_38 rfl rfl ?_
    refine x_callV2n (q := 42) dX0_passDay_39 rfl ml_X0_71 mv_X0_meet (rv0 hb) rfl (c_X0_meet hb hj8) (Nat.le_of_ble_eq_true rfl) ⟨by decide, by decide⟩ ?_
    refine x_aload_n (q := 43) dX0_passDay_42 rfl rfl ?_
    refine x_getIr (q := 46) dX0_passDay_43 rfl fl_X0_65 (ob1 hb hj8 4 (by decide)) ?_
    refine x_if_ne (q := 49) (t := 53) dX0_passDay_46 rfl (by decide) (fun h46 => ?_) (fun h46 => ?_)
    · refine x_iinc (q := 56) (v := nI (j + 1)) dX0_passDay_53 rfl rfl (jnI_s j) (by decide) rfl rfl ?_
      refine x_goto (q := 7) dX0_passDay_56 (by decide) ?_
      have key := ih (j + 1) (by omega) (by omega)
      have e : dyL s t (j + 1) = stC (dyL s t j) t j := rfl
      rw [e] at key
      have em : mtC (dyL s t j) t j = meF (dyL s t j) j t := by simp only [mtC, h26, h33, if_true, if_false]
      rw [stC, em, if_neg h46] at key
      exact x_ls key (And.intro rfl (And.intro rfl (And.intro rfl trivial)))
    refine x_aload_n (q := 50) dX0_passDay_49 rfl rfl ?_
    refine x_callV0n (q := 53) dX0_passDay_50 rfl ml_X0_75 mv_X1_waitOneDay (rv1 hb hj8) rfl (c_X1_waitOneDay hb hj8) (Nat.le_of_ble_eq_true rfl) ⟨by decide, by decide⟩ ?_
    refine x_iinc (q := 56) (v := nI (j + 1)) dX0_passDay_53 rfl rfl (jnI_s j) (by decide) rfl rfl ?_
    refine x_goto (q := 7) dX0_passDay_56 (by decide) ?_
    have key := ih (j + 1) (by omega) (by omega)
    have e : dyL s t (j + 1) = stC (dyL s t j) t j := rfl
    rw [e] at key
    have em : mtC (dyL s t j) t j = meF (dyL s t j) j t := by simp only [mtC, h26, h33, if_true, if_false]
    rw [stC, em, if_pos h46] at key
    exact x_ls key (And.intro rfl (And.intro rfl (And.intro rfl trivial)))
set_option maxRecDepth 20000 in
set_option maxHeartbeats 4000000 in
theorem c_X0_passDay {K : Cx} {b n8 : Nat} {s : Nat → Int32} {m : TM} (hb : isC b) (hn : s 1 = nI n8) (h8 : n8 ≤ 8) (ht : TD s) : CT yX0_passDay cX0_passDay 4 none 3 64 K [.ref b] (sr m b s) none (sr m b (dyC s n8)) := by
  refine ct_ofd (n := 3) (by decide +kernel) rfl rfl ?_
  show XX RX0 cX0_passDay 4 none 3 64 K 0 [some (.ref b), none, none, none] [] (sr m b s) (fun r1 m1 => r1 = none ∧ m1 = sr m b (dyC s n8))
  refine x_aload_n (q := 1) dX0_passDay_0 rfl rfl ?_
  refine x_callV0v (q := 4) dX0_passDay_1 rfl ml_X0_61 mv_X0_tideOfDay (rv0 hb) rfl (c_X0_tideOfDay hb ht) (Nat.le_of_ble_eq_true rfl) ⟨by decide, by decide⟩ ?_
  refine x_istore_n (q := 5) dX0_passDay_4 rfl (by decide) rfl rfl ?_
  refine x_iconst (q := 6) (v := 0) dX0_passDay_5 rfl (by decide) ?_
  refine x_istore_n (q := 7) dX0_passDay_6 rfl (by decide) rfl rfl ?_
  exact l_X0_passDay hb hn h8 (n8 + 1) 0 (by omega) (by omega)
theorem dX0_lay_0 : decode cX0_lay 0 = .ok (.aload_n 0, 1) := by decide +kernel
theorem dX0_lay_1 : decode cX0_lay 1 = .ok (.getfield 31, 3) := by decide +kernel
theorem dX0_lay_4 : decode cX0_lay 4 = .ok (.aload_n 0, 1) := by decide +kernel
theorem dX0_lay_5 : decode cX0_lay 5 = .ok (.getfield 36, 3) := by decide +kernel
theorem dX0_lay_8 : decode cX0_lay 8 = .ok (.arraylength, 1) := by decide +kernel
theorem dX0_lay_9 : decode cX0_lay 9 = .ok (.if_icmp .lt 5, 3) := by decide +kernel
theorem dX0_lay_12 : decode cX0_lay 12 = .ok (.aconst_null, 1) := by decide +kernel
theorem dX0_lay_13 : decode cX0_lay 13 = .ok (.areturn, 1) := by decide +kernel
theorem dX0_lay_14 : decode cX0_lay 14 = .ok (.aload_n 0, 1) := by decide +kernel
theorem dX0_lay_15 : decode cX0_lay 15 = .ok (.getfield 36, 3) := by decide +kernel
theorem dX0_lay_18 : decode cX0_lay 18 = .ok (.aload_n 0, 1) := by decide +kernel
theorem dX0_lay_19 : decode cX0_lay 19 = .ok (.getfield 31, 3) := by decide +kernel
theorem dX0_lay_22 : decode cX0_lay 22 = .ok (.aaload, 1) := by decide +kernel
theorem dX0_lay_23 : decode cX0_lay 23 = .ok (.astore_n 2, 1) := by decide +kernel
theorem dX0_lay_24 : decode cX0_lay 24 = .ok (.aload_n 2, 1) := by decide +kernel
theorem dX0_lay_25 : decode cX0_lay 25 = .ok (.iload_n 1, 1) := by decide +kernel
theorem dX0_lay_26 : decode cX0_lay 26 = .ok (.invokevirtual 54, 3) := by decide +kernel
theorem dX0_lay_29 : decode cX0_lay 29 = .ok (.aload_n 0, 1) := by decide +kernel
theorem dX0_lay_30 : decode cX0_lay 30 = .ok (.dup, 1) := by decide +kernel
theorem dX0_lay_31 : decode cX0_lay 31 = .ok (.getfield 31, 3) := by decide +kernel
theorem dX0_lay_34 : decode cX0_lay 34 = .ok (.iconst 1, 1) := by decide +kernel
theorem dX0_lay_35 : decode cX0_lay 35 = .ok (.iadd, 1) := by decide +kernel
theorem dX0_lay_36 : decode cX0_lay 36 = .ok (.putfield 31, 3) := by decide +kernel
theorem dX0_lay_39 : decode cX0_lay 39 = .ok (.aload_n 2, 1) := by decide +kernel
theorem dX0_lay_40 : decode cX0_lay 40 = .ok (.areturn, 1) := by decide +kernel
set_option maxRecDepth 20000 in
set_option maxHeartbeats 4000000 in
theorem c_X0_lay {K : Cx} {b n8 : Nat} {x : Int32} {s : Nat → Int32} {m : TM} (hb : isC b) (hn : s 1 = nI n8) (h8 : n8 < 8) : CT yX0_lay cX0_lay 3 (some (.object "SeaParcels$Parcel")) 1 21 K [.ref b, .int x] (sr m b s) (some (.ref (b + 4 + n8))) (sr m b (upd (newF s n8 x) 1 (nI (n8 + 1)))) := by
  refine ct_ofd (n := 1) (by decide +kernel) rfl rfl ?_
  show XX RX0 cX0_lay 3 (some (.object "SeaParcels$Parcel")) 1 21 K 0 [some (.ref b), some (.int x), none] [] (sr m b s) (fun r1 m1 => r1 = (some (.ref (b + 4 + n8))) ∧ m1 = sr m b (upd (newF s n8 x) 1 (nI (n8 + 1))))
  refine x_aload_n (q := 1) dX0_lay_0 rfl rfl ?_
  refine x_getIr (q := 4) dX0_lay_1 rfl fl_X0_31 (ob0_laid hb) ?_
  refine x_aload_n (q := 5) dX0_lay_4 rfl rfl ?_
  refine x_getR (q := 8) dX0_lay_5 rfl fl_X0_36 (or0_slip hb) ?_
  refine x_alen (q := 9) (v := 8) dX0_lay_8 rfl (ra_slip hb) (by decide) (by decide) ?_
  refine x_icmp_lt (q := 12) (t := 14) dX0_lay_9 rfl (by decide) (fun h9 => ?_) (fun h9 => ?_)
  · refine x_aload_n (q := 15) dX0_lay_14 rfl rfl ?_
    refine x_getR (q := 18) dX0_lay_15 rfl fl_X0_36 (or0_slip hb) ?_
    refine x_aload_n (q := 19) dX0_lay_18 rfl rfl ?_
    refine x_getIr (q := 22) dX0_lay_19 rfl fl_X0_31 (ob0_laid hb) ?_
    refine x_slip (q := 23) dX0_lay_22 rfl hb (by rw [hn]; exact ix_nI h8 (by decide)) ?_
    refine x_astore_n (q := 24) dX0_lay_23 rfl (by decide) rfl rfl ?_
    refine x_aload_n (q := 25) dX0_lay_24 rfl rfl ?_
    refine x_iload_n (q := 26) dX0_lay_25 rfl rfl ?_
    refine x_callV1n (q := 29) dX0_lay_26 rfl ml_X0_54 mv_X1_beNew (rv1 hb h8) rfl (c_X1_beNew hb h8) (Nat.le_of_ble_eq_true rfl) ⟨by decide, by decide⟩ ?_
    refine x_aload_n (q := 30) dX0_lay_29 rfl rfl ?_
    refine x_dup (q := 31) dX0_lay_30 rfl rfl ?_
    refine x_getIr (q := 34) dX0_lay_31 rfl fl_X0_31 (ob0_laid hb) ?_
    refine x_iconst (q := 35) (v := 1) dX0_lay_34 rfl (by decide) ?_
    refine x_iadd (q := 36) dX0_lay_35 rfl ?_
    refine x_putIr (q := 39) dX0_lay_36 rfl fl_X0_31 (ob0_laid hb) rfl rfl rfl  ?_
    refine x_aload_n (q := 40) dX0_lay_39 rfl rfl ?_
    refine x_areturn dX0_lay_40 rfl (Or.inr ⟨_, rfl⟩) ?_
    refine ⟨rfl, ?_⟩
    have e : newF s n8 x 1 = s 1 := by
      unfold newF
      rw [upd_ne (by omega), upd_ne (by omega), upd_ne (by omega), upd_ne (by omega), upd_ne (by omega), upd_ne (by omega), upd_ne (by omega)]
    rw [e, hn, nI_1]
  refine x_null (q := 13) dX0_lay_12 rfl ?_
  refine x_areturn dX0_lay_13 rfl (Or.inl rfl) ?_
  exact absurd (by rw [hn]; exact (jnI_lt (b := 8) (by omega) (by omega)).mpr h8) h9
set_option maxRecDepth 20000 in
set_option maxHeartbeats 4000000 in
theorem c_X0_layN {K : Cx} {b : Nat} {x : Int32} {s : Nat → Int32} {m : TM} (hb : isC b) (hn : s 1 = nI 8) : CT yX0_lay cX0_lay 3 (some (.object "SeaParcels$Parcel")) 1 21 K [.ref b, .int x] (sr m b s) (some .null) (sr m b s) := by
  refine ct_ofd (n := 1) (by decide +kernel) rfl rfl ?_
  show XX RX0 cX0_lay 3 (some (.object "SeaParcels$Parcel")) 1 21 K 0 [some (.ref b), some (.int x), none] [] (sr m b s) (fun r1 m1 => r1 = (some .null) ∧ m1 = sr m b s)
  refine x_aload_n (q := 1) dX0_lay_0 rfl rfl ?_
  refine x_getIr (q := 4) dX0_lay_1 rfl fl_X0_31 (ob0_laid hb) ?_
  refine x_aload_n (q := 5) dX0_lay_4 rfl rfl ?_
  refine x_getR (q := 8) dX0_lay_5 rfl fl_X0_36 (or0_slip hb) ?_
  refine x_alen (q := 9) (v := 8) dX0_lay_8 rfl (ra_slip hb) (by decide) (by decide) ?_
  refine x_icmp_lt (q := 12) (t := 14) dX0_lay_9 rfl (by decide) (fun h9 => ?_) (fun h9 => ?_)
  · exact absurd (hn ▸ h9) (by decide)
  refine x_null (q := 13) dX0_lay_12 rfl ?_
  refine x_areturn dX0_lay_13 rfl (Or.inl rfl) ?_
  exact ⟨rfl, rfl⟩
theorem dX0_becomeAs_0 : decode cX0_becomeAs 0 = .ok (.aload_n 1, 1) := by decide +kernel
theorem dX0_becomeAs_1 : decode cX0_becomeAs 1 = .ok (.getfield 9, 3) := by decide +kernel
theorem dX0_becomeAs_4 : decode cX0_becomeAs 4 = .ok (.iconst 0, 1) := by decide +kernel
theorem dX0_becomeAs_5 : decode cX0_becomeAs 5 = .ok (.aload_n 0, 1) := by decide +kernel
theorem dX0_becomeAs_6 : decode cX0_becomeAs 6 = .ok (.getfield 9, 3) := by decide +kernel
theorem dX0_becomeAs_9 : decode cX0_becomeAs 9 = .ok (.iconst 0, 1) := by decide +kernel
theorem dX0_becomeAs_10 : decode cX0_becomeAs 10 = .ok (.bipush 6, 2) := by decide +kernel
theorem dX0_becomeAs_12 : decode cX0_becomeAs 12 = .ok (.invokestatic 44, 3) := by decide +kernel
theorem dX0_becomeAs_15 : decode cX0_becomeAs 15 = .ok (.aload_n 0, 1) := by decide +kernel
theorem dX0_becomeAs_16 : decode cX0_becomeAs 16 = .ok (.aload_n 1, 1) := by decide +kernel
theorem dX0_becomeAs_17 : decode cX0_becomeAs 17 = .ok (.getfield 15, 3) := by decide +kernel
theorem dX0_becomeAs_20 : decode cX0_becomeAs 20 = .ok (.putfield 15, 3) := by decide +kernel
theorem dX0_becomeAs_23 : decode cX0_becomeAs 23 = .ok (.aload_n 0, 1) := by decide +kernel
theorem dX0_becomeAs_24 : decode cX0_becomeAs 24 = .ok (.aload_n 1, 1) := by decide +kernel
theorem dX0_becomeAs_25 : decode cX0_becomeAs 25 = .ok (.getfield 19, 3) := by decide +kernel
theorem dX0_becomeAs_28 : decode cX0_becomeAs 28 = .ok (.putfield 19, 3) := by decide +kernel
theorem dX0_becomeAs_31 : decode cX0_becomeAs 31 = .ok (.aload_n 0, 1) := by decide +kernel
theorem dX0_becomeAs_32 : decode cX0_becomeAs 32 = .ok (.aload_n 1, 1) := by decide +kernel
theorem dX0_becomeAs_33 : decode cX0_becomeAs 33 = .ok (.getfield 22, 3) := by decide +kernel
theorem dX0_becomeAs_36 : decode cX0_becomeAs 36 = .ok (.putfield 22, 3) := by decide +kernel
theorem dX0_becomeAs_39 : decode cX0_becomeAs 39 = .ok (.aload_n 0, 1) := by decide +kernel
theorem dX0_becomeAs_40 : decode cX0_becomeAs 40 = .ok (.aload_n 1, 1) := by decide +kernel
theorem dX0_becomeAs_41 : decode cX0_becomeAs 41 = .ok (.getfield 25, 3) := by decide +kernel
theorem dX0_becomeAs_44 : decode cX0_becomeAs 44 = .ok (.putfield 25, 3) := by decide +kernel
theorem dX0_becomeAs_47 : decode cX0_becomeAs 47 = .ok (.aload_n 0, 1) := by decide +kernel
theorem dX0_becomeAs_48 : decode cX0_becomeAs 48 = .ok (.aload_n 1, 1) := by decide +kernel
theorem dX0_becomeAs_49 : decode cX0_becomeAs 49 = .ok (.getfield 28, 3) := by decide +kernel
theorem dX0_becomeAs_52 : decode cX0_becomeAs 52 = .ok (.putfield 28, 3) := by decide +kernel
theorem dX0_becomeAs_55 : decode cX0_becomeAs 55 = .ok (.aload_n 0, 1) := by decide +kernel
theorem dX0_becomeAs_56 : decode cX0_becomeAs 56 = .ok (.aload_n 1, 1) := by decide +kernel
theorem dX0_becomeAs_57 : decode cX0_becomeAs 57 = .ok (.getfield 31, 3) := by decide +kernel
theorem dX0_becomeAs_60 : decode cX0_becomeAs 60 = .ok (.putfield 31, 3) := by decide +kernel
theorem dX0_becomeAs_63 : decode cX0_becomeAs 63 = .ok (.iconst 0, 1) := by decide +kernel
theorem dX0_becomeAs_64 : decode cX0_becomeAs 64 = .ok (.istore_n 2, 1) := by decide +kernel
theorem dX0_becomeAs_65 : decode cX0_becomeAs 65 = .ok (.iload_n 2, 1) := by decide +kernel
theorem dX0_becomeAs_66 : decode cX0_becomeAs 66 = .ok (.aload_n 0, 1) := by decide +kernel
theorem dX0_becomeAs_67 : decode cX0_becomeAs 67 = .ok (.getfield 31, 3) := by decide +kernel
theorem dX0_becomeAs_70 : decode cX0_becomeAs 70 = .ok (.if_icmp .ge 24, 3) := by decide +kernel
theorem dX0_becomeAs_73 : decode cX0_becomeAs 73 = .ok (.aload_n 0, 1) := by decide +kernel
theorem dX0_becomeAs_74 : decode cX0_becomeAs 74 = .ok (.getfield 36, 3) := by decide +kernel
theorem dX0_becomeAs_77 : decode cX0_becomeAs 77 = .ok (.iload_n 2, 1) := by decide +kernel
theorem dX0_becomeAs_78 : decode cX0_becomeAs 78 = .ok (.aaload, 1) := by decide +kernel
theorem dX0_becomeAs_79 : decode cX0_becomeAs 79 = .ok (.aload_n 1, 1) := by decide +kernel
theorem dX0_becomeAs_80 : decode cX0_becomeAs 80 = .ok (.getfield 36, 3) := by decide +kernel
theorem dX0_becomeAs_83 : decode cX0_becomeAs 83 = .ok (.iload_n 2, 1) := by decide +kernel
theorem dX0_becomeAs_84 : decode cX0_becomeAs 84 = .ok (.aaload, 1) := by decide +kernel
theorem dX0_becomeAs_85 : decode cX0_becomeAs 85 = .ok (.invokevirtual 50, 3) := by decide +kernel
theorem dX0_becomeAs_88 : decode cX0_becomeAs 88 = .ok (.iinc 2 1, 3) := by decide +kernel
theorem dX0_becomeAs_91 : decode cX0_becomeAs 91 = .ok (.goto (-26), 3) := by decide +kernel
theorem dX0_becomeAs_94 : decode cX0_becomeAs 94 = .ok (.aload_n 1, 1) := by decide +kernel
theorem dX0_becomeAs_95 : decode cX0_becomeAs 95 = .ok (.getfield 40, 3) := by decide +kernel
theorem dX0_becomeAs_98 : decode cX0_becomeAs 98 = .ok (.iconst 0, 1) := by decide +kernel
theorem dX0_becomeAs_99 : decode cX0_becomeAs 99 = .ok (.aload_n 0, 1) := by decide +kernel
theorem dX0_becomeAs_100 : decode cX0_becomeAs 100 = .ok (.getfield 40, 3) := by decide +kernel
theorem dX0_becomeAs_103 : decode cX0_becomeAs 103 = .ok (.iconst 0, 1) := by decide +kernel
theorem dX0_becomeAs_104 : decode cX0_becomeAs 104 = .ok (.bipush 10, 2) := by decide +kernel
theorem dX0_becomeAs_106 : decode cX0_becomeAs 106 = .ok (.invokestatic 44, 3) := by decide +kernel
theorem dX0_becomeAs_109 : decode cX0_becomeAs 109 = .ok (.return_, 1) := by decide +kernel
set_option maxRecDepth 20000 in
set_option maxHeartbeats 4000000 in
theorem l_X0_becomeAs {K : Cx} {b b2 n8 : Nat} {s : Nat → Int32} {m : TM} (hb : isC b) (h2 : isC b2) (hne : b2 ≠ b) (hn : s 1 = nI n8) (h8 : n8 ≤ 8) : ∀ (n : Nat) (j : Nat), n8 - j < n → j ≤ n8 → XX RX0 cX0_becomeAs 3 none 1 30 K 65 [some (.ref b), some (.ref b2), some (.int (nI j))] [] (sr m b (bcL s (m.1 b2) j)) (fun r1 m1 => r1 = none ∧ m1 = sr m b (cpR (bcL s (m.1 b2) n8) (m.1 b2) 68 68 10)) := by
  intro n
  induction n with
  | zero => intro j hlt; exact absurd hlt (Nat.not_lt_zero _)
  | succ n ih =>
    intro j hlt hj
    have hnj : bcL s (m.1 b2) j 1 = nI n8 := by rw [bcL_lo (by decide), hn]
    refine x_iload_n (q := 66) dX0_becomeAs_65 rfl rfl ?_
    refine x_aload_n (q := 67) dX0_becomeAs_66 rfl rfl ?_
    refine x_getIr (q := 70) dX0_becomeAs_67 rfl fl_X0_31 (ob0_laid hb) ?_
    refine x_icmp_ge (q := 73) (t := 94) dX0_becomeAs_70 rfl (by decide) (fun h70 => ?_) (fun h70 => ?_)
    · refine x_aload_n (q := 95) dX0_becomeAs_94 rfl rfl ?_
      refine x_getR (q := 98) dX0_becomeAs_95 rfl fl_X0_40 (or0_spots h2) ?_
      refine x_iconst (q := 99) (v := 0) dX0_becomeAs_98 rfl (by decide) ?_
      refine x_aload_n (q := 100) dX0_becomeAs_99 rfl rfl ?_
      refine x_getR (q := 103) dX0_becomeAs_100 rfl fl_X0_40 (or0_spots hb) ?_
      refine x_iconst (q := 104) (v := 0) dX0_becomeAs_103 rfl (by decide) ?_
      refine x_bipush (q := 106) (v := 10) dX0_becomeAs_104 rfl (by decide) ?_
      refine x_copy (q := 109) dX0_becomeAs_106 rfl ac_X0 (ar_spots h2) (ar_spots hb) ⟨by decide, by decide, by decide⟩ ⟨rfl, rfl, rfl⟩ (by decide) (by decide) ⟨by decide, Nat.le_of_ble_eq_true rfl⟩ (cpy_sr hne) ?_
      refine x_return dX0_becomeAs_109 rfl ?_
      have e : j = n8 := Nat.le_antisymm hj (lp_stop hnj (by omega) (by omega) h70)
      subst e
      exact ⟨rfl, rfl⟩
    have hjn : j < n8 := lp_go hnj (by omega) (by omega) h70
    have hj8 : j < 8 := by omega
    refine x_aload_n (q := 74) dX0_becomeAs_73 rfl rfl ?_
    refine x_getR (q := 77) dX0_becomeAs_74 rfl fl_X0_36 (or0_slip hb) ?_
    refine x_iload_n (q := 78) dX0_becomeAs_77 rfl rfl ?_
    refine x_slip (q := 79) dX0_becomeAs_78 rfl hb (ix_nI hj8 (by decide)) ?_
    refine x_aload_n (q := 80) dX0_becomeAs_79 rfl rfl ?_
    refine x_getR (q := 83) dX0_becomeAs_80 rfl fl_X0_36 (or0_slip h2) ?_
    refine x_iload_n (q := 84) dX0_becomeAs_83 rfl rfl ?_
    refine x_slip (q := 85) dX0_becomeAs_84 rfl h2 (ix_nI hj8 (by decide)) ?_
    refine x_callV1n (q := 88) dX0_becomeAs_85 rfl ml_X0_50 mv_X1_becomeAs (rv1 hb hj8) rfl (c_X1_becomeAs hb hj8 h2 hj8 hne) (Nat.le_of_ble_eq_true rfl) ⟨by decide, by decide⟩ ?_
    refine x_iinc (q := 91) (v := nI (j + 1)) dX0_becomeAs_88 rfl rfl (jnI_s j) (by decide) rfl rfl ?_
    refine x_goto (q := 65) dX0_becomeAs_91 (by decide) ?_
    exact ih (j + 1) (by omega) (by omega)
set_option maxRecDepth 20000 in
set_option maxHeartbeats 4000000 in
theorem c_X0_becomeAs {K : Cx} {b b2 n8 : Nat} {s : Nat → Int32} {m : TM} (hb : isC b) (h2 : isC b2) (hne : b2 ≠ b) (hn : m.1 b2 1 = nI n8) (h8 : n8 ≤ 8) : CT yX0_becomeAs cX0_becomeAs 3 none 1 30 K [.ref b, .ref b2] (sr m b s) none (sr m b (bcF s (m.1 b2) n8)) := by
  refine ct_ofd (n := 1) (by decide +kernel) rfl rfl ?_
  show XX RX0 cX0_becomeAs 3 none 1 30 K 0 [some (.ref b), some (.ref b2), none] [] (sr m b s) (fun r1 m1 => r1 = none ∧ m1 = sr m b (bcF s (m.1 b2) n8))
  refine x_aload_n (q := 1) dX0_becomeAs_0 rfl rfl ?_
  refine x_getR (q := 4) dX0_becomeAs_1 rfl fl_X0_9 (or0_list h2) ?_
  refine x_iconst (q := 5) (v := 0) dX0_becomeAs_4 rfl (by decide) ?_
  refine x_aload_n (q := 6) dX0_becomeAs_5 rfl rfl ?_
  refine x_getR (q := 9) dX0_becomeAs_6 rfl fl_X0_9 (or0_list hb) ?_
  refine x_iconst (q := 10) (v := 0) dX0_becomeAs_9 rfl (by decide) ?_
  refine x_bipush (q := 12) (v := 6) dX0_becomeAs_10 rfl (by decide) ?_
  refine x_copy (q := 15) dX0_becomeAs_12 rfl ac_X0 (ar_list h2) (ar_list hb) ⟨by decide, by decide, by decide⟩ ⟨rfl, rfl, rfl⟩ (by decide) (by decide) ⟨by decide, Nat.le_of_ble_eq_true rfl⟩ (cpy_sr hne) ?_
  refine x_aload_n (q := 16) dX0_becomeAs_15 rfl rfl ?_
  refine x_aload_n (q := 17) dX0_becomeAs_16 rfl rfl ?_
  refine x_getI (q := 20) dX0_becomeAs_17 rfl fl_X0_15 (ob0_late h2) ?_
  refine x_putIr (q := 23) dX0_becomeAs_20 rfl fl_X0_15 (ob0_late hb) rfl rfl rfl  ?_
  refine x_aload_n (q := 24) dX0_becomeAs_23 rfl rfl ?_
  refine x_aload_n (q := 25) dX0_becomeAs_24 rfl rfl ?_
  refine x_getI (q := 28) dX0_becomeAs_25 rfl fl_X0_19 (ob0_storm h2) ?_
  refine x_putIr (q := 31) dX0_becomeAs_28 rfl fl_X0_19 (ob0_storm hb) rfl rfl rfl  ?_
  refine x_aload_n (q := 32) dX0_becomeAs_31 rfl rfl ?_
  refine x_aload_n (q := 33) dX0_becomeAs_32 rfl rfl ?_
  refine x_getI (q := 36) dX0_becomeAs_33 rfl fl_X0_22 (ob0_amber h2) ?_
  refine x_putIr (q := 39) dX0_becomeAs_36 rfl fl_X0_22 (ob0_amber hb) rfl rfl rfl  ?_
  refine x_aload_n (q := 40) dX0_becomeAs_39 rfl rfl ?_
  refine x_aload_n (q := 41) dX0_becomeAs_40 rfl rfl ?_
  refine x_getI (q := 44) dX0_becomeAs_41 rfl fl_X0_25 (ob0_day h2) ?_
  refine x_putIr (q := 47) dX0_becomeAs_44 rfl fl_X0_25 (ob0_day hb) rfl rfl rfl  ?_
  refine x_aload_n (q := 48) dX0_becomeAs_47 rfl rfl ?_
  refine x_aload_n (q := 49) dX0_becomeAs_48 rfl rfl ?_
  refine x_getI (q := 52) dX0_becomeAs_49 rfl fl_X0_28 (ob0_z h2) ?_
  refine x_putIr (q := 55) dX0_becomeAs_52 rfl fl_X0_28 (ob0_z hb) rfl rfl rfl  ?_
  refine x_aload_n (q := 56) dX0_becomeAs_55 rfl rfl ?_
  refine x_aload_n (q := 57) dX0_becomeAs_56 rfl rfl ?_
  refine x_getI (q := 60) dX0_becomeAs_57 rfl fl_X0_31 (ob0_laid h2) ?_
  refine x_putIr (q := 63) dX0_becomeAs_60 rfl fl_X0_31 (ob0_laid hb) rfl rfl rfl  ?_
  refine x_iconst (q := 64) (v := 0) dX0_becomeAs_63 rfl (by decide) ?_
  refine x_istore_n (q := 65) dX0_becomeAs_64 rfl (by decide) rfl rfl ?_
  simp only [sr_ne hne]
  exact l_X0_becomeAs hb h2 hne (s := bc0 s (m.1 b2)) (by rw [bc0, upd_self, hn]) h8 (n8 + 1) 0 (by omega) (by omega)
end
section
/-! A DAY, parcel by parcel -/
def pf (s : Nat → Int32) (k : Nat) : Nat → Int32 := fun f => s (12 + 7 * k + f)
theorem pf_upd {s : Nat → Int32} {k c : Nat} {v : Int32} : pf (upd s (12 + 7 * k + c) v) k = upd (pf s k) c v := by
  funext f
  unfold pf upd
  by_cases h : f = c
  · subst h; simp
  · have h2 : ¬ 12 + 7 * k + f = 12 + 7 * k + c := by omega
    simp [h, h2]
theorem pf_lo {s : Nat → Int32} {k i : Nat} {v : Int32} (h : i < 12) : pf (upd s i v) k = pf s k := by
  funext f
  unfold pf
  exact upd_ne (by omega)
def trp (p : Nat → Int32) : Nat → Int32 := upd (upd p 6 (minI (p 6 + 1) 9999)) 1 (minI (p 1 + mvC (p 0)) 20)
def wap (p : Nat → Int32) : Nat → Int32 := if las (p 0) < minI (p 3 + 1) 9999 then upd (upd p 3 (minI (p 3 + 1) 9999)) 4 2 else upd p 3 (minI (p 3 + 1) 9999)
def tkp (t d : Int32) (p : Nat → Int32) : Bool := sg (p 0) (p 1) (p 2) (p 6) d t
def mep (t d : Int32) (p : Nat → Int32) : Nat → Int32 := if tkp t d p = true then upd p 4 1 else if tch (p 1) t = true then trp p else p
def mtp (t d : Int32) (p : Nat → Int32) : Nat → Int32 := if p 4 = 0 then (if p 5 = 0 then mep t d p else p) else p
def wtp (p : Nat → Int32) : Nat → Int32 := if p 4 = 0 then wap p else p
/-- a parcel's day -/
def stp (t d : Int32) (p : Nat → Int32) : Nat → Int32 := wtp (mtp t d p)
/-- it is taken on it -/
def tk3 (t d : Int32) (p : Nat → Int32) : Prop := p 4 = 0 ∧ p 5 = 0 ∧ tkp t d p = true
theorem pf_trn {s : Nat → Int32} {k : Nat} : pf (trn s k) k = trp (pf s k) := by
  unfold trn trp
  rw [pf_upd, pf_upd]
  rfl
theorem pf_wat {s : Nat → Int32} {k : Nat} : pf (wat s k) k = wap (pf s k) := by
  unfold wat wap
  by_cases h : las (s (12 + 7 * k + 0)) < minI (s (12 + 7 * k + 3) + 1) 9999
  · rw [if_pos h, if_pos (show las (pf s k 0) < minI (pf s k 3 + 1) 9999 from h), pf_upd, pf_upd]
    rfl
  · rw [if_neg h, if_neg (show ¬ las (pf s k 0) < minI (pf s k 3 + 1) 9999 from h), pf_upd]
    rfl
theorem pf_meF {s : Nat → Int32} {k : Nat} {t : Int32} : pf (meF s k t) k = mep t (s 0) (pf s k) := by
  unfold meF mep
  by_cases h : sg (s (12 + 7 * k + 0)) (s (12 + 7 * k + 1)) (s (12 + 7 * k + 2)) (s (12 + 7 * k + 6)) (s 0) t = true
  · rw [if_pos h, if_pos (show tkp t (s 0) (pf s k) = true from h), pf_lo (by decide), pf_lo (by decide), pf_upd]
  · rw [if_neg h, if_neg (show ¬ tkp t (s 0) (pf s k) = true from h)]
    by_cases h2 : tch (s (12 + 7 * k + 1)) t = true
    · rw [if_pos h2, if_pos (show tch (pf s k 1) t = true from h2), pf_trn]
    · rw [if_neg h2, if_neg (show ¬ tch (pf s k 1) t = true from h2)]
theorem pf_mtC {u : Nat → Int32} {j : Nat} {t : Int32} : pf (mtC u t j) j = mtp t (u 0) (pf u j) := by
  unfold mtC mtp
  by_cases h : u (12 + 7 * j + 4) = 0
  · rw [if_pos h, if_pos (show pf u j 4 = 0 from h)]
    by_cases h2 : u (12 + 7 * j + 5) = 0
    · rw [if_pos h2, if_pos (show pf u j 5 = 0 from h2), pf_meF]
    · rw [if_neg h2, if_neg (show ¬ pf u j 5 = 0 from h2)]
  · rw [if_neg h, if_neg (show ¬ pf u j 4 = 0 from h)]
def wt1 (u : Nat → Int32) (j : Nat) : Nat → Int32 := if u (12 + 7 * j + 4) = 0 then wat u j else u
theorem pf_wt1 {u : Nat → Int32} {j : Nat} : pf (wt1 u j) j = wtp (pf u j) := by
  unfold wt1 wtp
  by_cases h : u (12 + 7 * j + 4) = 0
  · rw [if_pos h, if_pos (show pf u j 4 = 0 from h), pf_wat]
  · rw [if_neg h, if_neg (show ¬ pf u j 4 = 0 from h)]
theorem stC_wt {u : Nat → Int32} {j : Nat} {t : Int32} : stC u t j = wt1 (mtC u t j) j := rfl
theorem pf_stC {u : Nat → Int32} {j : Nat} {t : Int32} : pf (stC u t j) j = stp t (u 0) (pf u j) := by rw [stC_wt, pf_wt1, pf_mtC]; rfl
theorem trn_out {s : Nat → Int32} {k i : Nat} (h : i < 12 + 7 * k ∨ 12 + 7 * k + 7 ≤ i) : trn s k i = s i := by
  unfold trn
  rw [upd_ne (by omega), upd_ne (by omega)]
theorem wat_out {s : Nat → Int32} {k i : Nat} (h : i < 12 + 7 * k ∨ 12 + 7 * k + 7 ≤ i) : wat s k i = s i := by
  unfold wat
  split
  · rw [upd_ne (by omega), upd_ne (by omega)]
  · rw [upd_ne (by omega)]
theorem meF_out {s : Nat → Int32} {k i : Nat} {t : Int32} (h3 : i ≠ 3) (h4 : i ≠ 4) (h : i < 12 + 7 * k ∨ 12 + 7 * k + 7 ≤ i) : meF s k t i = s i := by
  unfold meF
  split
  · rw [upd_ne h4, upd_ne h3, upd_ne (by omega)]
  · split
    · exact trn_out h
    · rfl
theorem mtC_out {s : Nat → Int32} {k i : Nat} {t : Int32} (h3 : i ≠ 3) (h4 : i ≠ 4) (h : i < 12 + 7 * k ∨ 12 + 7 * k + 7 ≤ i) : mtC s t k i = s i := by
  unfold mtC
  split
  · split
    · exact meF_out h3 h4 h
    · rfl
  · rfl
theorem wt1_out {s : Nat → Int32} {k i : Nat} (h : i < 12 + 7 * k ∨ 12 + 7 * k + 7 ≤ i) : wt1 s k i = s i := by
  unfold wt1
  split
  · exact wat_out h
  · rfl
theorem stC_out {s : Nat → Int32} {k i : Nat} {t : Int32} (h3 : i ≠ 3) (h4 : i ≠ 4) (h : i < 12 + 7 * k ∨ 12 + 7 * k + 7 ≤ i) : stC s t k i = s i := by
  rw [stC_wt, wt1_out h, mtC_out h3 h4 h]
theorem mtC_3 {u : Nat → Int32} {j : Nat} {t : Int32} : (tk3 t (u 0) (pf u j) → mtC u t j 3 = minI (u 3 + pys (pf u j 0) (pf u j 2)) 99999 ∧ mtC u t j 4 = minI (u 4 + dly (pf u j 0)) 9999) ∧ (¬ tk3 t (u 0) (pf u j) → mtC u t j 3 = u 3 ∧ mtC u t j 4 = u 4) := by
  constructor
  · rintro ⟨h1, h2, h3⟩
    have e : mtC u t j = meF u j t := by unfold mtC; rw [if_pos (show u (12 + 7 * j + 4) = 0 from h1), if_pos (show u (12 + 7 * j + 5) = 0 from h2)]
    rw [e]
    unfold meF
    rw [if_pos (show sg (u (12 + 7 * j + 0)) (u (12 + 7 * j + 1)) (u (12 + 7 * j + 2)) (u (12 + 7 * j + 6)) (u 0) t = true from h3)]
    exact ⟨by rw [upd_ne (by decide), upd_self]; rfl, by rw [upd_self]; rfl⟩
  · intro h
    unfold mtC
    split
    · rename_i h1
      split
      · rename_i h2
        unfold meF
        split
        · rename_i h3
          exact absurd ⟨h1, h2, h3⟩ h
        · split
          · exact ⟨trn_lo (by decide), trn_lo (by decide)⟩
          · exact ⟨rfl, rfl⟩
      · exact ⟨rfl, rfl⟩
    · exact ⟨rfl, rfl⟩
noncomputable def amL (s : Nat → Int32) (t : Int32) : Nat → Int32
  | 0 => s 3
  | j + 1 => by
    classical
    exact if tk3 t (s 0) (pf s j) then minI (amL s t j + pys (pf s j 0) (pf s j 2)) 99999 else amL s t j
noncomputable def laL (s : Nat → Int32) (t : Int32) : Nat → Int32
  | 0 => s 4
  | j + 1 => by
    classical
    exact if tk3 t (s 0) (pf s j) then minI (laL s t j + dly (pf s j 0)) 9999 else laL s t j
/-- what the class's loop makes of a row -/
theorem dyL_all {s : Nat → Int32} {t : Int32} : ∀ j, (∀ i, 12 + 7 * j ≤ i → dyL s t j i = s i) ∧ (∀ k, k < j → ∀ f, f < 7 → dyL s t j (12 + 7 * k + f) = stp t (s 0) (pf s k) f) ∧ dyL s t j 3 = amL s t j ∧ dyL s t j 4 = laL s t j
  | 0 => ⟨fun _ _ => rfl, fun k hk => absurd hk (Nat.not_lt_zero k), rfl, rfl⟩
  | j + 1 => by
    obtain ⟨h1, h2, h3, h4⟩ := dyL_all (s := s) (t := t) j
    have h0 : dyL s t j 0 = s 0 := dyL_lo (by decide) (by decide) (by decide) j
    have hp : pf (dyL s t j) j = pf s j := funext fun f => h1 _ (by omega)
    refine ⟨fun i hi => ?_, fun k hk f hf => ?_, ?_, ?_⟩
    · show stC (dyL s t j) t j i = s i
      rw [stC_out (by omega) (by omega) (by omega), h1 i (by omega)]
    · show stC (dyL s t j) t j (12 + 7 * k + f) = _
      by_cases hkj : k = j
      · subst hkj
        have e := congrFun (pf_stC (u := dyL s t k) (j := k) (t := t)) f
        rw [h0, hp] at e
        exact e
      · rw [stC_out (by omega) (by omega) (by omega)]
        exact h2 k (by omega) f hf
    · show stC (dyL s t j) t j 3 = _
      rw [stC_wt, wt1_out (by omega)]
      by_cases hk : tk3 t (s 0) (pf s j)
      · have e := mtC_3 (u := dyL s t j) (j := j) (t := t)
        rw [h0, hp] at e
        rw [(e.1 hk).1, h3]
        simp [amL, hk]
      · have e := mtC_3 (u := dyL s t j) (j := j) (t := t)
        rw [h0, hp] at e
        rw [(e.2 hk).1, h3]
        simp [amL, hk]
    · show stC (dyL s t j) t j 4 = _
      rw [stC_wt, wt1_out (by omega)]
      by_cases hk : tk3 t (s 0) (pf s j)
      · have e := mtC_3 (u := dyL s t j) (j := j) (t := t)
        rw [h0, hp] at e
        rw [(e.1 hk).2, h4]
        simp [laL, hk]
      · have e := mtC_3 (u := dyL s t j) (j := j) (t := t)
        rw [h0, hp] at e
        rw [(e.2 hk).2, h4]
        simp [laL, hk]
/-- the reference's two loops -/
def mL1 (s : Nat → Int32) (t : Int32) : Nat → Nat → Int32
  | 0 => s
  | j + 1 => mtC (mL1 s t j) t j
def mL2 (r : Nat → Int32) : Nat → Nat → Int32
  | 0 => r
  | j + 1 => wt1 (mL2 r j) j
theorem mL1_lo {s : Nat → Int32} {t : Int32} {i : Nat} (h : i < 12) (h3 : i ≠ 3) (h4 : i ≠ 4) : ∀ j, mL1 s t j i = s i
  | 0 => rfl
  | j + 1 => by rw [mL1, mtC_lo h h3 h4, mL1_lo h h3 h4 j]
theorem mL1_all {s : Nat → Int32} {t : Int32} : ∀ j, (∀ i, 12 + 7 * j ≤ i → mL1 s t j i = s i) ∧ (∀ k, k < j → ∀ f, f < 7 → mL1 s t j (12 + 7 * k + f) = mtp t (s 0) (pf s k) f) ∧ mL1 s t j 3 = amL s t j ∧ mL1 s t j 4 = laL s t j
  | 0 => ⟨fun _ _ => rfl, fun k hk => absurd hk (Nat.not_lt_zero k), rfl, rfl⟩
  | j + 1 => by
    obtain ⟨h1, h2, h3, h4⟩ := mL1_all (s := s) (t := t) j
    have h0 : mL1 s t j 0 = s 0 := mL1_lo (by decide) (by decide) (by decide) j
    have hp : pf (mL1 s t j) j = pf s j := funext fun f => h1 _ (by omega)
    have e := mtC_3 (u := mL1 s t j) (j := j) (t := t)
    rw [h0, hp] at e
    refine ⟨fun i hi => ?_, fun k hk f hf => ?_, ?_, ?_⟩
    · show mtC (mL1 s t j) t j i = s i
      rw [mtC_out (by omega) (by omega) (by omega), h1 i (by omega)]
    · show mtC (mL1 s t j) t j (12 + 7 * k + f) = _
      by_cases hkj : k = j
      · subst hkj
        have e := congrFun (pf_mtC (u := mL1 s t k) (j := k) (t := t)) f
        rw [h0, hp] at e
        exact e
      · rw [mtC_out (by omega) (by omega) (by omega)]
        exact h2 k (by omega) f hf
    · show mtC (mL1 s t j) t j 3 = _
      by_cases hk : tk3 t (s 0) (pf s j)
      · rw [(e.1 hk).1, h3]
        simp [amL, hk]
      · rw [(e.2 hk).1, h3]
        simp [amL, hk]
    · show mtC (mL1 s t j) t j 4 = _
      by_cases hk : tk3 t (s 0) (pf s j)
      · rw [(e.1 hk).2, h4]
        simp [laL, hk]
      · rw [(e.2 hk).2, h4]
        simp [laL, hk]
theorem mL2_lo {r : Nat → Int32} {i : Nat} (h : i < 12) : ∀ j, mL2 r j i = r i
  | 0 => rfl
  | j + 1 => by rw [mL2, wt1_out (by omega), mL2_lo h j]
theorem mL2_all {r : Nat → Int32} : ∀ j, (∀ i, 12 + 7 * j ≤ i → mL2 r j i = r i) ∧ (∀ k, k < j → ∀ f, f < 7 → mL2 r j (12 + 7 * k + f) = wtp (pf r k) f)
  | 0 => ⟨fun _ _ => rfl, fun k hk => absurd hk (Nat.not_lt_zero k)⟩
  | j + 1 => by
    obtain ⟨h1, h2⟩ := mL2_all (r := r) j
    have hp : pf (mL2 r j) j = pf r j := funext fun f => h1 _ (by omega)
    refine ⟨fun i hi => ?_, fun k hk f hf => ?_⟩
    · show wt1 (mL2 r j) j i = r i
      rw [wt1_out (by omega), h1 i (by omega)]
    · show wt1 (mL2 r j) j (12 + 7 * k + f) = _
      by_cases hkj : k = j
      · subst hkj
        have e := congrFun (pf_wt1 (u := mL2 r k) (j := k)) f
        rw [hp] at e
        exact e
      · rw [wt1_out (by omega)]
        exact h2 k (by omega) f hf
theorem wtp_congr {p q : Nat → Int32} (h : ∀ f, f < 7 → p f = q f) : ∀ f, f < 7 → wtp p f = wtp q f := by
  intro f hf
  have h0 := h 0 (by decide)
  have h3 := h 3 (by decide)
  have h4 := h 4 (by decide)
  have hff := h f hf
  unfold wtp wap
  rw [h0, h3, h4]
  split
  · split
    · unfold upd
      rw [hff]
    · unfold upd
      rw [hff]
  · exact hff
/-- two rows are one if they agree below 12, in the first n parcels and beyond them -/
theorem row_ext {s u : Nat → Int32} (n : Nat) (h1 : ∀ i, i < 12 → s i = u i) (h2 : ∀ k, k < n → ∀ f, f < 7 → s (12 + 7 * k + f) = u (12 + 7 * k + f)) (h3 : ∀ i, 12 + 7 * n ≤ i → s i = u i) : s = u := by
  funext i
  by_cases a : i < 12
  · exact h1 i a
  · by_cases b : 12 + 7 * n ≤ i
    · exact h3 i b
    · have h := h2 ((i - 12) / 7) (by omega) ((i - 12) % 7) (by omega)
      have e : 12 + 7 * ((i - 12) / 7) + (i - 12) % 7 = i := by omega
      rwa [e] at h
theorem mL_dyL {s : Nat → Int32} {t : Int32} {n : Nat} : mL2 (mL1 s t n) n = dyL s t n := by
  obtain ⟨a1, a2, a3, a4⟩ := mL1_all (s := s) (t := t) n
  obtain ⟨b1, b2⟩ := mL2_all (r := mL1 s t n) n
  obtain ⟨c1, c2, c3, c4⟩ := dyL_all (s := s) (t := t) n
  refine row_ext n (fun i hi => ?_) (fun k hk f hf => ?_) (fun i hi => ?_)
  · rw [mL2_lo hi]
    by_cases h3 : i = 3
    · subst h3; rw [a3, c3]
    · by_cases h4 : i = 4
      · subst h4; rw [a4, c4]
      · rw [mL1_lo hi h3 h4, dyL_lo hi h3 h4]
  · rw [b2 k hk f hf, c2 k hk f hf]
    exact wtp_congr (p := pf (mL1 s t n) k) (q := mtp t (s 0) (pf s k)) (fun g hg => a2 k hk g hg) f hf
  · rw [b1 i hi, a1 i hi, c1 i hi]
/-! what a day leaves as it was -/
theorem mtp_keep {t d : Int32} {p : Nat → Int32} : mtp t d p 0 = p 0 ∧ mtp t d p 2 = p 2 ∧ mtp t d p 5 = p 5 := by
  unfold mtp mep trp
  refine ⟨?_, ?_, ?_⟩ <;> (repeat' split) <;> simp [upd]
theorem wtp_keep {p : Nat → Int32} : wtp p 0 = p 0 ∧ wtp p 2 = p 2 ∧ wtp p 5 = p 5 := by
  unfold wtp wap
  refine ⟨?_, ?_, ?_⟩ <;> (repeat' split) <;> simp [upd]
theorem stp_keep {t d : Int32} {p : Nat → Int32} : stp t d p 0 = p 0 ∧ stp t d p 2 = p 2 ∧ stp t d p 5 = p 5 := by
  unfold stp
  exact ⟨wtp_keep.1.trans mtp_keep.1, wtp_keep.2.1.trans mtp_keep.2.1, wtp_keep.2.2.trans mtp_keep.2.2⟩
theorem stp_congr {t d : Int32} {p q : Nat → Int32} (h : ∀ f, f < 7 → p f = q f) : ∀ f, f < 7 → stp t d p f = stp t d q f := by
  refine wtp_congr fun f hf => ?_
  have h0 := h 0 (by decide)
  have h1 := h 1 (by decide)
  have h2 := h 2 (by decide)
  have h4 := h 4 (by decide)
  have h5 := h 5 (by decide)
  have h6 := h 6 (by decide)
  have hff := h f hf
  unfold mtp mep trp tkp
  rw [h0, h1, h2, h4, h5, h6]
  repeat' split
  all_goals first | exact hff | (unfold upd; rw [hff])
end
section
/-! what stays true of a coast's row -/
def Iv (n : Nat) (s : Nat → Int32) : Prop := n ≤ 8 ∧ s 1 = nI n ∧ (∃ d, d ≤ 99999 ∧ s 0 = nI d) ∧ (∃ l, l ≤ 9999 ∧ s 4 = nI l) ∧ (∀ k, k < n → (s (12 + 7 * k + 5) = 0 ∨ s (12 + 7 * k + 5) = 1) ∧ ∃ c, c ≤ 6 ∧ s (12 + 7 * k + 0) = nI c) ∧ (∀ j, j < 10 → s (68 + j) = -1 ∨ ∃ k, k < n ∧ s (68 + j) = nI k)
theorem rm6_nI {x : Nat} (h : x < 2147483648) : rm6 (nI x) = nI (x % 6) := pk_rem (d := 6) h (by decide) (by decide)
theorem Iv.td {n : Nat} {s : Nat → Int32} (h : Iv n s) : TD s := by
  obtain ⟨-, -, ⟨d, hd, e0⟩, ⟨l, hl, e4⟩, -⟩ := h
  have e : rm6 (s 0 + s 4) = nI ((d + l) % 6) := by rw [e0, e4, nI_add, rm6_nI (by omega)]
  unfold TD tdx
  rw [e]
  have h6 : (d + l) % 6 < 6 := Nat.mod_lt _ (by decide)
  rw [jnI_clamp (by omega)]
  exact ix_nI h6 (by decide)
theorem minI_nI {a b : Nat} (ha : a < 2147483648) (hb : b < 2147483648) : minI (nI a) (nI b) = nI (min a b) := by
  unfold minI
  by_cases h : b < a
  · rw [if_pos ((jnI_lt hb ha).mpr h), Nat.min_eq_right (by omega)]
  · rw [if_neg (fun q => h ((jnI_lt hb ha).mp q)), Nat.min_eq_left (by omega)]
theorem dly_nI (x : Int32) : ∃ c, c ≤ 2 ∧ dly x = nI c := by
  unfold dly
  split
  · exact ⟨1, by decide, rfl⟩
  · split
    · exact ⟨2, by decide, rfl⟩
    · exact ⟨0, by decide, rfl⟩
theorem laL_nI {s : Nat → Int32} {t : Int32} {l : Nat} (hl : l ≤ 9999) (e : s 4 = nI l) : ∀ j, ∃ l2, l2 ≤ 9999 ∧ laL s t j = nI l2
  | 0 => ⟨l, hl, e⟩
  | j + 1 => by
    obtain ⟨l2, h2, e2⟩ := laL_nI hl e j
    obtain ⟨c, hc, ec⟩ := dly_nI (pf s j 0)
    by_cases hk : tk3 t (s 0) (pf s j)
    · refine ⟨min (l2 + c) 9999, by omega, ?_⟩
      simp only [laL, if_pos hk]
      rw [e2, ec, nI_add, show (9999 : Int32) = nI 9999 from rfl, minI_nI (by omega) (by omega)]
    · exact ⟨l2, h2, by simp only [laL, if_neg hk]; exact e2⟩
theorem dyC_lo {s : Nat → Int32} {n i : Nat} (h : i < 12) (h0 : i ≠ 0) (h3 : i ≠ 3) (h4 : i ≠ 4) : dyC s n i = s i := by
  unfold dyC
  rw [upd_ne h0, dyL_lo h h3 h4]
theorem dyC_0 {s : Nat → Int32} {n : Nat} : dyC s n 0 = minI (s 0 + 1) 99999 := by
  unfold dyC
  rw [upd_self, dyL_lo (by decide) (by decide) (by decide)]
theorem dyC_3 {s : Nat → Int32} {n : Nat} : dyC s n 3 = amL s (tdF s) n := by
  unfold dyC
  rw [upd_ne (by decide), (dyL_all n).2.2.1]
theorem dyC_4 {s : Nat → Int32} {n : Nat} : dyC s n 4 = laL s (tdF s) n := by
  unfold dyC
  rw [upd_ne (by decide), (dyL_all n).2.2.2]
theorem dyC_p {s : Nat → Int32} {n k f : Nat} (hk : k < n) (hf : f < 7) : dyC s n (12 + 7 * k + f) = stp (tdF s) (s 0) (pf s k) f := by
  unfold dyC
  rw [upd_ne (by omega), (dyL_all n).2.1 k hk f hf]
theorem dyC_hi {s : Nat → Int32} {n i : Nat} (h : 12 + 7 * n ≤ i) : dyC s n i = s i := by
  unfold dyC
  rw [upd_ne (by omega), (dyL_all n).1 i h]
theorem Iv.day {n : Nat} {s : Nat → Int32} (h : Iv n s) : Iv n (dyC s n) := by
  obtain ⟨h8, e1, ⟨d, hd, e0⟩, ⟨l, hl, e4⟩, hp, hs⟩ := h
  refine ⟨h8, by rw [dyC_lo (by decide) (by decide) (by decide) (by decide), e1], ⟨min (d + 1) 99999, by omega, ?_⟩, ?_, fun k hk => ?_, fun j hj => ?_⟩
  · rw [dyC_0, e0, nI_1, show (99999 : Int32) = nI 99999 from rfl, minI_nI (by omega) (by omega)]
  · rw [dyC_4]
    exact laL_nI hl e4 n
  · rw [dyC_p hk (by decide), dyC_p hk (by decide), stp_keep.1, stp_keep.2.2]
    exact hp k hk
  · rw [dyC_hi (by omega)]
    exact hs j hj
theorem Iv.days {n : Nat} : ∀ (c : Nat) {s : Nat → Int32}, Iv n s → Iv n (dysC n c s)
  | 0, _, h => h
  | c + 1, _, h => Iv.days c h.day
theorem dysC_s {n : Nat} : ∀ (c : Nat) (s : Nat → Int32), dysC n (c + 1) s = dyC (dysC n c s) n
  | 0, _ => rfl
  | c + 1, s => dysC_s c (dyC s n)
/-! the world sees only what has a place -/
def Ag (m m' : TM) : Prop := m.2 = m'.2 ∧ ∀ o, o < 62 → ∀ k, k < ln o → isI o k = true → rdI m o k = rdI m' o k
theorem ag_ws {K : Cx} {m m' : TM} (h : Ag m m') : wsOf K m = wsOf K m' := by
  apply List.ext_getElem?
  intro i
  by_cases h2 : i < 62
  · rw [ws_get h2, ws_get h2]
    have e : cellOf K m i = cellOf K m' i := by
      by_cases h6 : kd i < 6
      · rw [cell_obj h6, cell_obj h6]
        refine congrArg (fun z => Sum.inr (kd i, z)) (List.map_congr_left fun j hj => congrArg (vmp K) ?_)
        have hj' : j < ln i := List.mem_range.mp hj
        by_cases hf : fk (kd i) j = 0
        · rw [VL_int h6 hf, VL_int h6 hf, h.2 i h2 j hj' (by simp [isI, h6, hf])]
        · simp [VL, hf, h.1]
      · by_cases h9 : kd i < 9
        · rw [cell_arr h6 h9, cell_arr h6 h9]
          refine congrArg (fun z => Sum.inl (kcA K (kd i), ln i, Sum.inl z)) (funext fun j => ?_)
          by_cases hj : j < ln i
          · rw [if_pos hj, if_pos hj, h.2 i h2 j hj (by simp [isI, h6, h9]; omega)]
          · rw [if_neg hj, if_neg hj]
        · rw [cell_rarr h9, cell_rarr h9]
    rw [e]
  · have h3 : ∀ n : TM, (wsOf K n)[i]? = none := fun n => by simp [wsOf]; omega
    rw [h3, h3]
def rsz (r : Nat) : Nat := if r = 1 ∨ r = 13 ∨ r = 25 ∨ r = 50 ∨ r = 51 ∨ r = 52 then 78 else if r = 38 ∨ r = 54 then 120 else if r = 43 ∨ r = 60 then 160 else if r = 61 ∨ r = 56 then 40 else if r = 40 ∨ r = 53 then 7 else if r = 55 then 70 else if r = 57 then 20 else if r = 41 ∨ r = 42 ∨ r = 58 ∨ r = 59 then 4 else 20
set_option maxRecDepth 100000 in
theorem lc_rsz : ∀ o, o < 62 → ∀ k, k < ln o → isI o k = true → (lc o k).2 < rsz (lc o k).1 := by decide +kernel
theorem ag_of {m m' : TM} (h2 : m.2 = m'.2) (h : ∀ r i, i < rsz r → m.1 r i = m'.1 r i) : Ag m m' := ⟨h2, fun o ho k hk hi => h _ _ (lc_rsz o ho k hk hi)⟩
/-- a row may be changed beyond its length -/
theorem ag_row {m : TM} {r : Nat} {f g : Nat → Int32} (h : ∀ i, i < rsz r → f i = g i) : Ag (sr m r f) (sr m r g) := by
  refine ag_of rfl fun a i hi => ?_
  unfold sr
  dsimp only
  by_cases e : a = r
  · subst e
    rw [if_pos rfl, if_pos rfl, h i hi]
  · rw [if_neg e, if_neg e]
theorem x_ag {own : String} {cc : ByteArray} {mL : Nat} {rt : Option FieldType} {fr lo : Nat} {K : Cx} {pc : Nat} {ls : List (Option Value)} {st : List Value} {m m' : TM} {Q : Option Value → TM → Prop} (h : Ag m m') (kk : XX own cc mL rt fr lo K pc ls st m' Q) : XX own cc mL rt fr lo K pc ls st m Q := by
  intro p e s mi args below meth c H locs arr C hP hD hS hL
  rw [ag_ws h] at hP hD
  exact kk p e s mi args below meth c H locs arr C hP hD hS hL
theorem dX0_passDays_0 : decode cX0_passDays 0 = .ok (.iconst 0, 1) := by decide +kernel
theorem dX0_passDays_1 : decode cX0_passDays 1 = .ok (.istore_n 2, 1) := by decide +kernel
theorem dX0_passDays_2 : decode cX0_passDays 2 = .ok (.iload_n 2, 1) := by decide +kernel
theorem dX0_passDays_3 : decode cX0_passDays 3 = .ok (.iload_n 1, 1) := by decide +kernel
theorem dX0_passDays_4 : decode cX0_passDays 4 = .ok (.if_icmp .ge 13, 3) := by decide +kernel
theorem dX0_passDays_7 : decode cX0_passDays 7 = .ok (.aload_n 0, 1) := by decide +kernel
theorem dX0_passDays_8 : decode cX0_passDays 8 = .ok (.invokevirtual 58, 3) := by decide +kernel
theorem dX0_passDays_11 : decode cX0_passDays 11 = .ok (.iinc 2 1, 3) := by decide +kernel
theorem dX0_passDays_14 : decode cX0_passDays 14 = .ok (.goto (-12), 3) := by decide +kernel
theorem dX0_passDays_17 : decode cX0_passDays 17 = .ok (.return_, 1) := by decide +kernel
set_option maxRecDepth 20000 in
set_option maxHeartbeats 4000000 in
theorem l_X0_passDays {K : Cx} {b n8 c : Nat} {m : TM} (hb : isC b) (hc : c ≤ 1000) : ∀ (n : Nat) (j : Nat) (s : Nat → Int32), c - j < n → j ≤ c → Iv n8 s → XX RX0 cX0_passDays 3 none 4 87 K 2 [some (.ref b), some (.int (nI c)), some (.int (nI j))] [] (sr m b s) (fun r1 m1 => r1 = none ∧ m1 = sr m b (dysC n8 (c - j) s)) := by
  intro n
  induction n with
  | zero => intro j s hlt; exact absurd hlt (Nat.not_lt_zero _)
  | succ n ih =>
    intro j s hlt hj hI
    refine x_iload_n (q := 3) dX0_passDays_2 rfl rfl ?_
    refine x_iload_n (q := 4) dX0_passDays_3 rfl rfl ?_
    refine x_icmp_ge (q := 7) (t := 17) dX0_passDays_4 rfl (by decide) (fun h4 => ?_) (fun h4 => ?_)
    · refine x_return dX0_passDays_17 rfl ?_
      have e : j = c := Nat.le_antisymm hj (lp_stop rfl (by omega) (by omega) h4)
      subst e
      exact ⟨rfl, by rw [Nat.sub_self]; rfl⟩
    have hjn : j < c := lp_go rfl (by omega) (by omega) h4
    refine x_aload_n (q := 8) dX0_passDays_7 rfl rfl ?_
    refine x_callV0n (q := 11) dX0_passDays_8 rfl ml_X0_58 mv_X0_passDay (rv0 hb) rfl (c_X0_passDay hb hI.2.1 hI.1 hI.td) (Nat.le_of_ble_eq_true rfl) ⟨by decide, by decide⟩ ?_
    refine x_iinc (q := 14) (v := nI (j + 1)) dX0_passDays_11 rfl rfl (jnI_s j) (by decide) rfl rfl ?_
    refine x_goto (q := 2) dX0_passDays_14 (by decide) ?_
    have e : c - j = (c - (j + 1)) + 1 := by omega
    rw [e]
    exact ih (j + 1) (dyC s n8) (by omega) (by omega) hI.day
set_option maxRecDepth 20000 in
set_option maxHeartbeats 4000000 in
theorem c_X0_passDays {K : Cx} {b n8 c : Nat} {s : Nat → Int32} {m : TM} (hb : isC b) (hc : c ≤ 1000) (hI : Iv n8 s) : CT yX0_passDays cX0_passDays 3 none 4 87 K [.ref b, .int (nI c)] (sr m b s) none (sr m b (dysC n8 c s)) := by
  refine ct_ofd (n := 1) (by decide +kernel) rfl rfl ?_
  show XX RX0 cX0_passDays 3 none 4 87 K 0 [some (.ref b), some (.int (nI c)), none] [] (sr m b s) (fun r1 m1 => r1 = none ∧ m1 = sr m b (dysC n8 c s))
  refine x_iconst (q := 1) (v := 0) dX0_passDays_0 rfl (by decide) ?_
  refine x_istore_n (q := 2) dX0_passDays_1 rfl (by decide) rfl rfl ?_
  exact l_X0_passDays hb hc (c + 1) 0 s (by omega) (by omega) hI
end
section
/-! the reference's own methods over its row -/
theorem or0 (x : Int32) : x ||| 0 = x := by apply Int32.toBitVec_inj.1; simp
theorem add0 (x : Int32) : x + 0 = x := by apply Int32.toBitVec_inj.1; simp
theorem fa_and (a b : Nat) : nI a &&& nI b = nI (a &&& b) := by
  apply Int32.toBitVec_inj.1
  show BitVec.ofNat 32 a &&& BitVec.ofNat 32 b = BitVec.ofNat 32 (a &&& b)
  apply BitVec.eq_of_getLsbD_eq
  intro i hi
  simp [hi]
theorem fa_or (a b : Nat) : nI a ||| nI b = nI (a ||| b) := by
  apply Int32.toBitVec_inj.1
  show BitVec.ofNat 32 a ||| BitVec.ofNat 32 b = BitVec.ofNat 32 (a ||| b)
  apply BitVec.eq_of_getLsbD_eq
  intro i hi
  simp [hi]
theorem c_X5_getr {K : Cx} {k f : Nat} {s : Nat → Int32} {m : TM} (hk : k < 8) (hf : f < 7) : CT yX5_get cX5_get 3 (some .int) 0 0 K [.ref 49, .int (nI k), .int (nI f)] (sr m 50 s) (some (.int (s (12 + 7 * k + f)))) (sr m 50 s) := by
  have h := c_X5_get (K := K) (m := sr m 50 s) hk hf
  rwa [sr_at] at h
theorem c_X5_putsr {K : Cx} {k f : Nat} {v : Int32} {s : Nat → Int32} {m : TM} (hk : k < 8) (hf : f < 7) : CT yX5_puts cX5_puts 4 none 0 0 K [.ref 49, .int (nI k), .int (nI f), .int v] (sr m 50 s) none (sr m 50 (upd s (12 + 7 * k + f) v)) := by
  have h := c_X5_puts (K := K) (m := sr m 50 s) (v := v) hk hf
  rwa [st1_sr] at h
def mvM (kd : Int32) : Int32 := if kd = 0 then 2 else if kd = 4 then 0 else if kd = 5 then 5 else 1
theorem mv_eq {c : Nat} (h : c ≤ 6) : mvM (nI c) = mvC (nI c) := by
  have key : ∀ c, c < 7 → mvM (nI c) = mvC (nI c) := by decide
  exact key c (by omega)
def bt : Nat → Nat → Nat
  | 0, _ => 0
  | f + 1, y => if y = 0 then 0 else 1 + bt f (y &&& (y - 1))
theorem bt_step : ∀ y, y < 256 → y ≠ 0 → bt 9 y = 1 + bt 9 (y &&& (y - 1)) ∧ (y &&& (y - 1)) < y := by decide +kernel
theorem upd_same {s : Nat → Int32} {i : Nat} {v : Int32} (h : s i = v) : upd s i v = s := by
  funext j
  unfold upd
  split
  · rename_i e; rw [e, h]
  · rfl
theorem ix_td {s : Nat → Int32} (h : TD s) : IX ((6 : Int32) + rm6 (s 0 + s 4)) (6 + tdx s) 78 := by
  have e : rm6 (s 0 + s 4) = nI (tdx s) := by
    have h1 := h.2.1
    have h2 : rm6 (s 0 + s 4) = nI (rm6 (s 0 + s 4)).toNatClampNeg := jnI_of h.1
    rw [h1] at h2
    exact h2
  rw [e, show (6 : Int32) = nI 6 from rfl, nI_add]
  have := h.2.2
  exact ix_nI (by omega) (by decide)
theorem dX5_no_0 : decode cX5_no 0 = .ok (.aload_n 0, 1) := by decide +kernel
theorem dX5_no_1 : decode cX5_no 1 = .ok (.getfield 19, 3) := by decide +kernel
theorem dX5_no_4 : decode cX5_no 4 = .ok (.iload_n 1, 1) := by decide +kernel
theorem dX5_no_5 : decode cX5_no 5 = .ok (.dup2, 1) := by decide +kernel
theorem dX5_no_6 : decode cX5_no 6 = .ok (.iaload, 1) := by decide +kernel
theorem dX5_no_7 : decode cX5_no 7 = .ok (.iconst 1, 1) := by decide +kernel
theorem dX5_no_8 : decode cX5_no 8 = .ok (.iadd, 1) := by decide +kernel
theorem dX5_no_9 : decode cX5_no 9 = .ok (.iastore, 1) := by decide +kernel
theorem dX5_no_10 : decode cX5_no 10 = .ok (.ldc 47, 2) := by decide +kernel
theorem dX5_no_12 : decode cX5_no 12 = .ok (.iload_n 1, 1) := by decide +kernel
theorem dX5_no_13 : decode cX5_no 13 = .ok (.isub, 1) := by decide +kernel
theorem dX5_no_14 : decode cX5_no 14 = .ok (.ireturn, 1) := by decide +kernel
set_option maxRecDepth 20000 in
set_option maxHeartbeats 4000000 in
theorem c_X5_no {K : Cx} {w : Nat} {m : TM} (hw : w < 7) : CT yX5_no cX5_no 2 (some .int) 0 0 K [.ref 49, .int (nI w)] (m) (some (.int (-1000001 - nI w))) (st1 m 53 w (m.1 53 w + 1)) := by
  refine ct_ofd (n := 0) (by decide +kernel) rfl rfl ?_
  show XX RX5 cX5_no 2 (some .int) 0 0 K 0 [some (.ref 49), some (.int (nI w))] [] (m) (fun r1 m1 => r1 = (some (.int (-1000001 - nI w))) ∧ m1 = st1 m 53 w (m.1 53 w + 1))
  refine x_aload_n (q := 1) dX5_no_0 rfl rfl ?_
  refine x_getR (q := 4) dX5_no_1 rfl fl_X5_19 (or5_found) ?_
  refine x_iload_n (q := 5) dX5_no_4 rfl rfl ?_
  refine x_dup2 (q := 6) dX5_no_5 rfl rfl rfl ?_
  refine x_iald (q := 7) dX5_no_6 rfl (ar_53) (ix_nI hw (by decide)) (Nat.zero_add _) ?_
  refine x_iconst (q := 8) (v := 1) dX5_no_7 rfl (by decide) ?_
  refine x_iadd (q := 9) dX5_no_8 rfl ?_
  refine x_iast (q := 10) dX5_no_9 rfl (ar_53) (ix_nI hw (by decide)) (Nat.zero_add _) rfl ?_
  refine x_ldc (q := 12) dX5_no_10 rfl kc_X5_47 ?_
  refine x_iload_n (q := 13) dX5_no_12 rfl rfl ?_
  refine x_isub (q := 14) dX5_no_13 rfl ?_
  refine x_ireturn dX5_no_14 rfl rfl ?_
  exact ⟨rfl, rfl⟩
theorem dX5_bits_0 : decode cX5_bits 0 = .ok (.iconst 0, 1) := by decide +kernel
theorem dX5_bits_1 : decode cX5_bits 1 = .ok (.istore_n 1, 1) := by decide +kernel
theorem dX5_bits_2 : decode cX5_bits 2 = .ok (.iload_n 0, 1) := by decide +kernel
theorem dX5_bits_3 : decode cX5_bits 3 = .ok (.istore_n 2, 1) := by decide +kernel
theorem dX5_bits_4 : decode cX5_bits 4 = .ok (.iload_n 2, 1) := by decide +kernel
theorem dX5_bits_5 : decode cX5_bits 5 = .ok (.ifCond .eq 15, 3) := by decide +kernel
theorem dX5_bits_8 : decode cX5_bits 8 = .ok (.iinc 1 1, 3) := by decide +kernel
theorem dX5_bits_11 : decode cX5_bits 11 = .ok (.iload_n 2, 1) := by decide +kernel
theorem dX5_bits_12 : decode cX5_bits 12 = .ok (.iload_n 2, 1) := by decide +kernel
theorem dX5_bits_13 : decode cX5_bits 13 = .ok (.iconst 1, 1) := by decide +kernel
theorem dX5_bits_14 : decode cX5_bits 14 = .ok (.isub, 1) := by decide +kernel
theorem dX5_bits_15 : decode cX5_bits 15 = .ok (.iand, 1) := by decide +kernel
theorem dX5_bits_16 : decode cX5_bits 16 = .ok (.istore_n 2, 1) := by decide +kernel
theorem dX5_bits_17 : decode cX5_bits 17 = .ok (.goto (-13), 3) := by decide +kernel
theorem dX5_bits_20 : decode cX5_bits 20 = .ok (.iload_n 1, 1) := by decide +kernel
theorem dX5_bits_21 : decode cX5_bits 21 = .ok (.ireturn, 1) := by decide +kernel
set_option maxRecDepth 20000 in
set_option maxHeartbeats 4000000 in
theorem l_X5_bits {K : Cx} {x : Int32} {m : TM} : ∀ (n : Nat) (y c : Nat), y < n → y < 256 → XX RX5 cX5_bits 3 (some .int) 0 0 K 4 [some (.int x), some (.int (nI c)), some (.int (nI y))] [] (m) (fun r1 m1 => r1 = (some (.int (nI (c + bt 9 y)))) ∧ m1 = m) := by
  intro n
  induction n with
  | zero => intro y c hlt; exact absurd hlt (Nat.not_lt_zero _)
  | succ n ih =>
    intro y c hlt hy
    refine x_iload_n (q := 5) dX5_bits_4 rfl rfl ?_
    refine x_if_eq (q := 8) (t := 20) dX5_bits_5 rfl (by decide) (fun h5 => ?_) (fun h5 => ?_)
    · refine x_iload_n (q := 21) dX5_bits_20 rfl rfl ?_
      refine x_ireturn dX5_bits_21 rfl rfl ?_
      have e : y = 0 := (jnI_inj (b := 0) (by omega) (by omega)).mp h5
      subst e
      exact ⟨rfl, rfl⟩
    refine x_iinc (q := 11) (v := nI (c + 1)) dX5_bits_8 rfl rfl (jnI_s c) (by decide) rfl rfl ?_
    refine x_iload_n (q := 12) dX5_bits_11 rfl rfl ?_
    refine x_iload_n (q := 13) dX5_bits_12 rfl rfl ?_
    refine x_iconst (q := 14) (v := 1) dX5_bits_13 rfl (by decide) ?_
    refine x_isub (q := 15) dX5_bits_14 rfl ?_
    refine x_iand (q := 16) dX5_bits_15 rfl ?_
    refine x_istore_n (q := 17) dX5_bits_16 rfl (by decide) rfl rfl ?_
    refine x_goto (q := 4) dX5_bits_17 (by decide) ?_
    have hy0 : y ≠ 0 := fun q => h5 (by rw [q]; rfl)
    obtain ⟨b1, b2⟩ := bt_step y hy hy0
    have e1 : nI y &&& (nI y - 1) = nI (y &&& (y - 1)) := by
      rw [show y = (y - 1) + 1 by omega, nI_pred, ← show y = (y - 1) + 1 by omega, fa_and]
    rw [e1, b1, ← Nat.add_assoc]
    exact ih (y &&& (y - 1)) (c + 1) (by omega) (by omega)
set_option maxRecDepth 20000 in
set_option maxHeartbeats 4000000 in
theorem c_X5_bits {K : Cx} {x : Nat} {m : TM} (hx : x < 256) : CT yX5_bits cX5_bits 3 (some .int) 0 0 K [.int (nI x)] (m) (some (.int (nI (bt 9 x)))) (m) := by
  refine ct_ofd (n := 2) (by decide +kernel) rfl rfl ?_
  show XX RX5 cX5_bits 3 (some .int) 0 0 K 0 [some (.int (nI x)), none, none] [] (m) (fun r1 m1 => r1 = (some (.int (nI (bt 9 x)))) ∧ m1 = m)
  refine x_iconst (q := 1) (v := 0) dX5_bits_0 rfl (by decide) ?_
  refine x_istore_n (q := 2) dX5_bits_1 rfl (by decide) rfl rfl ?_
  refine x_iload_n (q := 3) dX5_bits_2 rfl rfl ?_
  refine x_istore_n (q := 4) dX5_bits_3 rfl (by decide) rfl rfl ?_
  have h := l_X5_bits (K := K) (x := nI x) (m := m) (x + 1) x 0 (by omega) hx
  rw [Nat.zero_add] at h
  exact h
theorem dX5_setsAside_0 : decode cX5_setsAside 0 = .ok (.iconst 0, 1) := by decide +kernel
theorem dX5_setsAside_1 : decode cX5_setsAside 1 = .ok (.istore_n 1, 1) := by decide +kernel
theorem dX5_setsAside_2 : decode cX5_setsAside 2 = .ok (.iload_n 1, 1) := by decide +kernel
theorem dX5_setsAside_3 : decode cX5_setsAside 3 = .ok (.bipush 78, 2) := by decide +kernel
theorem dX5_setsAside_5 : decode cX5_setsAside 5 = .ok (.if_icmp .ge 21, 3) := by decide +kernel
theorem dX5_setsAside_8 : decode cX5_setsAside 8 = .ok (.aload_n 0, 1) := by decide +kernel
theorem dX5_setsAside_9 : decode cX5_setsAside 9 = .ok (.getfield 16, 3) := by decide +kernel
theorem dX5_setsAside_12 : decode cX5_setsAside 12 = .ok (.iload_n 1, 1) := by decide +kernel
theorem dX5_setsAside_13 : decode cX5_setsAside 13 = .ok (.aload_n 0, 1) := by decide +kernel
theorem dX5_setsAside_14 : decode cX5_setsAside 14 = .ok (.getfield 9, 3) := by decide +kernel
theorem dX5_setsAside_17 : decode cX5_setsAside 17 = .ok (.iload_n 1, 1) := by decide +kernel
theorem dX5_setsAside_18 : decode cX5_setsAside 18 = .ok (.iaload, 1) := by decide +kernel
theorem dX5_setsAside_19 : decode cX5_setsAside 19 = .ok (.iastore, 1) := by decide +kernel
theorem dX5_setsAside_20 : decode cX5_setsAside 20 = .ok (.iinc 1 1, 3) := by decide +kernel
theorem dX5_setsAside_23 : decode cX5_setsAside 23 = .ok (.goto (-21), 3) := by decide +kernel
theorem dX5_setsAside_26 : decode cX5_setsAside 26 = .ok (.return_, 1) := by decide +kernel
set_option maxRecDepth 20000 in
set_option maxHeartbeats 4000000 in
theorem l_X5_setsAside {K : Cx} {m : TM} : ∀ (n : Nat) (j : Nat), 78 - j < n → j ≤ 78 → XX RX5 cX5_setsAside 2 none 0 0 K 2 [some (.ref 49), some (.int (nI j))] [] (sr m 52 (cpR (m.1 52) (m.1 50) 0 0 j)) (fun r1 m1 => r1 = none ∧ m1 = sr m 52 (m.1 50)) := by
  intro n
  induction n with
  | zero => intro j hlt; exact absurd hlt (Nat.not_lt_zero _)
  | succ n ih =>
    intro j hlt hj
    refine x_iload_n (q := 3) dX5_setsAside_2 rfl rfl ?_
    refine x_bipush (q := 5) (v := 78) dX5_setsAside_3 rfl (by decide) ?_
    refine x_icmp_ge (q := 8) (t := 26) dX5_setsAside_5 rfl (by decide) (fun h5 => ?_) (fun h5 => ?_)
    · have e : j = 78 := Nat.le_antisymm hj (lp_stop (n := 78) rfl (by omega) (by omega) h5)
      subst e
      refine x_ag (m' := sr m 52 (m.1 50)) (ag_row fun i hi => ?_) ?_
      · show cpR _ _ 0 0 78 i = _
        unfold cpR
        rw [if_pos ⟨Nat.zero_le _, by have : rsz 52 = 78 := rfl; omega⟩, Nat.zero_add, Nat.sub_zero]
      refine x_return dX5_setsAside_26 rfl ?_
      exact ⟨rfl, rfl⟩
    have hjn : j < 78 := lp_go (n := 78) rfl (by omega) (by omega) h5
    refine x_aload_n (q := 9) dX5_setsAside_8 rfl rfl ?_
    refine x_getR (q := 12) dX5_setsAside_9 rfl fl_X5_16 (or5_aside) ?_
    refine x_iload_n (q := 13) dX5_setsAside_12 rfl rfl ?_
    refine x_aload_n (q := 14) dX5_setsAside_13 rfl rfl ?_
    refine x_getR (q := 17) dX5_setsAside_14 rfl fl_X5_9 (or5_s) ?_
    refine x_iload_n (q := 18) dX5_setsAside_17 rfl rfl ?_
    refine x_iald (q := 19) dX5_setsAside_18 rfl (ar_50) (ix_nI hjn (by decide)) (Nat.zero_add _) ?_
    refine x_iastr (q := 20) dX5_setsAside_19 rfl (ar_52) (ix_nI hjn (by decide)) (Nat.zero_add _)  ?_
    refine x_iinc (q := 23) (v := nI (j + 1)) dX5_setsAside_20 rfl rfl (jnI_s j) (by decide) rfl rfl ?_
    refine x_goto (q := 2) dX5_setsAside_23 (by decide) ?_
    have e : upd (cpR (m.1 52) (m.1 50) 0 0 j) j ((sr m 52 (cpR (m.1 52) (m.1 50) 0 0 j)).1 50 j) = cpR (m.1 52) (m.1 50) 0 0 (j + 1) := by
      rw [sr_ne (by decide)]
      funext i
      unfold upd cpR
      by_cases h1 : i = j
      · subst h1
        rw [if_pos rfl, if_pos (by omega), Nat.zero_add, Nat.sub_zero]
      · rw [if_neg h1]
        by_cases h2 : i < j
        · rw [if_pos (by omega), if_pos (by omega)]
        · rw [if_neg (by omega), if_neg (by omega)]
    rw [e]
    exact ih (j + 1) (by omega) (by omega)
set_option maxRecDepth 20000 in
set_option maxHeartbeats 4000000 in
theorem c_X5_setsAside {K : Cx} {m : TM} : CT yX5_setsAside cX5_setsAside 2 none 0 0 K [.ref 49] (m) none (sr m 52 (m.1 50)) := by
  refine ct_ofd (n := 1) (by decide +kernel) rfl rfl ?_
  show XX RX5 cX5_setsAside 2 none 0 0 K 0 [some (.ref 49), none] [] (m) (fun r1 m1 => r1 = none ∧ m1 = sr m 52 (m.1 50))
  refine x_iconst (q := 1) (v := 0) dX5_setsAside_0 rfl (by decide) ?_
  refine x_istore_n (q := 2) dX5_setsAside_1 rfl (by decide) rfl rfl ?_
  have e : cpR (m.1 52) (m.1 50) 0 0 0 = m.1 52 := by
    funext i
    unfold cpR
    rw [if_neg (by omega)]
  have h := l_X5_setsAside (K := K) (m := m) 79 0 (by omega) (by omega)
  rw [e, sr_self] at h
  exact h
theorem dX5_laysBack_0 : decode cX5_laysBack 0 = .ok (.iconst 0, 1) := by decide +kernel
theorem dX5_laysBack_1 : decode cX5_laysBack 1 = .ok (.istore_n 1, 1) := by decide +kernel
theorem dX5_laysBack_2 : decode cX5_laysBack 2 = .ok (.iload_n 1, 1) := by decide +kernel
theorem dX5_laysBack_3 : decode cX5_laysBack 3 = .ok (.bipush 78, 2) := by decide +kernel
theorem dX5_laysBack_5 : decode cX5_laysBack 5 = .ok (.if_icmp .ge 21, 3) := by decide +kernel
theorem dX5_laysBack_8 : decode cX5_laysBack 8 = .ok (.aload_n 0, 1) := by decide +kernel
theorem dX5_laysBack_9 : decode cX5_laysBack 9 = .ok (.getfield 9, 3) := by decide +kernel
theorem dX5_laysBack_12 : decode cX5_laysBack 12 = .ok (.iload_n 1, 1) := by decide +kernel
theorem dX5_laysBack_13 : decode cX5_laysBack 13 = .ok (.aload_n 0, 1) := by decide +kernel
theorem dX5_laysBack_14 : decode cX5_laysBack 14 = .ok (.getfield 16, 3) := by decide +kernel
theorem dX5_laysBack_17 : decode cX5_laysBack 17 = .ok (.iload_n 1, 1) := by decide +kernel
theorem dX5_laysBack_18 : decode cX5_laysBack 18 = .ok (.iaload, 1) := by decide +kernel
theorem dX5_laysBack_19 : decode cX5_laysBack 19 = .ok (.iastore, 1) := by decide +kernel
theorem dX5_laysBack_20 : decode cX5_laysBack 20 = .ok (.iinc 1 1, 3) := by decide +kernel
theorem dX5_laysBack_23 : decode cX5_laysBack 23 = .ok (.goto (-21), 3) := by decide +kernel
theorem dX5_laysBack_26 : decode cX5_laysBack 26 = .ok (.return_, 1) := by decide +kernel
set_option maxRecDepth 20000 in
set_option maxHeartbeats 4000000 in
theorem l_X5_laysBack {K : Cx} {m : TM} : ∀ (n : Nat) (j : Nat), 78 - j < n → j ≤ 78 → XX RX5 cX5_laysBack 2 none 0 0 K 2 [some (.ref 49), some (.int (nI j))] [] (sr m 50 (cpR (m.1 50) (m.1 52) 0 0 j)) (fun r1 m1 => r1 = none ∧ m1 = sr m 50 (m.1 52)) := by
  intro n
  induction n with
  | zero => intro j hlt; exact absurd hlt (Nat.not_lt_zero _)
  | succ n ih =>
    intro j hlt hj
    refine x_iload_n (q := 3) dX5_laysBack_2 rfl rfl ?_
    refine x_bipush (q := 5) (v := 78) dX5_laysBack_3 rfl (by decide) ?_
    refine x_icmp_ge (q := 8) (t := 26) dX5_laysBack_5 rfl (by decide) (fun h5 => ?_) (fun h5 => ?_)
    · have e : j = 78 := Nat.le_antisymm hj (lp_stop (n := 78) rfl (by omega) (by omega) h5)
      subst e
      refine x_ag (m' := sr m 50 (m.1 52)) (ag_row fun i hi => ?_) ?_
      · show cpR _ _ 0 0 78 i = _
        unfold cpR
        rw [if_pos ⟨Nat.zero_le _, by have : rsz 50 = 78 := rfl; omega⟩, Nat.zero_add, Nat.sub_zero]
      refine x_return dX5_laysBack_26 rfl ?_
      exact ⟨rfl, rfl⟩
    have hjn : j < 78 := lp_go (n := 78) rfl (by omega) (by omega) h5
    refine x_aload_n (q := 9) dX5_laysBack_8 rfl rfl ?_
    refine x_getR (q := 12) dX5_laysBack_9 rfl fl_X5_9 (or5_s) ?_
    refine x_iload_n (q := 13) dX5_laysBack_12 rfl rfl ?_
    refine x_aload_n (q := 14) dX5_laysBack_13 rfl rfl ?_
    refine x_getR (q := 17) dX5_laysBack_14 rfl fl_X5_16 (or5_aside) ?_
    refine x_iload_n (q := 18) dX5_laysBack_17 rfl rfl ?_
    refine x_iald (q := 19) dX5_laysBack_18 rfl (ar_52) (ix_nI hjn (by decide)) (Nat.zero_add _) ?_
    refine x_iastr (q := 20) dX5_laysBack_19 rfl (ar_50) (ix_nI hjn (by decide)) (Nat.zero_add _)  ?_
    refine x_iinc (q := 23) (v := nI (j + 1)) dX5_laysBack_20 rfl rfl (jnI_s j) (by decide) rfl rfl ?_
    refine x_goto (q := 2) dX5_laysBack_23 (by decide) ?_
    have e : upd (cpR (m.1 50) (m.1 52) 0 0 j) j ((sr m 50 (cpR (m.1 50) (m.1 52) 0 0 j)).1 52 j) = cpR (m.1 50) (m.1 52) 0 0 (j + 1) := by
      rw [sr_ne (by decide)]
      funext i
      unfold upd cpR
      by_cases h1 : i = j
      · subst h1
        rw [if_pos rfl, if_pos (by omega), Nat.zero_add, Nat.sub_zero]
      · rw [if_neg h1]
        by_cases h2 : i < j
        · rw [if_pos (by omega), if_pos (by omega)]
        · rw [if_neg (by omega), if_neg (by omega)]
    rw [e]
    exact ih (j + 1) (by omega) (by omega)
set_option maxRecDepth 20000 in
set_option maxHeartbeats 4000000 in
theorem c_X5_laysBack {K : Cx} {m : TM} : CT yX5_laysBack cX5_laysBack 2 none 0 0 K [.ref 49] (m) none (sr m 50 (m.1 52)) := by
  refine ct_ofd (n := 1) (by decide +kernel) rfl rfl ?_
  show XX RX5 cX5_laysBack 2 none 0 0 K 0 [some (.ref 49), none] [] (m) (fun r1 m1 => r1 = none ∧ m1 = sr m 50 (m.1 52))
  refine x_iconst (q := 1) (v := 0) dX5_laysBack_0 rfl (by decide) ?_
  refine x_istore_n (q := 2) dX5_laysBack_1 rfl (by decide) rfl rfl ?_
  have e : cpR (m.1 50) (m.1 52) 0 0 0 = m.1 50 := by
    funext i
    unfold cpR
    rw [if_neg (by omega)]
  have h := l_X5_laysBack (K := K) (m := m) 79 0 (by omega) (by omega)
  rw [e, sr_self] at h
  exact h
theorem dX5_isSigned_0 : decode cX5_isSigned 0 = .ok (.iload_n 2, 1) := by decide +kernel
theorem dX5_isSigned_1 : decode cX5_isSigned 1 = .ok (.aload_n 0, 1) := by decide +kernel
theorem dX5_isSigned_2 : decode cX5_isSigned 2 = .ok (.iload_n 1, 1) := by decide +kernel
theorem dX5_isSigned_3 : decode cX5_isSigned 3 = .ok (.iconst 1, 1) := by decide +kernel
theorem dX5_isSigned_4 : decode cX5_isSigned 4 = .ok (.invokevirtual 52, 3) := by decide +kernel
theorem dX5_isSigned_7 : decode cX5_isSigned 7 = .ok (.if_icmp .lt 7, 3) := by decide +kernel
theorem dX5_isSigned_10 : decode cX5_isSigned 10 = .ok (.iconst 1, 1) := by decide +kernel
theorem dX5_isSigned_11 : decode cX5_isSigned 11 = .ok (.goto 4, 3) := by decide +kernel
theorem dX5_isSigned_14 : decode cX5_isSigned 14 = .ok (.iconst 0, 1) := by decide +kernel
theorem dX5_isSigned_15 : decode cX5_isSigned 15 = .ok (.istore_n 3, 1) := by decide +kernel
theorem dX5_isSigned_16 : decode cX5_isSigned 16 = .ok (.iload_n 3, 1) := by decide +kernel
theorem dX5_isSigned_17 : decode cX5_isSigned 17 = .ok (.ifCond .eq 17, 3) := by decide +kernel
theorem dX5_isSigned_20 : decode cX5_isSigned 20 = .ok (.aload_n 0, 1) := by decide +kernel
theorem dX5_isSigned_21 : decode cX5_isSigned 21 = .ok (.iload_n 1, 1) := by decide +kernel
theorem dX5_isSigned_22 : decode cX5_isSigned 22 = .ok (.iconst 2, 1) := by decide +kernel
theorem dX5_isSigned_23 : decode cX5_isSigned 23 = .ok (.invokevirtual 52, 3) := by decide +kernel
theorem dX5_isSigned_26 : decode cX5_isSigned 26 = .ok (.iconst 5, 1) := by decide +kernel
theorem dX5_isSigned_27 : decode cX5_isSigned 27 = .ok (.if_icmp .lt 7, 3) := by decide +kernel
theorem dX5_isSigned_30 : decode cX5_isSigned 30 = .ok (.iconst 1, 1) := by decide +kernel
theorem dX5_isSigned_31 : decode cX5_isSigned 31 = .ok (.goto 4, 3) := by decide +kernel
theorem dX5_isSigned_34 : decode cX5_isSigned 34 = .ok (.iconst 0, 1) := by decide +kernel
theorem dX5_isSigned_35 : decode cX5_isSigned 35 = .ok (.istore 4, 2) := by decide +kernel
theorem dX5_isSigned_37 : decode cX5_isSigned 37 = .ok (.iload_n 2, 1) := by decide +kernel
theorem dX5_isSigned_38 : decode cX5_isSigned 38 = .ok (.aload_n 0, 1) := by decide +kernel
theorem dX5_isSigned_39 : decode cX5_isSigned 39 = .ok (.iload_n 1, 1) := by decide +kernel
theorem dX5_isSigned_40 : decode cX5_isSigned 40 = .ok (.iconst 1, 1) := by decide +kernel
theorem dX5_isSigned_41 : decode cX5_isSigned 41 = .ok (.invokevirtual 52, 3) := by decide +kernel
theorem dX5_isSigned_44 : decode cX5_isSigned 44 = .ok (.aload_n 0, 1) := by decide +kernel
theorem dX5_isSigned_45 : decode cX5_isSigned 45 = .ok (.iload_n 1, 1) := by decide +kernel
theorem dX5_isSigned_46 : decode cX5_isSigned 46 = .ok (.iconst 2, 1) := by decide +kernel
theorem dX5_isSigned_47 : decode cX5_isSigned 47 = .ok (.invokevirtual 52, 3) := by decide +kernel
theorem dX5_isSigned_50 : decode cX5_isSigned 50 = .ok (.bipush 20, 2) := by decide +kernel
theorem dX5_isSigned_52 : decode cX5_isSigned 52 = .ok (.idiv, 1) := by decide +kernel
theorem dX5_isSigned_53 : decode cX5_isSigned 53 = .ok (.iadd, 1) := by decide +kernel
theorem dX5_isSigned_54 : decode cX5_isSigned 54 = .ok (.if_icmp .lt 7, 3) := by decide +kernel
theorem dX5_isSigned_57 : decode cX5_isSigned 57 = .ok (.iconst 1, 1) := by decide +kernel
theorem dX5_isSigned_58 : decode cX5_isSigned 58 = .ok (.goto 4, 3) := by decide +kernel
theorem dX5_isSigned_61 : decode cX5_isSigned 61 = .ok (.iconst 0, 1) := by decide +kernel
theorem dX5_isSigned_62 : decode cX5_isSigned 62 = .ok (.istore 5, 2) := by decide +kernel
theorem dX5_isSigned_64 : decode cX5_isSigned 64 = .ok (.aload_n 0, 1) := by decide +kernel
theorem dX5_isSigned_65 : decode cX5_isSigned 65 = .ok (.iload_n 1, 1) := by decide +kernel
theorem dX5_isSigned_66 : decode cX5_isSigned 66 = .ok (.iconst 0, 1) := by decide +kernel
theorem dX5_isSigned_67 : decode cX5_isSigned 67 = .ok (.invokevirtual 52, 3) := by decide +kernel
theorem dX5_isSigned_70 : decode cX5_isSigned 70 = .ok (.tableswitch 99 1 6 #[38, 41, 41, 44, 67, 77], 38) := by decide +kernel
theorem dX5_isSigned_108 : decode cX5_isSigned 108 = .ok (.iload 4, 2) := by decide +kernel
theorem dX5_isSigned_110 : decode cX5_isSigned 110 = .ok (.ireturn, 1) := by decide +kernel
theorem dX5_isSigned_111 : decode cX5_isSigned 111 = .ok (.iload 5, 2) := by decide +kernel
theorem dX5_isSigned_113 : decode cX5_isSigned 113 = .ok (.ireturn, 1) := by decide +kernel
theorem dX5_isSigned_114 : decode cX5_isSigned 114 = .ok (.iload 5, 2) := by decide +kernel
theorem dX5_isSigned_116 : decode cX5_isSigned 116 = .ok (.ifCond .eq 19, 3) := by decide +kernel
theorem dX5_isSigned_119 : decode cX5_isSigned 119 = .ok (.aload_n 0, 1) := by decide +kernel
theorem dX5_isSigned_120 : decode cX5_isSigned 120 = .ok (.iload_n 1, 1) := by decide +kernel
theorem dX5_isSigned_121 : decode cX5_isSigned 121 = .ok (.bipush 6, 2) := by decide +kernel
theorem dX5_isSigned_123 : decode cX5_isSigned 123 = .ok (.invokevirtual 52, 3) := by decide +kernel
theorem dX5_isSigned_126 : decode cX5_isSigned 126 = .ok (.bipush 7, 2) := by decide +kernel
theorem dX5_isSigned_128 : decode cX5_isSigned 128 = .ok (.if_icmp .lt 7, 3) := by decide +kernel
theorem dX5_isSigned_131 : decode cX5_isSigned 131 = .ok (.iconst 1, 1) := by decide +kernel
theorem dX5_isSigned_132 : decode cX5_isSigned 132 = .ok (.goto 4, 3) := by decide +kernel
theorem dX5_isSigned_135 : decode cX5_isSigned 135 = .ok (.iconst 0, 1) := by decide +kernel
theorem dX5_isSigned_136 : decode cX5_isSigned 136 = .ok (.ireturn, 1) := by decide +kernel
theorem dX5_isSigned_137 : decode cX5_isSigned 137 = .ok (.iload_n 2, 1) := by decide +kernel
theorem dX5_isSigned_138 : decode cX5_isSigned 138 = .ok (.ifCond .le 7, 3) := by decide +kernel
theorem dX5_isSigned_141 : decode cX5_isSigned 141 = .ok (.iconst 1, 1) := by decide +kernel
theorem dX5_isSigned_142 : decode cX5_isSigned 142 = .ok (.goto 4, 3) := by decide +kernel
theorem dX5_isSigned_145 : decode cX5_isSigned 145 = .ok (.iconst 0, 1) := by decide +kernel
theorem dX5_isSigned_146 : decode cX5_isSigned 146 = .ok (.ireturn, 1) := by decide +kernel
theorem dX5_isSigned_147 : decode cX5_isSigned 147 = .ok (.iload 4, 2) := by decide +kernel
theorem dX5_isSigned_149 : decode cX5_isSigned 149 = .ok (.ifCond .eq 18, 3) := by decide +kernel
theorem dX5_isSigned_152 : decode cX5_isSigned 152 = .ok (.aload_n 0, 1) := by decide +kernel
theorem dX5_isSigned_153 : decode cX5_isSigned 153 = .ok (.getfield 9, 3) := by decide +kernel
theorem dX5_isSigned_156 : decode cX5_isSigned 156 = .ok (.iconst 0, 1) := by decide +kernel
theorem dX5_isSigned_157 : decode cX5_isSigned 157 = .ok (.iaload, 1) := by decide +kernel
theorem dX5_isSigned_158 : decode cX5_isSigned 158 = .ok (.iconst 2, 1) := by decide +kernel
theorem dX5_isSigned_159 : decode cX5_isSigned 159 = .ok (.irem, 1) := by decide +kernel
theorem dX5_isSigned_160 : decode cX5_isSigned 160 = .ok (.ifCond .ne 7, 3) := by decide +kernel
theorem dX5_isSigned_163 : decode cX5_isSigned 163 = .ok (.iconst 1, 1) := by decide +kernel
theorem dX5_isSigned_164 : decode cX5_isSigned 164 = .ok (.goto 4, 3) := by decide +kernel
theorem dX5_isSigned_167 : decode cX5_isSigned 167 = .ok (.iconst 0, 1) := by decide +kernel
theorem dX5_isSigned_168 : decode cX5_isSigned 168 = .ok (.ireturn, 1) := by decide +kernel
theorem dX5_isSigned_169 : decode cX5_isSigned 169 = .ok (.iload_n 3, 1) := by decide +kernel
theorem dX5_isSigned_170 : decode cX5_isSigned 170 = .ok (.ireturn, 1) := by decide +kernel
set_option maxRecDepth 20000 in
set_option maxHeartbeats 4000000 in
theorem c_X5_isSigned {K : Cx} {k : Nat} {t : Int32} {s : Nat → Int32} {m : TM} (hk : k < 8) : CT yX5_isSigned cX5_isSigned 6 (some .boolean) 1 22 K [.ref 49, .int (nI k), .int t] (sr m 50 s) (some (.int (bI (sg (s (12 + 7 * k + 0)) (s (12 + 7 * k + 1)) (s (12 + 7 * k + 2)) (s (12 + 7 * k + 6)) (s 0) t)))) (sr m 50 s) := by
  refine ct_ofd (n := 3) (by decide +kernel) rfl rfl ?_
  show XX RX5 cX5_isSigned 6 (some .boolean) 1 22 K 0 [some (.ref 49), some (.int (nI k)), some (.int t), none, none, none] [] (sr m 50 s) (fun r1 m1 => r1 = (some (.int (bI (sg (s (12 + 7 * k + 0)) (s (12 + 7 * k + 1)) (s (12 + 7 * k + 2)) (s (12 + 7 * k + 6)) (s 0) t)))) ∧ m1 = sr m 50 s)
  refine x_iload_n (q := 1) dX5_isSigned_0 rfl rfl ?_
  refine x_aload_n (q := 2) dX5_isSigned_1 rfl rfl ?_
  refine x_iload_n (q := 3) dX5_isSigned_2 rfl rfl ?_
  refine x_iconst (q := 4) (v := 1) dX5_isSigned_3 rfl (by decide) ?_
  refine x_callV2v (q := 7) dX5_isSigned_4 rfl ml_X5_52 mv_X5_get rv5 rfl (c_X5_getr (f := 1) hk (by decide)) (Nat.le_of_ble_eq_true rfl) ⟨by decide, by decide⟩ ?_
  refine x_icmp_lt (q := 10) (t := 14) dX5_isSigned_7 rfl (by decide) (fun h7 => ?_) (fun h7 => ?_)
  · refine x_iconst (q := 15) (v := 0) dX5_isSigned_14 rfl (by decide) ?_
    refine x_istore_n (q := 16) dX5_isSigned_15 rfl (by decide) rfl rfl ?_
    refine x_iload_n (q := 17) dX5_isSigned_16 rfl rfl ?_
    refine x_if_eq (q := 20) (t := 34) dX5_isSigned_17 rfl (by decide) (fun _ => ?_) (fun h => absurd (by decide) h)
    refine x_iconst (q := 35) (v := 0) dX5_isSigned_34 rfl (by decide) ?_
    refine x_istore (q := 37) dX5_isSigned_35 rfl (by decide) rfl rfl ?_
    refine x_iload_n (q := 38) dX5_isSigned_37 rfl rfl ?_
    refine x_aload_n (q := 39) dX5_isSigned_38 rfl rfl ?_
    refine x_iload_n (q := 40) dX5_isSigned_39 rfl rfl ?_
    refine x_iconst (q := 41) (v := 1) dX5_isSigned_40 rfl (by decide) ?_
    refine x_callV2v (q := 44) dX5_isSigned_41 rfl ml_X5_52 mv_X5_get rv5 rfl (c_X5_getr (f := 1) hk (by decide)) (Nat.le_of_ble_eq_true rfl) ⟨by decide, by decide⟩ ?_
    refine x_aload_n (q := 45) dX5_isSigned_44 rfl rfl ?_
    refine x_iload_n (q := 46) dX5_isSigned_45 rfl rfl ?_
    refine x_iconst (q := 47) (v := 2) dX5_isSigned_46 rfl (by decide) ?_
    refine x_callV2v (q := 50) dX5_isSigned_47 rfl ml_X5_52 mv_X5_get rv5 rfl (c_X5_getr (f := 2) hk (by decide)) (Nat.le_of_ble_eq_true rfl) ⟨by decide, by decide⟩ ?_
    refine x_bipush (q := 52) (v := 20) dX5_isSigned_50 rfl (by decide) ?_
    refine x_idiv (q := 53) dX5_isSigned_52 rfl (by decide) ?_
    refine x_iadd (q := 54) dX5_isSigned_53 rfl ?_
    refine x_icmp_lt (q := 57) (t := 61) dX5_isSigned_54 rfl (by decide) (fun h54 => ?_) (fun h54 => ?_)
    · refine x_iconst (q := 62) (v := 0) dX5_isSigned_61 rfl (by decide) ?_
      refine x_istore (q := 64) dX5_isSigned_62 rfl (by decide) rfl rfl ?_
      refine x_aload_n (q := 65) dX5_isSigned_64 rfl rfl ?_
      refine x_iload_n (q := 66) dX5_isSigned_65 rfl rfl ?_
      refine x_iconst (q := 67) (v := 0) dX5_isSigned_66 rfl (by decide) ?_
      refine x_callV2v (q := 70) dX5_isSigned_67 rfl ml_X5_52 mv_X5_get rv5 rfl (c_X5_getr (f := 0) hk (by decide)) (Nat.le_of_ble_eq_true rfl) ⟨by decide, by decide⟩ ?_
      by_cases h70_1 : s (12 + 7 * k + 0) = 1
      · refine x_tswC (q := 108) (k := 1) dX5_isSigned_70 h70_1 (by decide) (by decide) rfl (by decide) ?_
        refine x_iload (q := 110) dX5_isSigned_108 rfl rfl ?_
        refine x_ireturn dX5_isSigned_110 rfl (by decide) ?_
        exact ⟨by simp_all [sg, bI], rfl⟩
      by_cases h70_2 : s (12 + 7 * k + 0) = 2
      · refine x_tswC (q := 111) (k := 2) dX5_isSigned_70 h70_2 (by decide) (by decide) rfl (by decide) ?_
        refine x_iload (q := 113) dX5_isSigned_111 rfl rfl ?_
        refine x_ireturn dX5_isSigned_113 rfl (by decide) ?_
        exact ⟨by simp_all [sg, bI], rfl⟩
      by_cases h70_3 : s (12 + 7 * k + 0) = 3
      · refine x_tswC (q := 111) (k := 3) dX5_isSigned_70 h70_3 (by decide) (by decide) rfl (by decide) ?_
        refine x_iload (q := 113) dX5_isSigned_111 rfl rfl ?_
        refine x_ireturn dX5_isSigned_113 rfl (by decide) ?_
        exact ⟨by simp_all [sg, bI], rfl⟩
      by_cases h70_4 : s (12 + 7 * k + 0) = 4
      · refine x_tswC (q := 114) (k := 4) dX5_isSigned_70 h70_4 (by decide) (by decide) rfl (by decide) ?_
        refine x_iload (q := 116) dX5_isSigned_114 rfl rfl ?_
        refine x_if_eq (q := 119) (t := 135) dX5_isSigned_116 rfl (by decide) (fun _ => ?_) (fun h => absurd (by decide) h)
        refine x_iconst (q := 136) (v := 0) dX5_isSigned_135 rfl (by decide) ?_
        refine x_ireturn dX5_isSigned_136 rfl (by decide) ?_
        exact ⟨by simp_all [sg, bI], rfl⟩
      by_cases h70_5 : s (12 + 7 * k + 0) = 5
      · refine x_tswC (q := 137) (k := 5) dX5_isSigned_70 h70_5 (by decide) (by decide) rfl (by decide) ?_
        refine x_iload_n (q := 138) dX5_isSigned_137 rfl rfl ?_
        refine x_if_le (q := 141) (t := 145) dX5_isSigned_138 rfl (by decide) (fun h138 => ?_) (fun h138 => ?_)
        · refine x_iconst (q := 146) (v := 0) dX5_isSigned_145 rfl (by decide) ?_
          refine x_ireturn dX5_isSigned_146 rfl (by decide) ?_
          exact ⟨by simp_all [sg, bI], rfl⟩
        refine x_iconst (q := 142) (v := 1) dX5_isSigned_141 rfl (by decide) ?_
        refine x_goto (q := 146) dX5_isSigned_142 (by decide) ?_
        refine x_ireturn dX5_isSigned_146 rfl (by decide) ?_
        exact ⟨by simp_all [sg, bI], rfl⟩
      by_cases h70_6 : s (12 + 7 * k + 0) = 6
      · refine x_tswC (q := 147) (k := 6) dX5_isSigned_70 h70_6 (by decide) (by decide) rfl (by decide) ?_
        refine x_iload (q := 149) dX5_isSigned_147 rfl rfl ?_
        refine x_if_eq (q := 152) (t := 167) dX5_isSigned_149 rfl (by decide) (fun _ => ?_) (fun h => absurd (by decide) h)
        refine x_iconst (q := 168) (v := 0) dX5_isSigned_167 rfl (by decide) ?_
        refine x_ireturn dX5_isSigned_168 rfl (by decide) ?_
        exact ⟨by simp_all [sg, bI], rfl⟩
      refine x_tswD (q := 169) dX5_isSigned_70 (by have n1 := lv_neT h70_1 (a := 1) (by decide); have n2 := lv_neT h70_2 (a := 2) (by decide); have n3 := lv_neT h70_3 (a := 3) (by decide); have n4 := lv_neT h70_4 (a := 4) (by decide); have n5 := lv_neT h70_5 (a := 5) (by decide); have n6 := lv_neT h70_6 (a := 6) (by decide); omega) (by decide) ?_
      refine x_iload_n (q := 170) dX5_isSigned_169 rfl rfl ?_
      refine x_ireturn dX5_isSigned_170 rfl (by decide) ?_
      exact ⟨by simp_all [sg, bI], rfl⟩
    refine x_iconst (q := 58) (v := 1) dX5_isSigned_57 rfl (by decide) ?_
    refine x_goto (q := 62) dX5_isSigned_58 (by decide) ?_
    refine x_istore (q := 64) dX5_isSigned_62 rfl (by decide) rfl rfl ?_
    refine x_aload_n (q := 65) dX5_isSigned_64 rfl rfl ?_
    refine x_iload_n (q := 66) dX5_isSigned_65 rfl rfl ?_
    refine x_iconst (q := 67) (v := 0) dX5_isSigned_66 rfl (by decide) ?_
    refine x_callV2v (q := 70) dX5_isSigned_67 rfl ml_X5_52 mv_X5_get rv5 rfl (c_X5_getr (f := 0) hk (by decide)) (Nat.le_of_ble_eq_true rfl) ⟨by decide, by decide⟩ ?_
    by_cases h70_1 : s (12 + 7 * k + 0) = 1
    · refine x_tswC (q := 108) (k := 1) dX5_isSigned_70 h70_1 (by decide) (by decide) rfl (by decide) ?_
      refine x_iload (q := 110) dX5_isSigned_108 rfl rfl ?_
      refine x_ireturn dX5_isSigned_110 rfl (by decide) ?_
      exact ⟨by simp_all [sg, bI], rfl⟩
    by_cases h70_2 : s (12 + 7 * k + 0) = 2
    · refine x_tswC (q := 111) (k := 2) dX5_isSigned_70 h70_2 (by decide) (by decide) rfl (by decide) ?_
      refine x_iload (q := 113) dX5_isSigned_111 rfl rfl ?_
      refine x_ireturn dX5_isSigned_113 rfl (by decide) ?_
      exact ⟨by simp_all [sg, bI], rfl⟩
    by_cases h70_3 : s (12 + 7 * k + 0) = 3
    · refine x_tswC (q := 111) (k := 3) dX5_isSigned_70 h70_3 (by decide) (by decide) rfl (by decide) ?_
      refine x_iload (q := 113) dX5_isSigned_111 rfl rfl ?_
      refine x_ireturn dX5_isSigned_113 rfl (by decide) ?_
      exact ⟨by simp_all [sg, bI], rfl⟩
    by_cases h70_4 : s (12 + 7 * k + 0) = 4
    · refine x_tswC (q := 114) (k := 4) dX5_isSigned_70 h70_4 (by decide) (by decide) rfl (by decide) ?_
      refine x_iload (q := 116) dX5_isSigned_114 rfl rfl ?_
      refine x_if_eq (q := 119) (t := 135) dX5_isSigned_116 rfl (by decide) (fun h => absurd h (by decide)) (fun _ => ?_)
      refine x_aload_n (q := 120) dX5_isSigned_119 rfl rfl ?_
      refine x_iload_n (q := 121) dX5_isSigned_120 rfl rfl ?_
      refine x_bipush (q := 123) (v := 6) dX5_isSigned_121 rfl (by decide) ?_
      refine x_callV2v (q := 126) dX5_isSigned_123 rfl ml_X5_52 mv_X5_get rv5 rfl (c_X5_getr (f := 6) hk (by decide)) (Nat.le_of_ble_eq_true rfl) ⟨by decide, by decide⟩ ?_
      refine x_bipush (q := 128) (v := 7) dX5_isSigned_126 rfl (by decide) ?_
      refine x_icmp_lt (q := 131) (t := 135) dX5_isSigned_128 rfl (by decide) (fun h128 => ?_) (fun h128 => ?_)
      · refine x_iconst (q := 136) (v := 0) dX5_isSigned_135 rfl (by decide) ?_
        refine x_ireturn dX5_isSigned_136 rfl (by decide) ?_
        exact ⟨by simp_all [sg, bI], rfl⟩
      refine x_iconst (q := 132) (v := 1) dX5_isSigned_131 rfl (by decide) ?_
      refine x_goto (q := 136) dX5_isSigned_132 (by decide) ?_
      refine x_ireturn dX5_isSigned_136 rfl (by decide) ?_
      exact ⟨by simp_all [sg, bI], rfl⟩
    by_cases h70_5 : s (12 + 7 * k + 0) = 5
    · refine x_tswC (q := 137) (k := 5) dX5_isSigned_70 h70_5 (by decide) (by decide) rfl (by decide) ?_
      refine x_iload_n (q := 138) dX5_isSigned_137 rfl rfl ?_
      refine x_if_le (q := 141) (t := 145) dX5_isSigned_138 rfl (by decide) (fun h138 => ?_) (fun h138 => ?_)
      · refine x_iconst (q := 146) (v := 0) dX5_isSigned_145 rfl (by decide) ?_
        refine x_ireturn dX5_isSigned_146 rfl (by decide) ?_
        exact ⟨by simp_all [sg, bI], rfl⟩
      refine x_iconst (q := 142) (v := 1) dX5_isSigned_141 rfl (by decide) ?_
      refine x_goto (q := 146) dX5_isSigned_142 (by decide) ?_
      refine x_ireturn dX5_isSigned_146 rfl (by decide) ?_
      exact ⟨by simp_all [sg, bI], rfl⟩
    by_cases h70_6 : s (12 + 7 * k + 0) = 6
    · refine x_tswC (q := 147) (k := 6) dX5_isSigned_70 h70_6 (by decide) (by decide) rfl (by decide) ?_
      refine x_iload (q := 149) dX5_isSigned_147 rfl rfl ?_
      refine x_if_eq (q := 152) (t := 167) dX5_isSigned_149 rfl (by decide) (fun _ => ?_) (fun h => absurd (by decide) h)
      refine x_iconst (q := 168) (v := 0) dX5_isSigned_167 rfl (by decide) ?_
      refine x_ireturn dX5_isSigned_168 rfl (by decide) ?_
      exact ⟨by simp_all [sg, bI], rfl⟩
    refine x_tswD (q := 169) dX5_isSigned_70 (by have n1 := lv_neT h70_1 (a := 1) (by decide); have n2 := lv_neT h70_2 (a := 2) (by decide); have n3 := lv_neT h70_3 (a := 3) (by decide); have n4 := lv_neT h70_4 (a := 4) (by decide); have n5 := lv_neT h70_5 (a := 5) (by decide); have n6 := lv_neT h70_6 (a := 6) (by decide); omega) (by decide) ?_
    refine x_iload_n (q := 170) dX5_isSigned_169 rfl rfl ?_
    refine x_ireturn dX5_isSigned_170 rfl (by decide) ?_
    exact ⟨by simp_all [sg, bI], rfl⟩
  refine x_iconst (q := 11) (v := 1) dX5_isSigned_10 rfl (by decide) ?_
  refine x_goto (q := 15) dX5_isSigned_11 (by decide) ?_
  refine x_istore_n (q := 16) dX5_isSigned_15 rfl (by decide) rfl rfl ?_
  refine x_iload_n (q := 17) dX5_isSigned_16 rfl rfl ?_
  refine x_if_eq (q := 20) (t := 34) dX5_isSigned_17 rfl (by decide) (fun h => absurd h (by decide)) (fun _ => ?_)
  refine x_aload_n (q := 21) dX5_isSigned_20 rfl rfl ?_
  refine x_iload_n (q := 22) dX5_isSigned_21 rfl rfl ?_
  refine x_iconst (q := 23) (v := 2) dX5_isSigned_22 rfl (by decide) ?_
  refine x_callV2v (q := 26) dX5_isSigned_23 rfl ml_X5_52 mv_X5_get rv5 rfl (c_X5_getr (f := 2) hk (by decide)) (Nat.le_of_ble_eq_true rfl) ⟨by decide, by decide⟩ ?_
  refine x_iconst (q := 27) (v := 5) dX5_isSigned_26 rfl (by decide) ?_
  refine x_icmp_lt (q := 30) (t := 34) dX5_isSigned_27 rfl (by decide) (fun h27 => ?_) (fun h27 => ?_)
  · refine x_iconst (q := 35) (v := 0) dX5_isSigned_34 rfl (by decide) ?_
    refine x_istore (q := 37) dX5_isSigned_35 rfl (by decide) rfl rfl ?_
    refine x_iload_n (q := 38) dX5_isSigned_37 rfl rfl ?_
    refine x_aload_n (q := 39) dX5_isSigned_38 rfl rfl ?_
    refine x_iload_n (q := 40) dX5_isSigned_39 rfl rfl ?_
    refine x_iconst (q := 41) (v := 1) dX5_isSigned_40 rfl (by decide) ?_
    refine x_callV2v (q := 44) dX5_isSigned_41 rfl ml_X5_52 mv_X5_get rv5 rfl (c_X5_getr (f := 1) hk (by decide)) (Nat.le_of_ble_eq_true rfl) ⟨by decide, by decide⟩ ?_
    refine x_aload_n (q := 45) dX5_isSigned_44 rfl rfl ?_
    refine x_iload_n (q := 46) dX5_isSigned_45 rfl rfl ?_
    refine x_iconst (q := 47) (v := 2) dX5_isSigned_46 rfl (by decide) ?_
    refine x_callV2v (q := 50) dX5_isSigned_47 rfl ml_X5_52 mv_X5_get rv5 rfl (c_X5_getr (f := 2) hk (by decide)) (Nat.le_of_ble_eq_true rfl) ⟨by decide, by decide⟩ ?_
    refine x_bipush (q := 52) (v := 20) dX5_isSigned_50 rfl (by decide) ?_
    refine x_idiv (q := 53) dX5_isSigned_52 rfl (by decide) ?_
    refine x_iadd (q := 54) dX5_isSigned_53 rfl ?_
    refine x_icmp_lt (q := 57) (t := 61) dX5_isSigned_54 rfl (by decide) (fun h54 => ?_) (fun h54 => ?_)
    · refine x_iconst (q := 62) (v := 0) dX5_isSigned_61 rfl (by decide) ?_
      refine x_istore (q := 64) dX5_isSigned_62 rfl (by decide) rfl rfl ?_
      refine x_aload_n (q := 65) dX5_isSigned_64 rfl rfl ?_
      refine x_iload_n (q := 66) dX5_isSigned_65 rfl rfl ?_
      refine x_iconst (q := 67) (v := 0) dX5_isSigned_66 rfl (by decide) ?_
      refine x_callV2v (q := 70) dX5_isSigned_67 rfl ml_X5_52 mv_X5_get rv5 rfl (c_X5_getr (f := 0) hk (by decide)) (Nat.le_of_ble_eq_true rfl) ⟨by decide, by decide⟩ ?_
      by_cases h70_1 : s (12 + 7 * k + 0) = 1
      · refine x_tswC (q := 108) (k := 1) dX5_isSigned_70 h70_1 (by decide) (by decide) rfl (by decide) ?_
        refine x_iload (q := 110) dX5_isSigned_108 rfl rfl ?_
        refine x_ireturn dX5_isSigned_110 rfl (by decide) ?_
        exact ⟨by simp_all [sg, bI], rfl⟩
      by_cases h70_2 : s (12 + 7 * k + 0) = 2
      · refine x_tswC (q := 111) (k := 2) dX5_isSigned_70 h70_2 (by decide) (by decide) rfl (by decide) ?_
        refine x_iload (q := 113) dX5_isSigned_111 rfl rfl ?_
        refine x_ireturn dX5_isSigned_113 rfl (by decide) ?_
        exact ⟨by simp_all [sg, bI], rfl⟩
      by_cases h70_3 : s (12 + 7 * k + 0) = 3
      · refine x_tswC (q := 111) (k := 3) dX5_isSigned_70 h70_3 (by decide) (by decide) rfl (by decide) ?_
        refine x_iload (q := 113) dX5_isSigned_111 rfl rfl ?_
        refine x_ireturn dX5_isSigned_113 rfl (by decide) ?_
        exact ⟨by simp_all [sg, bI], rfl⟩
      by_cases h70_4 : s (12 + 7 * k + 0) = 4
      · refine x_tswC (q := 114) (k := 4) dX5_isSigned_70 h70_4 (by decide) (by decide) rfl (by decide) ?_
        refine x_iload (q := 116) dX5_isSigned_114 rfl rfl ?_
        refine x_if_eq (q := 119) (t := 135) dX5_isSigned_116 rfl (by decide) (fun _ => ?_) (fun h => absurd (by decide) h)
        refine x_iconst (q := 136) (v := 0) dX5_isSigned_135 rfl (by decide) ?_
        refine x_ireturn dX5_isSigned_136 rfl (by decide) ?_
        exact ⟨by simp_all [sg, bI], rfl⟩
      by_cases h70_5 : s (12 + 7 * k + 0) = 5
      · refine x_tswC (q := 137) (k := 5) dX5_isSigned_70 h70_5 (by decide) (by decide) rfl (by decide) ?_
        refine x_iload_n (q := 138) dX5_isSigned_137 rfl rfl ?_
        refine x_if_le (q := 141) (t := 145) dX5_isSigned_138 rfl (by decide) (fun h138 => ?_) (fun h138 => ?_)
        · refine x_iconst (q := 146) (v := 0) dX5_isSigned_145 rfl (by decide) ?_
          refine x_ireturn dX5_isSigned_146 rfl (by decide) ?_
          exact ⟨by simp_all [sg, bI], rfl⟩
        refine x_iconst (q := 142) (v := 1) dX5_isSigned_141 rfl (by decide) ?_
        refine x_goto (q := 146) dX5_isSigned_142 (by decide) ?_
        refine x_ireturn dX5_isSigned_146 rfl (by decide) ?_
        exact ⟨by simp_all [sg, bI], rfl⟩
      by_cases h70_6 : s (12 + 7 * k + 0) = 6
      · refine x_tswC (q := 147) (k := 6) dX5_isSigned_70 h70_6 (by decide) (by decide) rfl (by decide) ?_
        refine x_iload (q := 149) dX5_isSigned_147 rfl rfl ?_
        refine x_if_eq (q := 152) (t := 167) dX5_isSigned_149 rfl (by decide) (fun _ => ?_) (fun h => absurd (by decide) h)
        refine x_iconst (q := 168) (v := 0) dX5_isSigned_167 rfl (by decide) ?_
        refine x_ireturn dX5_isSigned_168 rfl (by decide) ?_
        exact ⟨by simp_all [sg, bI], rfl⟩
      refine x_tswD (q := 169) dX5_isSigned_70 (by have n1 := lv_neT h70_1 (a := 1) (by decide); have n2 := lv_neT h70_2 (a := 2) (by decide); have n3 := lv_neT h70_3 (a := 3) (by decide); have n4 := lv_neT h70_4 (a := 4) (by decide); have n5 := lv_neT h70_5 (a := 5) (by decide); have n6 := lv_neT h70_6 (a := 6) (by decide); omega) (by decide) ?_
      refine x_iload_n (q := 170) dX5_isSigned_169 rfl rfl ?_
      refine x_ireturn dX5_isSigned_170 rfl (by decide) ?_
      exact ⟨by simp_all [sg, bI], rfl⟩
    refine x_iconst (q := 58) (v := 1) dX5_isSigned_57 rfl (by decide) ?_
    refine x_goto (q := 62) dX5_isSigned_58 (by decide) ?_
    refine x_istore (q := 64) dX5_isSigned_62 rfl (by decide) rfl rfl ?_
    refine x_aload_n (q := 65) dX5_isSigned_64 rfl rfl ?_
    refine x_iload_n (q := 66) dX5_isSigned_65 rfl rfl ?_
    refine x_iconst (q := 67) (v := 0) dX5_isSigned_66 rfl (by decide) ?_
    refine x_callV2v (q := 70) dX5_isSigned_67 rfl ml_X5_52 mv_X5_get rv5 rfl (c_X5_getr (f := 0) hk (by decide)) (Nat.le_of_ble_eq_true rfl) ⟨by decide, by decide⟩ ?_
    by_cases h70_1 : s (12 + 7 * k + 0) = 1
    · refine x_tswC (q := 108) (k := 1) dX5_isSigned_70 h70_1 (by decide) (by decide) rfl (by decide) ?_
      refine x_iload (q := 110) dX5_isSigned_108 rfl rfl ?_
      refine x_ireturn dX5_isSigned_110 rfl (by decide) ?_
      exact ⟨by simp_all [sg, bI], rfl⟩
    by_cases h70_2 : s (12 + 7 * k + 0) = 2
    · refine x_tswC (q := 111) (k := 2) dX5_isSigned_70 h70_2 (by decide) (by decide) rfl (by decide) ?_
      refine x_iload (q := 113) dX5_isSigned_111 rfl rfl ?_
      refine x_ireturn dX5_isSigned_113 rfl (by decide) ?_
      exact ⟨by simp_all [sg, bI], rfl⟩
    by_cases h70_3 : s (12 + 7 * k + 0) = 3
    · refine x_tswC (q := 111) (k := 3) dX5_isSigned_70 h70_3 (by decide) (by decide) rfl (by decide) ?_
      refine x_iload (q := 113) dX5_isSigned_111 rfl rfl ?_
      refine x_ireturn dX5_isSigned_113 rfl (by decide) ?_
      exact ⟨by simp_all [sg, bI], rfl⟩
    by_cases h70_4 : s (12 + 7 * k + 0) = 4
    · refine x_tswC (q := 114) (k := 4) dX5_isSigned_70 h70_4 (by decide) (by decide) rfl (by decide) ?_
      refine x_iload (q := 116) dX5_isSigned_114 rfl rfl ?_
      refine x_if_eq (q := 119) (t := 135) dX5_isSigned_116 rfl (by decide) (fun h => absurd h (by decide)) (fun _ => ?_)
      refine x_aload_n (q := 120) dX5_isSigned_119 rfl rfl ?_
      refine x_iload_n (q := 121) dX5_isSigned_120 rfl rfl ?_
      refine x_bipush (q := 123) (v := 6) dX5_isSigned_121 rfl (by decide) ?_
      refine x_callV2v (q := 126) dX5_isSigned_123 rfl ml_X5_52 mv_X5_get rv5 rfl (c_X5_getr (f := 6) hk (by decide)) (Nat.le_of_ble_eq_true rfl) ⟨by decide, by decide⟩ ?_
      refine x_bipush (q := 128) (v := 7) dX5_isSigned_126 rfl (by decide) ?_
      refine x_icmp_lt (q := 131) (t := 135) dX5_isSigned_128 rfl (by decide) (fun h128 => ?_) (fun h128 => ?_)
      · refine x_iconst (q := 136) (v := 0) dX5_isSigned_135 rfl (by decide) ?_
        refine x_ireturn dX5_isSigned_136 rfl (by decide) ?_
        exact ⟨by simp_all [sg, bI], rfl⟩
      refine x_iconst (q := 132) (v := 1) dX5_isSigned_131 rfl (by decide) ?_
      refine x_goto (q := 136) dX5_isSigned_132 (by decide) ?_
      refine x_ireturn dX5_isSigned_136 rfl (by decide) ?_
      exact ⟨by simp_all [sg, bI], rfl⟩
    by_cases h70_5 : s (12 + 7 * k + 0) = 5
    · refine x_tswC (q := 137) (k := 5) dX5_isSigned_70 h70_5 (by decide) (by decide) rfl (by decide) ?_
      refine x_iload_n (q := 138) dX5_isSigned_137 rfl rfl ?_
      refine x_if_le (q := 141) (t := 145) dX5_isSigned_138 rfl (by decide) (fun h138 => ?_) (fun h138 => ?_)
      · refine x_iconst (q := 146) (v := 0) dX5_isSigned_145 rfl (by decide) ?_
        refine x_ireturn dX5_isSigned_146 rfl (by decide) ?_
        exact ⟨by simp_all [sg, bI], rfl⟩
      refine x_iconst (q := 142) (v := 1) dX5_isSigned_141 rfl (by decide) ?_
      refine x_goto (q := 146) dX5_isSigned_142 (by decide) ?_
      refine x_ireturn dX5_isSigned_146 rfl (by decide) ?_
      exact ⟨by simp_all [sg, bI], rfl⟩
    by_cases h70_6 : s (12 + 7 * k + 0) = 6
    · refine x_tswC (q := 147) (k := 6) dX5_isSigned_70 h70_6 (by decide) (by decide) rfl (by decide) ?_
      refine x_iload (q := 149) dX5_isSigned_147 rfl rfl ?_
      refine x_if_eq (q := 152) (t := 167) dX5_isSigned_149 rfl (by decide) (fun _ => ?_) (fun h => absurd (by decide) h)
      refine x_iconst (q := 168) (v := 0) dX5_isSigned_167 rfl (by decide) ?_
      refine x_ireturn dX5_isSigned_168 rfl (by decide) ?_
      exact ⟨by simp_all [sg, bI], rfl⟩
    refine x_tswD (q := 169) dX5_isSigned_70 (by have n1 := lv_neT h70_1 (a := 1) (by decide); have n2 := lv_neT h70_2 (a := 2) (by decide); have n3 := lv_neT h70_3 (a := 3) (by decide); have n4 := lv_neT h70_4 (a := 4) (by decide); have n5 := lv_neT h70_5 (a := 5) (by decide); have n6 := lv_neT h70_6 (a := 6) (by decide); omega) (by decide) ?_
    refine x_iload_n (q := 170) dX5_isSigned_169 rfl rfl ?_
    refine x_ireturn dX5_isSigned_170 rfl (by decide) ?_
    exact ⟨by simp_all [sg, bI], rfl⟩
  refine x_iconst (q := 31) (v := 1) dX5_isSigned_30 rfl (by decide) ?_
  refine x_goto (q := 35) dX5_isSigned_31 (by decide) ?_
  refine x_istore (q := 37) dX5_isSigned_35 rfl (by decide) rfl rfl ?_
  refine x_iload_n (q := 38) dX5_isSigned_37 rfl rfl ?_
  refine x_aload_n (q := 39) dX5_isSigned_38 rfl rfl ?_
  refine x_iload_n (q := 40) dX5_isSigned_39 rfl rfl ?_
  refine x_iconst (q := 41) (v := 1) dX5_isSigned_40 rfl (by decide) ?_
  refine x_callV2v (q := 44) dX5_isSigned_41 rfl ml_X5_52 mv_X5_get rv5 rfl (c_X5_getr (f := 1) hk (by decide)) (Nat.le_of_ble_eq_true rfl) ⟨by decide, by decide⟩ ?_
  refine x_aload_n (q := 45) dX5_isSigned_44 rfl rfl ?_
  refine x_iload_n (q := 46) dX5_isSigned_45 rfl rfl ?_
  refine x_iconst (q := 47) (v := 2) dX5_isSigned_46 rfl (by decide) ?_
  refine x_callV2v (q := 50) dX5_isSigned_47 rfl ml_X5_52 mv_X5_get rv5 rfl (c_X5_getr (f := 2) hk (by decide)) (Nat.le_of_ble_eq_true rfl) ⟨by decide, by decide⟩ ?_
  refine x_bipush (q := 52) (v := 20) dX5_isSigned_50 rfl (by decide) ?_
  refine x_idiv (q := 53) dX5_isSigned_52 rfl (by decide) ?_
  refine x_iadd (q := 54) dX5_isSigned_53 rfl ?_
  refine x_icmp_lt (q := 57) (t := 61) dX5_isSigned_54 rfl (by decide) (fun h54 => ?_) (fun h54 => ?_)
  · refine x_iconst (q := 62) (v := 0) dX5_isSigned_61 rfl (by decide) ?_
    refine x_istore (q := 64) dX5_isSigned_62 rfl (by decide) rfl rfl ?_
    refine x_aload_n (q := 65) dX5_isSigned_64 rfl rfl ?_
    refine x_iload_n (q := 66) dX5_isSigned_65 rfl rfl ?_
    refine x_iconst (q := 67) (v := 0) dX5_isSigned_66 rfl (by decide) ?_
    refine x_callV2v (q := 70) dX5_isSigned_67 rfl ml_X5_52 mv_X5_get rv5 rfl (c_X5_getr (f := 0) hk (by decide)) (Nat.le_of_ble_eq_true rfl) ⟨by decide, by decide⟩ ?_
    by_cases h70_1 : s (12 + 7 * k + 0) = 1
    · refine x_tswC (q := 108) (k := 1) dX5_isSigned_70 h70_1 (by decide) (by decide) rfl (by decide) ?_
      refine x_iload (q := 110) dX5_isSigned_108 rfl rfl ?_
      refine x_ireturn dX5_isSigned_110 rfl (by decide) ?_
      exact ⟨by simp_all [sg, bI], rfl⟩
    by_cases h70_2 : s (12 + 7 * k + 0) = 2
    · refine x_tswC (q := 111) (k := 2) dX5_isSigned_70 h70_2 (by decide) (by decide) rfl (by decide) ?_
      refine x_iload (q := 113) dX5_isSigned_111 rfl rfl ?_
      refine x_ireturn dX5_isSigned_113 rfl (by decide) ?_
      exact ⟨by simp_all [sg, bI], rfl⟩
    by_cases h70_3 : s (12 + 7 * k + 0) = 3
    · refine x_tswC (q := 111) (k := 3) dX5_isSigned_70 h70_3 (by decide) (by decide) rfl (by decide) ?_
      refine x_iload (q := 113) dX5_isSigned_111 rfl rfl ?_
      refine x_ireturn dX5_isSigned_113 rfl (by decide) ?_
      exact ⟨by simp_all [sg, bI], rfl⟩
    by_cases h70_4 : s (12 + 7 * k + 0) = 4
    · refine x_tswC (q := 114) (k := 4) dX5_isSigned_70 h70_4 (by decide) (by decide) rfl (by decide) ?_
      refine x_iload (q := 116) dX5_isSigned_114 rfl rfl ?_
      refine x_if_eq (q := 119) (t := 135) dX5_isSigned_116 rfl (by decide) (fun _ => ?_) (fun h => absurd (by decide) h)
      refine x_iconst (q := 136) (v := 0) dX5_isSigned_135 rfl (by decide) ?_
      refine x_ireturn dX5_isSigned_136 rfl (by decide) ?_
      exact ⟨by simp_all [sg, bI], rfl⟩
    by_cases h70_5 : s (12 + 7 * k + 0) = 5
    · refine x_tswC (q := 137) (k := 5) dX5_isSigned_70 h70_5 (by decide) (by decide) rfl (by decide) ?_
      refine x_iload_n (q := 138) dX5_isSigned_137 rfl rfl ?_
      refine x_if_le (q := 141) (t := 145) dX5_isSigned_138 rfl (by decide) (fun h138 => ?_) (fun h138 => ?_)
      · refine x_iconst (q := 146) (v := 0) dX5_isSigned_145 rfl (by decide) ?_
        refine x_ireturn dX5_isSigned_146 rfl (by decide) ?_
        exact ⟨by simp_all [sg, bI], rfl⟩
      refine x_iconst (q := 142) (v := 1) dX5_isSigned_141 rfl (by decide) ?_
      refine x_goto (q := 146) dX5_isSigned_142 (by decide) ?_
      refine x_ireturn dX5_isSigned_146 rfl (by decide) ?_
      exact ⟨by simp_all [sg, bI], rfl⟩
    by_cases h70_6 : s (12 + 7 * k + 0) = 6
    · refine x_tswC (q := 147) (k := 6) dX5_isSigned_70 h70_6 (by decide) (by decide) rfl (by decide) ?_
      refine x_iload (q := 149) dX5_isSigned_147 rfl rfl ?_
      refine x_if_eq (q := 152) (t := 167) dX5_isSigned_149 rfl (by decide) (fun h => absurd h (by decide)) (fun _ => ?_)
      refine x_aload_n (q := 153) dX5_isSigned_152 rfl rfl ?_
      refine x_getR (q := 156) dX5_isSigned_153 rfl fl_X5_9 (or5_s) ?_
      refine x_iconst (q := 157) (v := 0) dX5_isSigned_156 rfl (by decide) ?_
      refine x_ialdr (q := 158) dX5_isSigned_157 rfl (ar_50) (ix_nI (k := 0) (by decide) (by decide)) (Nat.zero_add _) ?_
      refine x_iconst (q := 159) (v := 2) dX5_isSigned_158 rfl (by decide) ?_
      refine x_irem (q := 160) dX5_isSigned_159 rfl (by decide) ?_
      refine x_if_ne (q := 163) (t := 167) dX5_isSigned_160 rfl (by decide) (fun h160 => ?_) (fun h160 => ?_)
      · refine x_iconst (q := 168) (v := 0) dX5_isSigned_167 rfl (by decide) ?_
        refine x_ireturn dX5_isSigned_168 rfl (by decide) ?_
        exact ⟨by simp_all [sg, bI], rfl⟩
      refine x_iconst (q := 164) (v := 1) dX5_isSigned_163 rfl (by decide) ?_
      refine x_goto (q := 168) dX5_isSigned_164 (by decide) ?_
      refine x_ireturn dX5_isSigned_168 rfl (by decide) ?_
      exact ⟨by simp_all [sg, bI], rfl⟩
    refine x_tswD (q := 169) dX5_isSigned_70 (by have n1 := lv_neT h70_1 (a := 1) (by decide); have n2 := lv_neT h70_2 (a := 2) (by decide); have n3 := lv_neT h70_3 (a := 3) (by decide); have n4 := lv_neT h70_4 (a := 4) (by decide); have n5 := lv_neT h70_5 (a := 5) (by decide); have n6 := lv_neT h70_6 (a := 6) (by decide); omega) (by decide) ?_
    refine x_iload_n (q := 170) dX5_isSigned_169 rfl rfl ?_
    refine x_ireturn dX5_isSigned_170 rfl (by decide) ?_
    exact ⟨by simp_all [sg, bI], rfl⟩
  refine x_iconst (q := 58) (v := 1) dX5_isSigned_57 rfl (by decide) ?_
  refine x_goto (q := 62) dX5_isSigned_58 (by decide) ?_
  refine x_istore (q := 64) dX5_isSigned_62 rfl (by decide) rfl rfl ?_
  refine x_aload_n (q := 65) dX5_isSigned_64 rfl rfl ?_
  refine x_iload_n (q := 66) dX5_isSigned_65 rfl rfl ?_
  refine x_iconst (q := 67) (v := 0) dX5_isSigned_66 rfl (by decide) ?_
  refine x_callV2v (q := 70) dX5_isSigned_67 rfl ml_X5_52 mv_X5_get rv5 rfl (c_X5_getr (f := 0) hk (by decide)) (Nat.le_of_ble_eq_true rfl) ⟨by decide, by decide⟩ ?_
  by_cases h70_1 : s (12 + 7 * k + 0) = 1
  · refine x_tswC (q := 108) (k := 1) dX5_isSigned_70 h70_1 (by decide) (by decide) rfl (by decide) ?_
    refine x_iload (q := 110) dX5_isSigned_108 rfl rfl ?_
    refine x_ireturn dX5_isSigned_110 rfl (by decide) ?_
    exact ⟨by simp_all [sg, bI], rfl⟩
  by_cases h70_2 : s (12 + 7 * k + 0) = 2
  · refine x_tswC (q := 111) (k := 2) dX5_isSigned_70 h70_2 (by decide) (by decide) rfl (by decide) ?_
    refine x_iload (q := 113) dX5_isSigned_111 rfl rfl ?_
    refine x_ireturn dX5_isSigned_113 rfl (by decide) ?_
    exact ⟨by simp_all [sg, bI], rfl⟩
  by_cases h70_3 : s (12 + 7 * k + 0) = 3
  · refine x_tswC (q := 111) (k := 3) dX5_isSigned_70 h70_3 (by decide) (by decide) rfl (by decide) ?_
    refine x_iload (q := 113) dX5_isSigned_111 rfl rfl ?_
    refine x_ireturn dX5_isSigned_113 rfl (by decide) ?_
    exact ⟨by simp_all [sg, bI], rfl⟩
  by_cases h70_4 : s (12 + 7 * k + 0) = 4
  · refine x_tswC (q := 114) (k := 4) dX5_isSigned_70 h70_4 (by decide) (by decide) rfl (by decide) ?_
    refine x_iload (q := 116) dX5_isSigned_114 rfl rfl ?_
    refine x_if_eq (q := 119) (t := 135) dX5_isSigned_116 rfl (by decide) (fun h => absurd h (by decide)) (fun _ => ?_)
    refine x_aload_n (q := 120) dX5_isSigned_119 rfl rfl ?_
    refine x_iload_n (q := 121) dX5_isSigned_120 rfl rfl ?_
    refine x_bipush (q := 123) (v := 6) dX5_isSigned_121 rfl (by decide) ?_
    refine x_callV2v (q := 126) dX5_isSigned_123 rfl ml_X5_52 mv_X5_get rv5 rfl (c_X5_getr (f := 6) hk (by decide)) (Nat.le_of_ble_eq_true rfl) ⟨by decide, by decide⟩ ?_
    refine x_bipush (q := 128) (v := 7) dX5_isSigned_126 rfl (by decide) ?_
    refine x_icmp_lt (q := 131) (t := 135) dX5_isSigned_128 rfl (by decide) (fun h128 => ?_) (fun h128 => ?_)
    · refine x_iconst (q := 136) (v := 0) dX5_isSigned_135 rfl (by decide) ?_
      refine x_ireturn dX5_isSigned_136 rfl (by decide) ?_
      exact ⟨by simp_all [sg, bI], rfl⟩
    refine x_iconst (q := 132) (v := 1) dX5_isSigned_131 rfl (by decide) ?_
    refine x_goto (q := 136) dX5_isSigned_132 (by decide) ?_
    refine x_ireturn dX5_isSigned_136 rfl (by decide) ?_
    exact ⟨by simp_all [sg, bI], rfl⟩
  by_cases h70_5 : s (12 + 7 * k + 0) = 5
  · refine x_tswC (q := 137) (k := 5) dX5_isSigned_70 h70_5 (by decide) (by decide) rfl (by decide) ?_
    refine x_iload_n (q := 138) dX5_isSigned_137 rfl rfl ?_
    refine x_if_le (q := 141) (t := 145) dX5_isSigned_138 rfl (by decide) (fun h138 => ?_) (fun h138 => ?_)
    · refine x_iconst (q := 146) (v := 0) dX5_isSigned_145 rfl (by decide) ?_
      refine x_ireturn dX5_isSigned_146 rfl (by decide) ?_
      exact ⟨by simp_all [sg, bI], rfl⟩
    refine x_iconst (q := 142) (v := 1) dX5_isSigned_141 rfl (by decide) ?_
    refine x_goto (q := 146) dX5_isSigned_142 (by decide) ?_
    refine x_ireturn dX5_isSigned_146 rfl (by decide) ?_
    exact ⟨by simp_all [sg, bI], rfl⟩
  by_cases h70_6 : s (12 + 7 * k + 0) = 6
  · refine x_tswC (q := 147) (k := 6) dX5_isSigned_70 h70_6 (by decide) (by decide) rfl (by decide) ?_
    refine x_iload (q := 149) dX5_isSigned_147 rfl rfl ?_
    refine x_if_eq (q := 152) (t := 167) dX5_isSigned_149 rfl (by decide) (fun h => absurd h (by decide)) (fun _ => ?_)
    refine x_aload_n (q := 153) dX5_isSigned_152 rfl rfl ?_
    refine x_getR (q := 156) dX5_isSigned_153 rfl fl_X5_9 (or5_s) ?_
    refine x_iconst (q := 157) (v := 0) dX5_isSigned_156 rfl (by decide) ?_
    refine x_ialdr (q := 158) dX5_isSigned_157 rfl (ar_50) (ix_nI (k := 0) (by decide) (by decide)) (Nat.zero_add _) ?_
    refine x_iconst (q := 159) (v := 2) dX5_isSigned_158 rfl (by decide) ?_
    refine x_irem (q := 160) dX5_isSigned_159 rfl (by decide) ?_
    refine x_if_ne (q := 163) (t := 167) dX5_isSigned_160 rfl (by decide) (fun h160 => ?_) (fun h160 => ?_)
    · refine x_iconst (q := 168) (v := 0) dX5_isSigned_167 rfl (by decide) ?_
      refine x_ireturn dX5_isSigned_168 rfl (by decide) ?_
      exact ⟨by simp_all [sg, bI], rfl⟩
    refine x_iconst (q := 164) (v := 1) dX5_isSigned_163 rfl (by decide) ?_
    refine x_goto (q := 168) dX5_isSigned_164 (by decide) ?_
    refine x_ireturn dX5_isSigned_168 rfl (by decide) ?_
    exact ⟨by simp_all [sg, bI], rfl⟩
  refine x_tswD (q := 169) dX5_isSigned_70 (by have n1 := lv_neT h70_1 (a := 1) (by decide); have n2 := lv_neT h70_2 (a := 2) (by decide); have n3 := lv_neT h70_3 (a := 3) (by decide); have n4 := lv_neT h70_4 (a := 4) (by decide); have n5 := lv_neT h70_5 (a := 5) (by decide); have n6 := lv_neT h70_6 (a := 6) (by decide); omega) (by decide) ?_
  refine x_iload_n (q := 170) dX5_isSigned_169 rfl rfl ?_
  refine x_ireturn dX5_isSigned_170 rfl (by decide) ?_
  exact ⟨by simp_all [sg, bI], rfl⟩
theorem dX5_movesOf_0 : decode cX5_movesOf 0 = .ok (.aload_n 0, 1) := by decide +kernel
theorem dX5_movesOf_1 : decode cX5_movesOf 1 = .ok (.iload_n 1, 1) := by decide +kernel
theorem dX5_movesOf_2 : decode cX5_movesOf 2 = .ok (.iconst 0, 1) := by decide +kernel
theorem dX5_movesOf_3 : decode cX5_movesOf 3 = .ok (.invokevirtual 52, 3) := by decide +kernel
theorem dX5_movesOf_6 : decode cX5_movesOf 6 = .ok (.istore_n 2, 1) := by decide +kernel
theorem dX5_movesOf_7 : decode cX5_movesOf 7 = .ok (.iload_n 2, 1) := by decide +kernel
theorem dX5_movesOf_8 : decode cX5_movesOf 8 = .ok (.ifCond .ne 7, 3) := by decide +kernel
theorem dX5_movesOf_11 : decode cX5_movesOf 11 = .ok (.iconst 2, 1) := by decide +kernel
theorem dX5_movesOf_12 : decode cX5_movesOf 12 = .ok (.goto 22, 3) := by decide +kernel
theorem dX5_movesOf_15 : decode cX5_movesOf 15 = .ok (.iload_n 2, 1) := by decide +kernel
theorem dX5_movesOf_16 : decode cX5_movesOf 16 = .ok (.iconst 4, 1) := by decide +kernel
theorem dX5_movesOf_17 : decode cX5_movesOf 17 = .ok (.if_icmp .ne 7, 3) := by decide +kernel
theorem dX5_movesOf_20 : decode cX5_movesOf 20 = .ok (.iconst 0, 1) := by decide +kernel
theorem dX5_movesOf_21 : decode cX5_movesOf 21 = .ok (.goto 13, 3) := by decide +kernel
theorem dX5_movesOf_24 : decode cX5_movesOf 24 = .ok (.iload_n 2, 1) := by decide +kernel
theorem dX5_movesOf_25 : decode cX5_movesOf 25 = .ok (.iconst 5, 1) := by decide +kernel
theorem dX5_movesOf_26 : decode cX5_movesOf 26 = .ok (.if_icmp .ne 7, 3) := by decide +kernel
theorem dX5_movesOf_29 : decode cX5_movesOf 29 = .ok (.iconst 5, 1) := by decide +kernel
theorem dX5_movesOf_30 : decode cX5_movesOf 30 = .ok (.goto 4, 3) := by decide +kernel
theorem dX5_movesOf_33 : decode cX5_movesOf 33 = .ok (.iconst 1, 1) := by decide +kernel
theorem dX5_movesOf_34 : decode cX5_movesOf 34 = .ok (.ireturn, 1) := by decide +kernel
set_option maxRecDepth 20000 in
set_option maxHeartbeats 4000000 in
theorem c_X5_movesOf {K : Cx} {k : Nat} {s : Nat → Int32} {m : TM} (hk : k < 8) : CT yX5_movesOf cX5_movesOf 3 (some .int) 1 22 K [.ref 49, .int (nI k)] (sr m 50 s) (some (.int (mvM (s (12 + 7 * k + 0))))) (sr m 50 s) := by
  refine ct_ofd (n := 1) (by decide +kernel) rfl rfl ?_
  show XX RX5 cX5_movesOf 3 (some .int) 1 22 K 0 [some (.ref 49), some (.int (nI k)), none] [] (sr m 50 s) (fun r1 m1 => r1 = (some (.int (mvM (s (12 + 7 * k + 0))))) ∧ m1 = sr m 50 s)
  refine x_aload_n (q := 1) dX5_movesOf_0 rfl rfl ?_
  refine x_iload_n (q := 2) dX5_movesOf_1 rfl rfl ?_
  refine x_iconst (q := 3) (v := 0) dX5_movesOf_2 rfl (by decide) ?_
  refine x_callV2v (q := 6) dX5_movesOf_3 rfl ml_X5_52 mv_X5_get rv5 rfl (c_X5_getr (f := 0) hk (by decide)) (Nat.le_of_ble_eq_true rfl) ⟨by decide, by decide⟩ ?_
  refine x_istore_n (q := 7) dX5_movesOf_6 rfl (by decide) rfl rfl ?_
  refine x_iload_n (q := 8) dX5_movesOf_7 rfl rfl ?_
  refine x_if_ne (q := 11) (t := 15) dX5_movesOf_8 rfl (by decide) (fun h8 => ?_) (fun h8 => ?_)
  · refine x_iload_n (q := 16) dX5_movesOf_15 rfl rfl ?_
    refine x_iconst (q := 17) (v := 4) dX5_movesOf_16 rfl (by decide) ?_
    refine x_icmp_ne (q := 20) (t := 24) dX5_movesOf_17 rfl (by decide) (fun h17 => ?_) (fun h17 => ?_)
    · refine x_iload_n (q := 25) dX5_movesOf_24 rfl rfl ?_
      refine x_iconst (q := 26) (v := 5) dX5_movesOf_25 rfl (by decide) ?_
      refine x_icmp_ne (q := 29) (t := 33) dX5_movesOf_26 rfl (by decide) (fun h26 => ?_) (fun h26 => ?_)
      · refine x_iconst (q := 34) (v := 1) dX5_movesOf_33 rfl (by decide) ?_
        refine x_ireturn dX5_movesOf_34 rfl rfl ?_
        exact ⟨by simp_all [mvM], rfl⟩
      refine x_iconst (q := 30) (v := 5) dX5_movesOf_29 rfl (by decide) ?_
      refine x_goto (q := 34) dX5_movesOf_30 (by decide) ?_
      refine x_ireturn dX5_movesOf_34 rfl rfl ?_
      exact ⟨by simp_all [mvM], rfl⟩
    refine x_iconst (q := 21) (v := 0) dX5_movesOf_20 rfl (by decide) ?_
    refine x_goto (q := 34) dX5_movesOf_21 (by decide) ?_
    refine x_ireturn dX5_movesOf_34 rfl rfl ?_
    exact ⟨by simp_all [mvM], rfl⟩
  refine x_iconst (q := 12) (v := 2) dX5_movesOf_11 rfl (by decide) ?_
  refine x_goto (q := 34) dX5_movesOf_12 (by decide) ?_
  refine x_ireturn dX5_movesOf_34 rfl rfl ?_
  exact ⟨by simp_all [mvM], rfl⟩
theorem dX5_lastsOf_0 : decode cX5_lastsOf 0 = .ok (.aload_n 0, 1) := by decide +kernel
theorem dX5_lastsOf_1 : decode cX5_lastsOf 1 = .ok (.iload_n 1, 1) := by decide +kernel
theorem dX5_lastsOf_2 : decode cX5_lastsOf 2 = .ok (.iconst 0, 1) := by decide +kernel
theorem dX5_lastsOf_3 : decode cX5_lastsOf 3 = .ok (.invokevirtual 52, 3) := by decide +kernel
theorem dX5_lastsOf_6 : decode cX5_lastsOf 6 = .ok (.tableswitch 54 1 6 #[38, 41, 41, 44, 48, 51], 38) := by decide +kernel
theorem dX5_lastsOf_44 : decode cX5_lastsOf 44 = .ok (.bipush 36, 2) := by decide +kernel
theorem dX5_lastsOf_46 : decode cX5_lastsOf 46 = .ok (.ireturn, 1) := by decide +kernel
theorem dX5_lastsOf_47 : decode cX5_lastsOf 47 = .ok (.bipush 24, 2) := by decide +kernel
theorem dX5_lastsOf_49 : decode cX5_lastsOf 49 = .ok (.ireturn, 1) := by decide +kernel
theorem dX5_lastsOf_50 : decode cX5_lastsOf 50 = .ok (.sipush 9999, 3) := by decide +kernel
theorem dX5_lastsOf_53 : decode cX5_lastsOf 53 = .ok (.ireturn, 1) := by decide +kernel
theorem dX5_lastsOf_54 : decode cX5_lastsOf 54 = .ok (.bipush 15, 2) := by decide +kernel
theorem dX5_lastsOf_56 : decode cX5_lastsOf 56 = .ok (.ireturn, 1) := by decide +kernel
theorem dX5_lastsOf_57 : decode cX5_lastsOf 57 = .ok (.bipush 66, 2) := by decide +kernel
theorem dX5_lastsOf_59 : decode cX5_lastsOf 59 = .ok (.ireturn, 1) := by decide +kernel
theorem dX5_lastsOf_60 : decode cX5_lastsOf 60 = .ok (.bipush 12, 2) := by decide +kernel
theorem dX5_lastsOf_62 : decode cX5_lastsOf 62 = .ok (.ireturn, 1) := by decide +kernel
set_option maxRecDepth 20000 in
set_option maxHeartbeats 4000000 in
theorem c_X5_lastsOf {K : Cx} {k : Nat} {s : Nat → Int32} {m : TM} (hk : k < 8) : CT yX5_lastsOf cX5_lastsOf 2 (some .int) 1 22 K [.ref 49, .int (nI k)] (sr m 50 s) (some (.int (las (s (12 + 7 * k + 0))))) (sr m 50 s) := by
  refine ct_ofd (n := 0) (by decide +kernel) rfl rfl ?_
  show XX RX5 cX5_lastsOf 2 (some .int) 1 22 K 0 [some (.ref 49), some (.int (nI k))] [] (sr m 50 s) (fun r1 m1 => r1 = (some (.int (las (s (12 + 7 * k + 0))))) ∧ m1 = sr m 50 s)
  refine x_aload_n (q := 1) dX5_lastsOf_0 rfl rfl ?_
  refine x_iload_n (q := 2) dX5_lastsOf_1 rfl rfl ?_
  refine x_iconst (q := 3) (v := 0) dX5_lastsOf_2 rfl (by decide) ?_
  refine x_callV2v (q := 6) dX5_lastsOf_3 rfl ml_X5_52 mv_X5_get rv5 rfl (c_X5_getr (f := 0) hk (by decide)) (Nat.le_of_ble_eq_true rfl) ⟨by decide, by decide⟩ ?_
  by_cases h6_1 : s (12 + 7 * k + 0) = 1
  · refine x_tswC (q := 44) (k := 1) dX5_lastsOf_6 h6_1 (by decide) (by decide) rfl (by decide) ?_
    refine x_bipush (q := 46) (v := 36) dX5_lastsOf_44 rfl (by decide) ?_
    refine x_ireturn dX5_lastsOf_46 rfl rfl ?_
    exact ⟨by simp_all [las], rfl⟩
  by_cases h6_2 : s (12 + 7 * k + 0) = 2
  · refine x_tswC (q := 47) (k := 2) dX5_lastsOf_6 h6_2 (by decide) (by decide) rfl (by decide) ?_
    refine x_bipush (q := 49) (v := 24) dX5_lastsOf_47 rfl (by decide) ?_
    refine x_ireturn dX5_lastsOf_49 rfl rfl ?_
    exact ⟨by simp_all [las], rfl⟩
  by_cases h6_3 : s (12 + 7 * k + 0) = 3
  · refine x_tswC (q := 47) (k := 3) dX5_lastsOf_6 h6_3 (by decide) (by decide) rfl (by decide) ?_
    refine x_bipush (q := 49) (v := 24) dX5_lastsOf_47 rfl (by decide) ?_
    refine x_ireturn dX5_lastsOf_49 rfl rfl ?_
    exact ⟨by simp_all [las], rfl⟩
  by_cases h6_4 : s (12 + 7 * k + 0) = 4
  · refine x_tswC (q := 50) (k := 4) dX5_lastsOf_6 h6_4 (by decide) (by decide) rfl (by decide) ?_
    refine x_sipush (q := 53) (v := 9999) dX5_lastsOf_50 rfl (by decide) ?_
    refine x_ireturn dX5_lastsOf_53 rfl rfl ?_
    exact ⟨by simp_all [las], rfl⟩
  by_cases h6_5 : s (12 + 7 * k + 0) = 5
  · refine x_tswC (q := 54) (k := 5) dX5_lastsOf_6 h6_5 (by decide) (by decide) rfl (by decide) ?_
    refine x_bipush (q := 56) (v := 15) dX5_lastsOf_54 rfl (by decide) ?_
    refine x_ireturn dX5_lastsOf_56 rfl rfl ?_
    exact ⟨by simp_all [las], rfl⟩
  by_cases h6_6 : s (12 + 7 * k + 0) = 6
  · refine x_tswC (q := 57) (k := 6) dX5_lastsOf_6 h6_6 (by decide) (by decide) rfl (by decide) ?_
    refine x_bipush (q := 59) (v := 66) dX5_lastsOf_57 rfl (by decide) ?_
    refine x_ireturn dX5_lastsOf_59 rfl rfl ?_
    exact ⟨by simp_all [las], rfl⟩
  refine x_tswD (q := 60) dX5_lastsOf_6 (by have n1 := lv_neT h6_1 (a := 1) (by decide); have n2 := lv_neT h6_2 (a := 2) (by decide); have n3 := lv_neT h6_3 (a := 3) (by decide); have n4 := lv_neT h6_4 (a := 4) (by decide); have n5 := lv_neT h6_5 (a := 5) (by decide); have n6 := lv_neT h6_6 (a := 6) (by decide); omega) (by decide) ?_
  refine x_bipush (q := 62) (v := 12) dX5_lastsOf_60 rfl (by decide) ?_
  refine x_ireturn dX5_lastsOf_62 rfl rfl ?_
  exact ⟨by simp_all [las], rfl⟩
theorem dX5_paysOf_0 : decode cX5_paysOf 0 = .ok (.aload_n 0, 1) := by decide +kernel
theorem dX5_paysOf_1 : decode cX5_paysOf 1 = .ok (.iload_n 1, 1) := by decide +kernel
theorem dX5_paysOf_2 : decode cX5_paysOf 2 = .ok (.iconst 2, 1) := by decide +kernel
theorem dX5_paysOf_3 : decode cX5_paysOf 3 = .ok (.invokevirtual 52, 3) := by decide +kernel
theorem dX5_paysOf_6 : decode cX5_paysOf 6 = .ok (.bipush 10, 2) := by decide +kernel
theorem dX5_paysOf_8 : decode cX5_paysOf 8 = .ok (.idiv, 1) := by decide +kernel
theorem dX5_paysOf_9 : decode cX5_paysOf 9 = .ok (.istore_n 2, 1) := by decide +kernel
theorem dX5_paysOf_10 : decode cX5_paysOf 10 = .ok (.aload_n 0, 1) := by decide +kernel
theorem dX5_paysOf_11 : decode cX5_paysOf 11 = .ok (.iload_n 1, 1) := by decide +kernel
theorem dX5_paysOf_12 : decode cX5_paysOf 12 = .ok (.iconst 0, 1) := by decide +kernel
theorem dX5_paysOf_13 : decode cX5_paysOf 13 = .ok (.invokevirtual 52, 3) := by decide +kernel
theorem dX5_paysOf_16 : decode cX5_paysOf 16 = .ok (.tableswitch 66 1 6 #[40, 42, 46, 53, 62, 64], 40) := by decide +kernel
theorem dX5_paysOf_56 : decode cX5_paysOf 56 = .ok (.iconst 0, 1) := by decide +kernel
theorem dX5_paysOf_57 : decode cX5_paysOf 57 = .ok (.ireturn, 1) := by decide +kernel
theorem dX5_paysOf_58 : decode cX5_paysOf 58 = .ok (.iconst 2, 1) := by decide +kernel
theorem dX5_paysOf_59 : decode cX5_paysOf 59 = .ok (.iload_n 2, 1) := by decide +kernel
theorem dX5_paysOf_60 : decode cX5_paysOf 60 = .ok (.imul, 1) := by decide +kernel
theorem dX5_paysOf_61 : decode cX5_paysOf 61 = .ok (.ireturn, 1) := by decide +kernel
theorem dX5_paysOf_62 : decode cX5_paysOf 62 = .ok (.iconst 2, 1) := by decide +kernel
theorem dX5_paysOf_63 : decode cX5_paysOf 63 = .ok (.iload_n 2, 1) := by decide +kernel
theorem dX5_paysOf_64 : decode cX5_paysOf 64 = .ok (.imul, 1) := by decide +kernel
theorem dX5_paysOf_65 : decode cX5_paysOf 65 = .ok (.bipush 10, 2) := by decide +kernel
theorem dX5_paysOf_67 : decode cX5_paysOf 67 = .ok (.iadd, 1) := by decide +kernel
theorem dX5_paysOf_68 : decode cX5_paysOf 68 = .ok (.ireturn, 1) := by decide +kernel
theorem dX5_paysOf_69 : decode cX5_paysOf 69 = .ok (.iconst 3, 1) := by decide +kernel
theorem dX5_paysOf_70 : decode cX5_paysOf 70 = .ok (.iconst 2, 1) := by decide +kernel
theorem dX5_paysOf_71 : decode cX5_paysOf 71 = .ok (.iload_n 2, 1) := by decide +kernel
theorem dX5_paysOf_72 : decode cX5_paysOf 72 = .ok (.imul, 1) := by decide +kernel
theorem dX5_paysOf_73 : decode cX5_paysOf 73 = .ok (.bipush 10, 2) := by decide +kernel
theorem dX5_paysOf_75 : decode cX5_paysOf 75 = .ok (.iadd, 1) := by decide +kernel
theorem dX5_paysOf_76 : decode cX5_paysOf 76 = .ok (.imul, 1) := by decide +kernel
theorem dX5_paysOf_77 : decode cX5_paysOf 77 = .ok (.ireturn, 1) := by decide +kernel
theorem dX5_paysOf_78 : decode cX5_paysOf 78 = .ok (.iconst 1, 1) := by decide +kernel
theorem dX5_paysOf_79 : decode cX5_paysOf 79 = .ok (.ireturn, 1) := by decide +kernel
theorem dX5_paysOf_80 : decode cX5_paysOf 80 = .ok (.iconst 5, 1) := by decide +kernel
theorem dX5_paysOf_81 : decode cX5_paysOf 81 = .ok (.ireturn, 1) := by decide +kernel
theorem dX5_paysOf_82 : decode cX5_paysOf 82 = .ok (.iload_n 2, 1) := by decide +kernel
theorem dX5_paysOf_83 : decode cX5_paysOf 83 = .ok (.ireturn, 1) := by decide +kernel
set_option maxRecDepth 20000 in
set_option maxHeartbeats 4000000 in
theorem c_X5_paysOf {K : Cx} {k : Nat} {s : Nat → Int32} {m : TM} (hk : k < 8) : CT yX5_paysOf cX5_paysOf 3 (some .int) 1 22 K [.ref 49, .int (nI k)] (sr m 50 s) (some (.int (pys (s (12 + 7 * k + 0)) (s (12 + 7 * k + 2))))) (sr m 50 s) := by
  refine ct_ofd (n := 1) (by decide +kernel) rfl rfl ?_
  show XX RX5 cX5_paysOf 3 (some .int) 1 22 K 0 [some (.ref 49), some (.int (nI k)), none] [] (sr m 50 s) (fun r1 m1 => r1 = (some (.int (pys (s (12 + 7 * k + 0)) (s (12 + 7 * k + 2))))) ∧ m1 = sr m 50 s)
  refine x_aload_n (q := 1) dX5_paysOf_0 rfl rfl ?_
  refine x_iload_n (q := 2) dX5_paysOf_1 rfl rfl ?_
  refine x_iconst (q := 3) (v := 2) dX5_paysOf_2 rfl (by decide) ?_
  refine x_callV2v (q := 6) dX5_paysOf_3 rfl ml_X5_52 mv_X5_get rv5 rfl (c_X5_getr (f := 2) hk (by decide)) (Nat.le_of_ble_eq_true rfl) ⟨by decide, by decide⟩ ?_
  refine x_bipush (q := 8) (v := 10) dX5_paysOf_6 rfl (by decide) ?_
  refine x_idiv (q := 9) dX5_paysOf_8 rfl (by decide) ?_
  refine x_istore_n (q := 10) dX5_paysOf_9 rfl (by decide) rfl rfl ?_
  refine x_aload_n (q := 11) dX5_paysOf_10 rfl rfl ?_
  refine x_iload_n (q := 12) dX5_paysOf_11 rfl rfl ?_
  refine x_iconst (q := 13) (v := 0) dX5_paysOf_12 rfl (by decide) ?_
  refine x_callV2v (q := 16) dX5_paysOf_13 rfl ml_X5_52 mv_X5_get rv5 rfl (c_X5_getr (f := 0) hk (by decide)) (Nat.le_of_ble_eq_true rfl) ⟨by decide, by decide⟩ ?_
  by_cases h16_1 : s (12 + 7 * k + 0) = 1
  · refine x_tswC (q := 56) (k := 1) dX5_paysOf_16 h16_1 (by decide) (by decide) rfl (by decide) ?_
    refine x_iconst (q := 57) (v := 0) dX5_paysOf_56 rfl (by decide) ?_
    refine x_ireturn dX5_paysOf_57 rfl rfl ?_
    exact ⟨by simp_all [pys], rfl⟩
  by_cases h16_2 : s (12 + 7 * k + 0) = 2
  · refine x_tswC (q := 58) (k := 2) dX5_paysOf_16 h16_2 (by decide) (by decide) rfl (by decide) ?_
    refine x_iconst (q := 59) (v := 2) dX5_paysOf_58 rfl (by decide) ?_
    refine x_iload_n (q := 60) dX5_paysOf_59 rfl rfl ?_
    refine x_imul (q := 61) dX5_paysOf_60 rfl ?_
    refine x_ireturn dX5_paysOf_61 rfl rfl ?_
    exact ⟨by simp_all [pys], rfl⟩
  by_cases h16_3 : s (12 + 7 * k + 0) = 3
  · refine x_tswC (q := 62) (k := 3) dX5_paysOf_16 h16_3 (by decide) (by decide) rfl (by decide) ?_
    refine x_iconst (q := 63) (v := 2) dX5_paysOf_62 rfl (by decide) ?_
    refine x_iload_n (q := 64) dX5_paysOf_63 rfl rfl ?_
    refine x_imul (q := 65) dX5_paysOf_64 rfl ?_
    refine x_bipush (q := 67) (v := 10) dX5_paysOf_65 rfl (by decide) ?_
    refine x_iadd (q := 68) dX5_paysOf_67 rfl ?_
    refine x_ireturn dX5_paysOf_68 rfl rfl ?_
    exact ⟨by simp_all [pys], rfl⟩
  by_cases h16_4 : s (12 + 7 * k + 0) = 4
  · refine x_tswC (q := 69) (k := 4) dX5_paysOf_16 h16_4 (by decide) (by decide) rfl (by decide) ?_
    refine x_iconst (q := 70) (v := 3) dX5_paysOf_69 rfl (by decide) ?_
    refine x_iconst (q := 71) (v := 2) dX5_paysOf_70 rfl (by decide) ?_
    refine x_iload_n (q := 72) dX5_paysOf_71 rfl rfl ?_
    refine x_imul (q := 73) dX5_paysOf_72 rfl ?_
    refine x_bipush (q := 75) (v := 10) dX5_paysOf_73 rfl (by decide) ?_
    refine x_iadd (q := 76) dX5_paysOf_75 rfl ?_
    refine x_imul (q := 77) dX5_paysOf_76 rfl ?_
    refine x_ireturn dX5_paysOf_77 rfl rfl ?_
    exact ⟨by simp_all [pys], rfl⟩
  by_cases h16_5 : s (12 + 7 * k + 0) = 5
  · refine x_tswC (q := 78) (k := 5) dX5_paysOf_16 h16_5 (by decide) (by decide) rfl (by decide) ?_
    refine x_iconst (q := 79) (v := 1) dX5_paysOf_78 rfl (by decide) ?_
    refine x_ireturn dX5_paysOf_79 rfl rfl ?_
    exact ⟨by simp_all [pys], rfl⟩
  by_cases h16_6 : s (12 + 7 * k + 0) = 6
  · refine x_tswC (q := 80) (k := 6) dX5_paysOf_16 h16_6 (by decide) (by decide) rfl (by decide) ?_
    refine x_iconst (q := 81) (v := 5) dX5_paysOf_80 rfl (by decide) ?_
    refine x_ireturn dX5_paysOf_81 rfl rfl ?_
    exact ⟨by simp_all [pys], rfl⟩
  refine x_tswD (q := 82) dX5_paysOf_16 (by have n1 := lv_neT h16_1 (a := 1) (by decide); have n2 := lv_neT h16_2 (a := 2) (by decide); have n3 := lv_neT h16_3 (a := 3) (by decide); have n4 := lv_neT h16_4 (a := 4) (by decide); have n5 := lv_neT h16_5 (a := 5) (by decide); have n6 := lv_neT h16_6 (a := 6) (by decide); omega) (by decide) ?_
  refine x_iload_n (q := 83) dX5_paysOf_82 rfl rfl ?_
  refine x_ireturn dX5_paysOf_83 rfl rfl ?_
  exact ⟨by simp_all [pys], rfl⟩
theorem dX5_delaysOf_0 : decode cX5_delaysOf 0 = .ok (.aload_n 0, 1) := by decide +kernel
theorem dX5_delaysOf_1 : decode cX5_delaysOf 1 = .ok (.iload_n 1, 1) := by decide +kernel
theorem dX5_delaysOf_2 : decode cX5_delaysOf 2 = .ok (.iconst 0, 1) := by decide +kernel
theorem dX5_delaysOf_3 : decode cX5_delaysOf 3 = .ok (.invokevirtual 52, 3) := by decide +kernel
theorem dX5_delaysOf_6 : decode cX5_delaysOf 6 = .ok (.istore_n 2, 1) := by decide +kernel
theorem dX5_delaysOf_7 : decode cX5_delaysOf 7 = .ok (.iload_n 2, 1) := by decide +kernel
theorem dX5_delaysOf_8 : decode cX5_delaysOf 8 = .ok (.iconst 3, 1) := by decide +kernel
theorem dX5_delaysOf_9 : decode cX5_delaysOf 9 = .ok (.if_icmp .ne 7, 3) := by decide +kernel
theorem dX5_delaysOf_12 : decode cX5_delaysOf 12 = .ok (.iconst 1, 1) := by decide +kernel
theorem dX5_delaysOf_13 : decode cX5_delaysOf 13 = .ok (.goto 13, 3) := by decide +kernel
theorem dX5_delaysOf_16 : decode cX5_delaysOf 16 = .ok (.iload_n 2, 1) := by decide +kernel
theorem dX5_delaysOf_17 : decode cX5_delaysOf 17 = .ok (.iconst 4, 1) := by decide +kernel
theorem dX5_delaysOf_18 : decode cX5_delaysOf 18 = .ok (.if_icmp .ne 7, 3) := by decide +kernel
theorem dX5_delaysOf_21 : decode cX5_delaysOf 21 = .ok (.iconst 2, 1) := by decide +kernel
theorem dX5_delaysOf_22 : decode cX5_delaysOf 22 = .ok (.goto 4, 3) := by decide +kernel
theorem dX5_delaysOf_25 : decode cX5_delaysOf 25 = .ok (.iconst 0, 1) := by decide +kernel
theorem dX5_delaysOf_26 : decode cX5_delaysOf 26 = .ok (.ireturn, 1) := by decide +kernel
set_option maxRecDepth 20000 in
set_option maxHeartbeats 4000000 in
theorem c_X5_delaysOf {K : Cx} {k : Nat} {s : Nat → Int32} {m : TM} (hk : k < 8) : CT yX5_delaysOf cX5_delaysOf 3 (some .int) 1 22 K [.ref 49, .int (nI k)] (sr m 50 s) (some (.int (dly (s (12 + 7 * k + 0))))) (sr m 50 s) := by
  refine ct_ofd (n := 1) (by decide +kernel) rfl rfl ?_
  show XX RX5 cX5_delaysOf 3 (some .int) 1 22 K 0 [some (.ref 49), some (.int (nI k)), none] [] (sr m 50 s) (fun r1 m1 => r1 = (some (.int (dly (s (12 + 7 * k + 0))))) ∧ m1 = sr m 50 s)
  refine x_aload_n (q := 1) dX5_delaysOf_0 rfl rfl ?_
  refine x_iload_n (q := 2) dX5_delaysOf_1 rfl rfl ?_
  refine x_iconst (q := 3) (v := 0) dX5_delaysOf_2 rfl (by decide) ?_
  refine x_callV2v (q := 6) dX5_delaysOf_3 rfl ml_X5_52 mv_X5_get rv5 rfl (c_X5_getr (f := 0) hk (by decide)) (Nat.le_of_ble_eq_true rfl) ⟨by decide, by decide⟩ ?_
  refine x_istore_n (q := 7) dX5_delaysOf_6 rfl (by decide) rfl rfl ?_
  refine x_iload_n (q := 8) dX5_delaysOf_7 rfl rfl ?_
  refine x_iconst (q := 9) (v := 3) dX5_delaysOf_8 rfl (by decide) ?_
  refine x_icmp_ne (q := 12) (t := 16) dX5_delaysOf_9 rfl (by decide) (fun h9 => ?_) (fun h9 => ?_)
  · refine x_iload_n (q := 17) dX5_delaysOf_16 rfl rfl ?_
    refine x_iconst (q := 18) (v := 4) dX5_delaysOf_17 rfl (by decide) ?_
    refine x_icmp_ne (q := 21) (t := 25) dX5_delaysOf_18 rfl (by decide) (fun h18 => ?_) (fun h18 => ?_)
    · refine x_iconst (q := 26) (v := 0) dX5_delaysOf_25 rfl (by decide) ?_
      refine x_ireturn dX5_delaysOf_26 rfl rfl ?_
      exact ⟨by simp_all [dly], rfl⟩
    refine x_iconst (q := 22) (v := 2) dX5_delaysOf_21 rfl (by decide) ?_
    refine x_goto (q := 26) dX5_delaysOf_22 (by decide) ?_
    refine x_ireturn dX5_delaysOf_26 rfl rfl ?_
    exact ⟨by simp_all [dly], rfl⟩
  refine x_iconst (q := 13) (v := 1) dX5_delaysOf_12 rfl (by decide) ?_
  refine x_goto (q := 26) dX5_delaysOf_13 (by decide) ?_
  refine x_ireturn dX5_delaysOf_26 rfl rfl ?_
  exact ⟨by simp_all [dly], rfl⟩
theorem dX5_tideNow_0 : decode cX5_tideNow 0 = .ok (.aload_n 0, 1) := by decide +kernel
theorem dX5_tideNow_1 : decode cX5_tideNow 1 = .ok (.getfield 9, 3) := by decide +kernel
theorem dX5_tideNow_4 : decode cX5_tideNow 4 = .ok (.bipush 6, 2) := by decide +kernel
theorem dX5_tideNow_6 : decode cX5_tideNow 6 = .ok (.aload_n 0, 1) := by decide +kernel
theorem dX5_tideNow_7 : decode cX5_tideNow 7 = .ok (.getfield 9, 3) := by decide +kernel
theorem dX5_tideNow_10 : decode cX5_tideNow 10 = .ok (.iconst 0, 1) := by decide +kernel
theorem dX5_tideNow_11 : decode cX5_tideNow 11 = .ok (.iaload, 1) := by decide +kernel
theorem dX5_tideNow_12 : decode cX5_tideNow 12 = .ok (.aload_n 0, 1) := by decide +kernel
theorem dX5_tideNow_13 : decode cX5_tideNow 13 = .ok (.getfield 9, 3) := by decide +kernel
theorem dX5_tideNow_16 : decode cX5_tideNow 16 = .ok (.iconst 4, 1) := by decide +kernel
theorem dX5_tideNow_17 : decode cX5_tideNow 17 = .ok (.iaload, 1) := by decide +kernel
theorem dX5_tideNow_18 : decode cX5_tideNow 18 = .ok (.iadd, 1) := by decide +kernel
theorem dX5_tideNow_19 : decode cX5_tideNow 19 = .ok (.bipush 6, 2) := by decide +kernel
theorem dX5_tideNow_21 : decode cX5_tideNow 21 = .ok (.irem, 1) := by decide +kernel
theorem dX5_tideNow_22 : decode cX5_tideNow 22 = .ok (.iadd, 1) := by decide +kernel
theorem dX5_tideNow_23 : decode cX5_tideNow 23 = .ok (.iaload, 1) := by decide +kernel
theorem dX5_tideNow_24 : decode cX5_tideNow 24 = .ok (.aload_n 0, 1) := by decide +kernel
theorem dX5_tideNow_25 : decode cX5_tideNow 25 = .ok (.getfield 9, 3) := by decide +kernel
theorem dX5_tideNow_28 : decode cX5_tideNow 28 = .ok (.iconst 5, 1) := by decide +kernel
theorem dX5_tideNow_29 : decode cX5_tideNow 29 = .ok (.iaload, 1) := by decide +kernel
theorem dX5_tideNow_30 : decode cX5_tideNow 30 = .ok (.iadd, 1) := by decide +kernel
theorem dX5_tideNow_31 : decode cX5_tideNow 31 = .ok (.ireturn, 1) := by decide +kernel
set_option maxRecDepth 20000 in
set_option maxHeartbeats 4000000 in
theorem c_X5_tideNow {K : Cx} {s : Nat → Int32} {m : TM} (ht : TD s) : CT yX5_tideNow cX5_tideNow 1 (some .int) 0 0 K [.ref 49] (sr m 50 s) (some (.int (tdF s))) (sr m 50 s) := by
  refine ct_ofd (n := 0) (by decide +kernel) rfl rfl ?_
  show XX RX5 cX5_tideNow 1 (some .int) 0 0 K 0 [some (.ref 49)] [] (sr m 50 s) (fun r1 m1 => r1 = (some (.int (tdF s))) ∧ m1 = sr m 50 s)
  refine x_aload_n (q := 1) dX5_tideNow_0 rfl rfl ?_
  refine x_getR (q := 4) dX5_tideNow_1 rfl fl_X5_9 (or5_s) ?_
  refine x_bipush (q := 6) (v := 6) dX5_tideNow_4 rfl (by decide) ?_
  refine x_aload_n (q := 7) dX5_tideNow_6 rfl rfl ?_
  refine x_getR (q := 10) dX5_tideNow_7 rfl fl_X5_9 (or5_s) ?_
  refine x_iconst (q := 11) (v := 0) dX5_tideNow_10 rfl (by decide) ?_
  refine x_ialdr (q := 12) dX5_tideNow_11 rfl (ar_50) (ix_nI (k := 0) (by decide) (by decide)) (Nat.zero_add _) ?_
  refine x_aload_n (q := 13) dX5_tideNow_12 rfl rfl ?_
  refine x_getR (q := 16) dX5_tideNow_13 rfl fl_X5_9 (or5_s) ?_
  refine x_iconst (q := 17) (v := 4) dX5_tideNow_16 rfl (by decide) ?_
  refine x_ialdr (q := 18) dX5_tideNow_17 rfl (ar_50) (ix_nI (k := 4) (by decide) (by decide)) (Nat.zero_add _) ?_
  refine x_iadd (q := 19) dX5_tideNow_18 rfl ?_
  refine x_bipush (q := 21) (v := 6) dX5_tideNow_19 rfl (by decide) ?_
  refine x_irem (q := 22) dX5_tideNow_21 rfl (by decide) ?_
  refine x_iadd (q := 23) dX5_tideNow_22 rfl ?_
  refine x_ialdr (q := 24) dX5_tideNow_23 rfl (ar_50) (ix_td ht) (Nat.zero_add _) ?_
  refine x_aload_n (q := 25) dX5_tideNow_24 rfl rfl ?_
  refine x_getR (q := 28) dX5_tideNow_25 rfl fl_X5_9 (or5_s) ?_
  refine x_iconst (q := 29) (v := 5) dX5_tideNow_28 rfl (by decide) ?_
  refine x_ialdr (q := 30) dX5_tideNow_29 rfl (ar_50) (ix_nI (k := 5) (by decide) (by decide)) (Nat.zero_add _) ?_
  refine x_iadd (q := 31) dX5_tideNow_30 rfl ?_
  refine x_ireturn dX5_tideNow_31 rfl rfl ?_
  exact ⟨rfl, rfl⟩
theorem dX5_meetsTide_0 : decode cX5_meetsTide 0 = .ok (.aload_n 0, 1) := by decide +kernel
theorem dX5_meetsTide_1 : decode cX5_meetsTide 1 = .ok (.iload_n 1, 1) := by decide +kernel
theorem dX5_meetsTide_2 : decode cX5_meetsTide 2 = .ok (.iconst 5, 1) := by decide +kernel
theorem dX5_meetsTide_3 : decode cX5_meetsTide 3 = .ok (.invokevirtual 52, 3) := by decide +kernel
theorem dX5_meetsTide_6 : decode cX5_meetsTide 6 = .ok (.iconst 1, 1) := by decide +kernel
theorem dX5_meetsTide_7 : decode cX5_meetsTide 7 = .ok (.if_icmp .ne 4, 3) := by decide +kernel
theorem dX5_meetsTide_10 : decode cX5_meetsTide 10 = .ok (.return_, 1) := by decide +kernel
theorem dX5_meetsTide_11 : decode cX5_meetsTide 11 = .ok (.aload_n 0, 1) := by decide +kernel
theorem dX5_meetsTide_12 : decode cX5_meetsTide 12 = .ok (.iload_n 1, 1) := by decide +kernel
theorem dX5_meetsTide_13 : decode cX5_meetsTide 13 = .ok (.iload_n 2, 1) := by decide +kernel
theorem dX5_meetsTide_14 : decode cX5_meetsTide 14 = .ok (.invokevirtual 56, 3) := by decide +kernel
theorem dX5_meetsTide_17 : decode cX5_meetsTide 17 = .ok (.ifCond .eq 60, 3) := by decide +kernel
theorem dX5_meetsTide_20 : decode cX5_meetsTide 20 = .ok (.aload_n 0, 1) := by decide +kernel
theorem dX5_meetsTide_21 : decode cX5_meetsTide 21 = .ok (.iload_n 1, 1) := by decide +kernel
theorem dX5_meetsTide_22 : decode cX5_meetsTide 22 = .ok (.iconst 4, 1) := by decide +kernel
theorem dX5_meetsTide_23 : decode cX5_meetsTide 23 = .ok (.iconst 1, 1) := by decide +kernel
theorem dX5_meetsTide_24 : decode cX5_meetsTide 24 = .ok (.invokevirtual 60, 3) := by decide +kernel
theorem dX5_meetsTide_27 : decode cX5_meetsTide 27 = .ok (.aload_n 0, 1) := by decide +kernel
theorem dX5_meetsTide_28 : decode cX5_meetsTide 28 = .ok (.getfield 9, 3) := by decide +kernel
theorem dX5_meetsTide_31 : decode cX5_meetsTide 31 = .ok (.iconst 3, 1) := by decide +kernel
theorem dX5_meetsTide_32 : decode cX5_meetsTide 32 = .ok (.ldc 64, 2) := by decide +kernel
theorem dX5_meetsTide_34 : decode cX5_meetsTide 34 = .ok (.aload_n 0, 1) := by decide +kernel
theorem dX5_meetsTide_35 : decode cX5_meetsTide 35 = .ok (.getfield 9, 3) := by decide +kernel
theorem dX5_meetsTide_38 : decode cX5_meetsTide 38 = .ok (.iconst 3, 1) := by decide +kernel
theorem dX5_meetsTide_39 : decode cX5_meetsTide 39 = .ok (.iaload, 1) := by decide +kernel
theorem dX5_meetsTide_40 : decode cX5_meetsTide 40 = .ok (.aload_n 0, 1) := by decide +kernel
theorem dX5_meetsTide_41 : decode cX5_meetsTide 41 = .ok (.iload_n 1, 1) := by decide +kernel
theorem dX5_meetsTide_42 : decode cX5_meetsTide 42 = .ok (.invokevirtual 65, 3) := by decide +kernel
theorem dX5_meetsTide_45 : decode cX5_meetsTide 45 = .ok (.iadd, 1) := by decide +kernel
theorem dX5_meetsTide_46 : decode cX5_meetsTide 46 = .ok (.invokestatic 69, 3) := by decide +kernel
theorem dX5_meetsTide_49 : decode cX5_meetsTide 49 = .ok (.iastore, 1) := by decide +kernel
theorem dX5_meetsTide_50 : decode cX5_meetsTide 50 = .ok (.aload_n 0, 1) := by decide +kernel
theorem dX5_meetsTide_51 : decode cX5_meetsTide 51 = .ok (.getfield 9, 3) := by decide +kernel
theorem dX5_meetsTide_54 : decode cX5_meetsTide 54 = .ok (.iconst 4, 1) := by decide +kernel
theorem dX5_meetsTide_55 : decode cX5_meetsTide 55 = .ok (.sipush 9999, 3) := by decide +kernel
theorem dX5_meetsTide_58 : decode cX5_meetsTide 58 = .ok (.aload_n 0, 1) := by decide +kernel
theorem dX5_meetsTide_59 : decode cX5_meetsTide 59 = .ok (.getfield 9, 3) := by decide +kernel
theorem dX5_meetsTide_62 : decode cX5_meetsTide 62 = .ok (.iconst 4, 1) := by decide +kernel
theorem dX5_meetsTide_63 : decode cX5_meetsTide 63 = .ok (.iaload, 1) := by decide +kernel
theorem dX5_meetsTide_64 : decode cX5_meetsTide 64 = .ok (.aload_n 0, 1) := by decide +kernel
theorem dX5_meetsTide_65 : decode cX5_meetsTide 65 = .ok (.iload_n 1, 1) := by decide +kernel
theorem dX5_meetsTide_66 : decode cX5_meetsTide 66 = .ok (.invokevirtual 72, 3) := by decide +kernel
theorem dX5_meetsTide_69 : decode cX5_meetsTide 69 = .ok (.iadd, 1) := by decide +kernel
theorem dX5_meetsTide_70 : decode cX5_meetsTide 70 = .ok (.invokestatic 69, 3) := by decide +kernel
theorem dX5_meetsTide_73 : decode cX5_meetsTide 73 = .ok (.iastore, 1) := by decide +kernel
theorem dX5_meetsTide_74 : decode cX5_meetsTide 74 = .ok (.goto 64, 3) := by decide +kernel
theorem dX5_meetsTide_77 : decode cX5_meetsTide 77 = .ok (.iload_n 2, 1) := by decide +kernel
theorem dX5_meetsTide_78 : decode cX5_meetsTide 78 = .ok (.ifCond .le 60, 3) := by decide +kernel
theorem dX5_meetsTide_81 : decode cX5_meetsTide 81 = .ok (.iload_n 2, 1) := by decide +kernel
theorem dX5_meetsTide_82 : decode cX5_meetsTide 82 = .ok (.aload_n 0, 1) := by decide +kernel
theorem dX5_meetsTide_83 : decode cX5_meetsTide 83 = .ok (.iload_n 1, 1) := by decide +kernel
theorem dX5_meetsTide_84 : decode cX5_meetsTide 84 = .ok (.iconst 1, 1) := by decide +kernel
theorem dX5_meetsTide_85 : decode cX5_meetsTide 85 = .ok (.invokevirtual 52, 3) := by decide +kernel
theorem dX5_meetsTide_88 : decode cX5_meetsTide 88 = .ok (.iconst 3, 1) := by decide +kernel
theorem dX5_meetsTide_89 : decode cX5_meetsTide 89 = .ok (.isub, 1) := by decide +kernel
theorem dX5_meetsTide_90 : decode cX5_meetsTide 90 = .ok (.if_icmp .lt 48, 3) := by decide +kernel
theorem dX5_meetsTide_93 : decode cX5_meetsTide 93 = .ok (.aload_n 0, 1) := by decide +kernel
theorem dX5_meetsTide_94 : decode cX5_meetsTide 94 = .ok (.iload_n 1, 1) := by decide +kernel
theorem dX5_meetsTide_95 : decode cX5_meetsTide 95 = .ok (.bipush 6, 2) := by decide +kernel
theorem dX5_meetsTide_97 : decode cX5_meetsTide 97 = .ok (.sipush 9999, 3) := by decide +kernel
theorem dX5_meetsTide_100 : decode cX5_meetsTide 100 = .ok (.aload_n 0, 1) := by decide +kernel
theorem dX5_meetsTide_101 : decode cX5_meetsTide 101 = .ok (.iload_n 1, 1) := by decide +kernel
theorem dX5_meetsTide_102 : decode cX5_meetsTide 102 = .ok (.bipush 6, 2) := by decide +kernel
theorem dX5_meetsTide_104 : decode cX5_meetsTide 104 = .ok (.invokevirtual 52, 3) := by decide +kernel
theorem dX5_meetsTide_107 : decode cX5_meetsTide 107 = .ok (.iconst 1, 1) := by decide +kernel
theorem dX5_meetsTide_108 : decode cX5_meetsTide 108 = .ok (.iadd, 1) := by decide +kernel
theorem dX5_meetsTide_109 : decode cX5_meetsTide 109 = .ok (.invokestatic 69, 3) := by decide +kernel
theorem dX5_meetsTide_112 : decode cX5_meetsTide 112 = .ok (.invokevirtual 60, 3) := by decide +kernel
theorem dX5_meetsTide_115 : decode cX5_meetsTide 115 = .ok (.aload_n 0, 1) := by decide +kernel
theorem dX5_meetsTide_116 : decode cX5_meetsTide 116 = .ok (.iload_n 1, 1) := by decide +kernel
theorem dX5_meetsTide_117 : decode cX5_meetsTide 117 = .ok (.iconst 1, 1) := by decide +kernel
theorem dX5_meetsTide_118 : decode cX5_meetsTide 118 = .ok (.bipush 20, 2) := by decide +kernel
theorem dX5_meetsTide_120 : decode cX5_meetsTide 120 = .ok (.aload_n 0, 1) := by decide +kernel
theorem dX5_meetsTide_121 : decode cX5_meetsTide 121 = .ok (.iload_n 1, 1) := by decide +kernel
theorem dX5_meetsTide_122 : decode cX5_meetsTide 122 = .ok (.iconst 1, 1) := by decide +kernel
theorem dX5_meetsTide_123 : decode cX5_meetsTide 123 = .ok (.invokevirtual 52, 3) := by decide +kernel
theorem dX5_meetsTide_126 : decode cX5_meetsTide 126 = .ok (.aload_n 0, 1) := by decide +kernel
theorem dX5_meetsTide_127 : decode cX5_meetsTide 127 = .ok (.iload_n 1, 1) := by decide +kernel
theorem dX5_meetsTide_128 : decode cX5_meetsTide 128 = .ok (.invokevirtual 75, 3) := by decide +kernel
theorem dX5_meetsTide_131 : decode cX5_meetsTide 131 = .ok (.iadd, 1) := by decide +kernel
theorem dX5_meetsTide_132 : decode cX5_meetsTide 132 = .ok (.invokestatic 69, 3) := by decide +kernel
theorem dX5_meetsTide_135 : decode cX5_meetsTide 135 = .ok (.invokevirtual 60, 3) := by decide +kernel
theorem dX5_meetsTide_138 : decode cX5_meetsTide 138 = .ok (.return_, 1) := by decide +kernel
set_option maxRecDepth 20000 in
set_option maxHeartbeats 4000000 in
theorem c_X5_meetsTide {K : Cx} {k : Nat} {t : Int32} {s : Nat → Int32} {m : TM} (hk : k < 8) (hkd : ∃ c, c ≤ 6 ∧ s (12 + 7 * k + 0) = nI c) : CT yX5_meetsTide cX5_meetsTide 3 none 2 47 K [.ref 49, .int (nI k), .int t] (sr m 50 s) none (sr m 50 (if s (12 + 7 * k + 5) = 1 then s else meF s k t)) := by
  refine ct_ofd (n := 0) (by decide +kernel) rfl rfl ?_
  show XX RX5 cX5_meetsTide 3 none 2 47 K 0 [some (.ref 49), some (.int (nI k)), some (.int t)] [] (sr m 50 s) (fun r1 m1 => r1 = none ∧ m1 = sr m 50 (if s (12 + 7 * k + 5) = 1 then s else meF s k t))
  refine x_aload_n (q := 1) dX5_meetsTide_0 rfl rfl ?_
  refine x_iload_n (q := 2) dX5_meetsTide_1 rfl rfl ?_
  refine x_iconst (q := 3) (v := 5) dX5_meetsTide_2 rfl (by decide) ?_
  refine x_callV2v (q := 6) dX5_meetsTide_3 rfl ml_X5_52 mv_X5_get rv5 rfl (c_X5_getr (f := 5) hk (by decide)) (Nat.le_of_ble_eq_true rfl) ⟨by decide, by decide⟩ ?_
  refine x_iconst (q := 7) (v := 1) dX5_meetsTide_6 rfl (by decide) ?_
  refine x_icmp_ne (q := 10) (t := 11) dX5_meetsTide_7 rfl (by decide) (fun h7 => ?_) (fun h7 => ?_)
  · refine x_aload_n (q := 12) dX5_meetsTide_11 rfl rfl ?_
    refine x_iload_n (q := 13) dX5_meetsTide_12 rfl rfl ?_
    refine x_iload_n (q := 14) dX5_meetsTide_13 rfl rfl ?_
    refine x_callV2v (q := 17) dX5_meetsTide_14 rfl ml_X5_56 mv_X5_isSigned rv5 rfl (c_X5_isSigned hk) (Nat.le_of_ble_eq_true rfl) ⟨by decide, by decide⟩ ?_
    refine x_ifB_eq (q := 20) (t := 77) dX5_meetsTide_17 rfl (by decide) (fun h17 => ?_) (fun h17 => ?_)
    · refine x_iload_n (q := 78) dX5_meetsTide_77 rfl rfl ?_
      refine x_if_le (q := 81) (t := 138) dX5_meetsTide_78 rfl (by decide) (fun h78 => ?_) (fun h78 => ?_)
      · refine x_return dX5_meetsTide_138 rfl ?_
        refine ⟨rfl, ?_⟩
        rw [if_neg h7, meF, if_neg (by rw [h17]; exact Bool.false_ne_true)]
        rw [if_neg (by simp [tch, h78])]
      refine x_iload_n (q := 82) dX5_meetsTide_81 rfl rfl ?_
      refine x_aload_n (q := 83) dX5_meetsTide_82 rfl rfl ?_
      refine x_iload_n (q := 84) dX5_meetsTide_83 rfl rfl ?_
      refine x_iconst (q := 85) (v := 1) dX5_meetsTide_84 rfl (by decide) ?_
      refine x_callV2v (q := 88) dX5_meetsTide_85 rfl ml_X5_52 mv_X5_get rv5 rfl (c_X5_getr (f := 1) hk (by decide)) (Nat.le_of_ble_eq_true rfl) ⟨by decide, by decide⟩ ?_
      refine x_iconst (q := 89) (v := 3) dX5_meetsTide_88 rfl (by decide) ?_
      refine x_isub (q := 90) dX5_meetsTide_89 rfl ?_
      refine x_icmp_lt (q := 93) (t := 138) dX5_meetsTide_90 rfl (by decide) (fun h90 => ?_) (fun h90 => ?_)
      · refine x_return dX5_meetsTide_138 rfl ?_
        refine ⟨rfl, ?_⟩
        rw [if_neg h7, meF, if_neg (by rw [h17]; exact Bool.false_ne_true)]
        rw [if_neg (by simp [tch, h90])]
      refine x_aload_n (q := 94) dX5_meetsTide_93 rfl rfl ?_
      refine x_iload_n (q := 95) dX5_meetsTide_94 rfl rfl ?_
      refine x_bipush (q := 97) (v := 6) dX5_meetsTide_95 rfl (by decide) ?_
      refine x_sipush (q := 100) (v := 9999) dX5_meetsTide_97 rfl (by decide) ?_
      refine x_aload_n (q := 101) dX5_meetsTide_100 rfl rfl ?_
      refine x_iload_n (q := 102) dX5_meetsTide_101 rfl rfl ?_
      refine x_bipush (q := 104) (v := 6) dX5_meetsTide_102 rfl (by decide) ?_
      refine x_callV2v (q := 107) dX5_meetsTide_104 rfl ml_X5_52 mv_X5_get rv5 rfl (c_X5_getr (f := 6) hk (by decide)) (Nat.le_of_ble_eq_true rfl) ⟨by decide, by decide⟩ ?_
      refine x_iconst (q := 108) (v := 1) dX5_meetsTide_107 rfl (by decide) ?_
      refine x_iadd (q := 109) dX5_meetsTide_108 rfl ?_
      refine x_callS2v (q := 112) dX5_meetsTide_109 rfl ml_X5_69 ms_X5_less c_X5_less (Nat.le_of_ble_eq_true rfl) ⟨by decide, by decide⟩ ?_
      refine x_callV3n (q := 115) dX5_meetsTide_112 rfl ml_X5_60 mv_X5_puts rv5 rfl (c_X5_putsr (f := 6) hk (by decide)) (Nat.le_of_ble_eq_true rfl) ⟨by decide, by decide⟩ ?_
      refine x_aload_n (q := 116) dX5_meetsTide_115 rfl rfl ?_
      refine x_iload_n (q := 117) dX5_meetsTide_116 rfl rfl ?_
      refine x_iconst (q := 118) (v := 1) dX5_meetsTide_117 rfl (by decide) ?_
      refine x_bipush (q := 120) (v := 20) dX5_meetsTide_118 rfl (by decide) ?_
      refine x_aload_n (q := 121) dX5_meetsTide_120 rfl rfl ?_
      refine x_iload_n (q := 122) dX5_meetsTide_121 rfl rfl ?_
      refine x_iconst (q := 123) (v := 1) dX5_meetsTide_122 rfl (by decide) ?_
      refine x_callV2v (q := 126) dX5_meetsTide_123 rfl ml_X5_52 mv_X5_get rv5 rfl (c_X5_getr (f := 1) hk (by decide)) (Nat.le_of_ble_eq_true rfl) ⟨by decide, by decide⟩ ?_
      refine x_aload_n (q := 127) dX5_meetsTide_126 rfl rfl ?_
      refine x_iload_n (q := 128) dX5_meetsTide_127 rfl rfl ?_
      refine x_callV1v (q := 131) dX5_meetsTide_128 rfl ml_X5_75 mv_X5_movesOf rv5 rfl (c_X5_movesOf hk) (Nat.le_of_ble_eq_true rfl) ⟨by decide, by decide⟩ ?_
      refine x_iadd (q := 132) dX5_meetsTide_131 rfl ?_
      refine x_callS2v (q := 135) dX5_meetsTide_132 rfl ml_X5_69 ms_X5_less c_X5_less (Nat.le_of_ble_eq_true rfl) ⟨by decide, by decide⟩ ?_
      refine x_callV3n (q := 138) dX5_meetsTide_135 rfl ml_X5_60 mv_X5_puts rv5 rfl (c_X5_putsr (f := 1) hk (by decide)) (Nat.le_of_ble_eq_true rfl) ⟨by decide, by decide⟩ ?_
      refine x_return dX5_meetsTide_138 rfl ?_
      refine ⟨rfl, ?_⟩
      rw [if_neg h7, meF, if_neg (by rw [h17]; exact Bool.false_ne_true)]
      rw [if_pos (by simp [tch, h78, h90])]
      obtain ⟨c, hc, ec⟩ := hkd
      have e1 : upd s (12 + 7 * k + 6) (minI (s (12 + 7 * k + 6) + 1) 9999) (12 + 7 * k + 1) = s (12 + 7 * k + 1) := upd_ne (by omega)
      have e2 : upd s (12 + 7 * k + 6) (minI (s (12 + 7 * k + 6) + 1) 9999) (12 + 7 * k + 0) = s (12 + 7 * k + 0) := upd_ne (by omega)
      rw [e1, e2, ec, mv_eq hc, ← ec, trn]
    refine x_aload_n (q := 21) dX5_meetsTide_20 rfl rfl ?_
    refine x_iload_n (q := 22) dX5_meetsTide_21 rfl rfl ?_
    refine x_iconst (q := 23) (v := 4) dX5_meetsTide_22 rfl (by decide) ?_
    refine x_iconst (q := 24) (v := 1) dX5_meetsTide_23 rfl (by decide) ?_
    refine x_callV3n (q := 27) dX5_meetsTide_24 rfl ml_X5_60 mv_X5_puts rv5 rfl (c_X5_putsr (f := 4) hk (by decide)) (Nat.le_of_ble_eq_true rfl) ⟨by decide, by decide⟩ ?_
    refine x_aload_n (q := 28) dX5_meetsTide_27 rfl rfl ?_
    refine x_getR (q := 31) dX5_meetsTide_28 rfl fl_X5_9 (or5_s) ?_
    refine x_iconst (q := 32) (v := 3) dX5_meetsTide_31 rfl (by decide) ?_
    refine x_ldc (q := 34) dX5_meetsTide_32 rfl kc_X5_64 ?_
    refine x_aload_n (q := 35) dX5_meetsTide_34 rfl rfl ?_
    refine x_getR (q := 38) dX5_meetsTide_35 rfl fl_X5_9 (or5_s) ?_
    refine x_iconst (q := 39) (v := 3) dX5_meetsTide_38 rfl (by decide) ?_
    refine x_ialdr (q := 40) dX5_meetsTide_39 rfl (ar_50) (ix_nI (k := 3) (by decide) (by decide)) (Nat.zero_add _) ?_
    refine x_aload_n (q := 41) dX5_meetsTide_40 rfl rfl ?_
    refine x_iload_n (q := 42) dX5_meetsTide_41 rfl rfl ?_
    refine x_callV1v (q := 45) dX5_meetsTide_42 rfl ml_X5_65 mv_X5_paysOf rv5 rfl (c_X5_paysOf hk) (Nat.le_of_ble_eq_true rfl) ⟨by decide, by decide⟩ ?_
    refine x_iadd (q := 46) dX5_meetsTide_45 rfl ?_
    refine x_callS2v (q := 49) dX5_meetsTide_46 rfl ml_X5_69 ms_X5_less c_X5_less (Nat.le_of_ble_eq_true rfl) ⟨by decide, by decide⟩ ?_
    refine x_iastr (q := 50) dX5_meetsTide_49 rfl (ar_50) (ix_nI (k := 3) (by decide) (by decide)) (Nat.zero_add _)  ?_
    refine x_aload_n (q := 51) dX5_meetsTide_50 rfl rfl ?_
    refine x_getR (q := 54) dX5_meetsTide_51 rfl fl_X5_9 (or5_s) ?_
    refine x_iconst (q := 55) (v := 4) dX5_meetsTide_54 rfl (by decide) ?_
    refine x_sipush (q := 58) (v := 9999) dX5_meetsTide_55 rfl (by decide) ?_
    refine x_aload_n (q := 59) dX5_meetsTide_58 rfl rfl ?_
    refine x_getR (q := 62) dX5_meetsTide_59 rfl fl_X5_9 (or5_s) ?_
    refine x_iconst (q := 63) (v := 4) dX5_meetsTide_62 rfl (by decide) ?_
    refine x_ialdr (q := 64) dX5_meetsTide_63 rfl (ar_50) (ix_nI (k := 4) (by decide) (by decide)) (Nat.zero_add _) ?_
    refine x_aload_n (q := 65) dX5_meetsTide_64 rfl rfl ?_
    refine x_iload_n (q := 66) dX5_meetsTide_65 rfl rfl ?_
    refine x_callV1v (q := 69) dX5_meetsTide_66 rfl ml_X5_72 mv_X5_delaysOf rv5 rfl (c_X5_delaysOf hk) (Nat.le_of_ble_eq_true rfl) ⟨by decide, by decide⟩ ?_
    refine x_iadd (q := 70) dX5_meetsTide_69 rfl ?_
    refine x_callS2v (q := 73) dX5_meetsTide_70 rfl ml_X5_69 ms_X5_less c_X5_less (Nat.le_of_ble_eq_true rfl) ⟨by decide, by decide⟩ ?_
    refine x_iastr (q := 74) dX5_meetsTide_73 rfl (ar_50) (ix_nI (k := 4) (by decide) (by decide)) (Nat.zero_add _)  ?_
    refine x_goto (q := 138) dX5_meetsTide_74 (by decide) ?_
    refine x_return dX5_meetsTide_138 rfl ?_
    refine ⟨rfl, ?_⟩
    have e1 : upd s (12 + 7 * k + 4) 1 3 = s 3 := upd_ne (by omega)
    have e2 : upd s (12 + 7 * k + 4) 1 (12 + 7 * k + 0) = s (12 + 7 * k + 0) := upd_ne (by omega)
    have e3 : upd s (12 + 7 * k + 4) 1 (12 + 7 * k + 2) = s (12 + 7 * k + 2) := upd_ne (by omega)
    rw [if_neg h7, meF, if_pos h17, e1, e2, e3]
    rw [upd_ne (i := 3) (j := 4) (by decide), upd_ne (i := 12 + 7 * k + 4) (j := 4) (by omega), upd_ne (i := 3) (j := 12 + 7 * k + 0) (by omega), e2]
  refine x_return dX5_meetsTide_10 rfl ?_
  refine ⟨rfl, ?_⟩
  rw [if_pos h7]
theorem dX5_waitsOn_0 : decode cX5_waitsOn 0 = .ok (.aload_n 0, 1) := by decide +kernel
theorem dX5_waitsOn_1 : decode cX5_waitsOn 1 = .ok (.iload_n 1, 1) := by decide +kernel
theorem dX5_waitsOn_2 : decode cX5_waitsOn 2 = .ok (.iconst 3, 1) := by decide +kernel
theorem dX5_waitsOn_3 : decode cX5_waitsOn 3 = .ok (.sipush 9999, 3) := by decide +kernel
theorem dX5_waitsOn_6 : decode cX5_waitsOn 6 = .ok (.aload_n 0, 1) := by decide +kernel
theorem dX5_waitsOn_7 : decode cX5_waitsOn 7 = .ok (.iload_n 1, 1) := by decide +kernel
theorem dX5_waitsOn_8 : decode cX5_waitsOn 8 = .ok (.iconst 3, 1) := by decide +kernel
theorem dX5_waitsOn_9 : decode cX5_waitsOn 9 = .ok (.invokevirtual 52, 3) := by decide +kernel
theorem dX5_waitsOn_12 : decode cX5_waitsOn 12 = .ok (.iconst 1, 1) := by decide +kernel
theorem dX5_waitsOn_13 : decode cX5_waitsOn 13 = .ok (.iadd, 1) := by decide +kernel
theorem dX5_waitsOn_14 : decode cX5_waitsOn 14 = .ok (.invokestatic 69, 3) := by decide +kernel
theorem dX5_waitsOn_17 : decode cX5_waitsOn 17 = .ok (.invokevirtual 60, 3) := by decide +kernel
theorem dX5_waitsOn_20 : decode cX5_waitsOn 20 = .ok (.aload_n 0, 1) := by decide +kernel
theorem dX5_waitsOn_21 : decode cX5_waitsOn 21 = .ok (.iload_n 1, 1) := by decide +kernel
theorem dX5_waitsOn_22 : decode cX5_waitsOn 22 = .ok (.iconst 4, 1) := by decide +kernel
theorem dX5_waitsOn_23 : decode cX5_waitsOn 23 = .ok (.aload_n 0, 1) := by decide +kernel
theorem dX5_waitsOn_24 : decode cX5_waitsOn 24 = .ok (.iload_n 1, 1) := by decide +kernel
theorem dX5_waitsOn_25 : decode cX5_waitsOn 25 = .ok (.iconst 3, 1) := by decide +kernel
theorem dX5_waitsOn_26 : decode cX5_waitsOn 26 = .ok (.invokevirtual 52, 3) := by decide +kernel
theorem dX5_waitsOn_29 : decode cX5_waitsOn 29 = .ok (.aload_n 0, 1) := by decide +kernel
theorem dX5_waitsOn_30 : decode cX5_waitsOn 30 = .ok (.iload_n 1, 1) := by decide +kernel
theorem dX5_waitsOn_31 : decode cX5_waitsOn 31 = .ok (.invokevirtual 78, 3) := by decide +kernel
theorem dX5_waitsOn_34 : decode cX5_waitsOn 34 = .ok (.if_icmp .le 7, 3) := by decide +kernel
theorem dX5_waitsOn_37 : decode cX5_waitsOn 37 = .ok (.iconst 2, 1) := by decide +kernel
theorem dX5_waitsOn_38 : decode cX5_waitsOn 38 = .ok (.goto 4, 3) := by decide +kernel
theorem dX5_waitsOn_41 : decode cX5_waitsOn 41 = .ok (.iconst 0, 1) := by decide +kernel
theorem dX5_waitsOn_42 : decode cX5_waitsOn 42 = .ok (.invokevirtual 60, 3) := by decide +kernel
theorem dX5_waitsOn_45 : decode cX5_waitsOn 45 = .ok (.return_, 1) := by decide +kernel
set_option maxRecDepth 20000 in
set_option maxHeartbeats 4000000 in
theorem c_X5_waitsOn {K : Cx} {k : Nat} {s : Nat → Int32} {m : TM} (hk : k < 8) (hf : s (12 + 7 * k + 4) = 0) : CT yX5_waitsOn cX5_waitsOn 2 none 2 43 K [.ref 49, .int (nI k)] (sr m 50 s) none (sr m 50 (wat s k)) := by
  refine ct_ofd (n := 0) (by decide +kernel) rfl rfl ?_
  show XX RX5 cX5_waitsOn 2 none 2 43 K 0 [some (.ref 49), some (.int (nI k))] [] (sr m 50 s) (fun r1 m1 => r1 = none ∧ m1 = sr m 50 (wat s k))
  refine x_aload_n (q := 1) dX5_waitsOn_0 rfl rfl ?_
  refine x_iload_n (q := 2) dX5_waitsOn_1 rfl rfl ?_
  refine x_iconst (q := 3) (v := 3) dX5_waitsOn_2 rfl (by decide) ?_
  refine x_sipush (q := 6) (v := 9999) dX5_waitsOn_3 rfl (by decide) ?_
  refine x_aload_n (q := 7) dX5_waitsOn_6 rfl rfl ?_
  refine x_iload_n (q := 8) dX5_waitsOn_7 rfl rfl ?_
  refine x_iconst (q := 9) (v := 3) dX5_waitsOn_8 rfl (by decide) ?_
  refine x_callV2v (q := 12) dX5_waitsOn_9 rfl ml_X5_52 mv_X5_get rv5 rfl (c_X5_getr (f := 3) hk (by decide)) (Nat.le_of_ble_eq_true rfl) ⟨by decide, by decide⟩ ?_
  refine x_iconst (q := 13) (v := 1) dX5_waitsOn_12 rfl (by decide) ?_
  refine x_iadd (q := 14) dX5_waitsOn_13 rfl ?_
  refine x_callS2v (q := 17) dX5_waitsOn_14 rfl ml_X5_69 ms_X5_less c_X5_less (Nat.le_of_ble_eq_true rfl) ⟨by decide, by decide⟩ ?_
  refine x_callV3n (q := 20) dX5_waitsOn_17 rfl ml_X5_60 mv_X5_puts rv5 rfl (c_X5_putsr (f := 3) hk (by decide)) (Nat.le_of_ble_eq_true rfl) ⟨by decide, by decide⟩ ?_
  refine x_aload_n (q := 21) dX5_waitsOn_20 rfl rfl ?_
  refine x_iload_n (q := 22) dX5_waitsOn_21 rfl rfl ?_
  refine x_iconst (q := 23) (v := 4) dX5_waitsOn_22 rfl (by decide) ?_
  refine x_aload_n (q := 24) dX5_waitsOn_23 rfl rfl ?_
  refine x_iload_n (q := 25) dX5_waitsOn_24 rfl rfl ?_
  refine x_iconst (q := 26) (v := 3) dX5_waitsOn_25 rfl (by decide) ?_
  refine x_callV2v (q := 29) dX5_waitsOn_26 rfl ml_X5_52 mv_X5_get rv5 rfl (c_X5_getr (f := 3) hk (by decide)) (Nat.le_of_ble_eq_true rfl) ⟨by decide, by decide⟩ ?_
  refine x_aload_n (q := 30) dX5_waitsOn_29 rfl rfl ?_
  refine x_iload_n (q := 31) dX5_waitsOn_30 rfl rfl ?_
  refine x_callV1v (q := 34) dX5_waitsOn_31 rfl ml_X5_78 mv_X5_lastsOf rv5 rfl (c_X5_lastsOf hk) (Nat.le_of_ble_eq_true rfl) ⟨by decide, by decide⟩ ?_
  refine x_icmp_le (q := 37) (t := 41) dX5_waitsOn_34 rfl (by decide) (fun h34 => ?_) (fun h34 => ?_)
  · refine x_iconst (q := 42) (v := 0) dX5_waitsOn_41 rfl (by decide) ?_
    refine x_callV3n (q := 45) dX5_waitsOn_42 rfl ml_X5_60 mv_X5_puts rv5 rfl (c_X5_putsr (f := 4) hk (by decide)) (Nat.le_of_ble_eq_true rfl) ⟨by decide, by decide⟩ ?_
    refine x_return dX5_waitsOn_45 rfl ?_
    refine ⟨rfl, ?_⟩
    have e1 : upd s (12 + 7 * k + 3) (minI (s (12 + 7 * k + 3) + 1) 9999) (12 + 7 * k + 0) = s (12 + 7 * k + 0) := upd_ne (by omega)
    rw [upd_self, e1] at h34
    rw [wat, if_neg (Int32.not_lt.mpr h34), upd_same]
    rw [upd_ne (by omega), hf]
  refine x_iconst (q := 38) (v := 2) dX5_waitsOn_37 rfl (by decide) ?_
  refine x_goto (q := 42) dX5_waitsOn_38 (by decide) ?_
  refine x_callV3n (q := 45) dX5_waitsOn_42 rfl ml_X5_60 mv_X5_puts rv5 rfl (c_X5_putsr (f := 4) hk (by decide)) (Nat.le_of_ble_eq_true rfl) ⟨by decide, by decide⟩ ?_
  refine x_return dX5_waitsOn_45 rfl ?_
  refine ⟨rfl, ?_⟩
  have e1 : upd s (12 + 7 * k + 3) (minI (s (12 + 7 * k + 3) + 1) 9999) (12 + 7 * k + 0) = s (12 + 7 * k + 0) := upd_ne (by omega)
  rw [upd_self, e1] at h34
  rw [wat, if_pos (Int32.not_le.mp h34)]
theorem dX5_day_0 : decode cX5_day 0 = .ok (.aload_n 0, 1) := by decide +kernel
theorem dX5_day_1 : decode cX5_day 1 = .ok (.invokevirtual 81, 3) := by decide +kernel
theorem dX5_day_4 : decode cX5_day 4 = .ok (.istore_n 1, 1) := by decide +kernel
theorem dX5_day_5 : decode cX5_day 5 = .ok (.iconst 0, 1) := by decide +kernel
theorem dX5_day_6 : decode cX5_day 6 = .ok (.istore_n 2, 1) := by decide +kernel
theorem dX5_day_7 : decode cX5_day 7 = .ok (.iload_n 2, 1) := by decide +kernel
theorem dX5_day_8 : decode cX5_day 8 = .ok (.aload_n 0, 1) := by decide +kernel
theorem dX5_day_9 : decode cX5_day 9 = .ok (.getfield 9, 3) := by decide +kernel
theorem dX5_day_12 : decode cX5_day 12 = .ok (.iconst 1, 1) := by decide +kernel
theorem dX5_day_13 : decode cX5_day 13 = .ok (.iaload, 1) := by decide +kernel
theorem dX5_day_14 : decode cX5_day 14 = .ok (.if_icmp .ge 24, 3) := by decide +kernel
theorem dX5_day_17 : decode cX5_day 17 = .ok (.aload_n 0, 1) := by decide +kernel
theorem dX5_day_18 : decode cX5_day 18 = .ok (.iload_n 2, 1) := by decide +kernel
theorem dX5_day_19 : decode cX5_day 19 = .ok (.iconst 4, 1) := by decide +kernel
theorem dX5_day_20 : decode cX5_day 20 = .ok (.invokevirtual 52, 3) := by decide +kernel
theorem dX5_day_23 : decode cX5_day 23 = .ok (.ifCond .ne 9, 3) := by decide +kernel
theorem dX5_day_26 : decode cX5_day 26 = .ok (.aload_n 0, 1) := by decide +kernel
theorem dX5_day_27 : decode cX5_day 27 = .ok (.iload_n 2, 1) := by decide +kernel
theorem dX5_day_28 : decode cX5_day 28 = .ok (.iload_n 1, 1) := by decide +kernel
theorem dX5_day_29 : decode cX5_day 29 = .ok (.invokevirtual 85, 3) := by decide +kernel
theorem dX5_day_32 : decode cX5_day 32 = .ok (.iinc 2 1, 3) := by decide +kernel
theorem dX5_day_35 : decode cX5_day 35 = .ok (.goto (-28), 3) := by decide +kernel
theorem dX5_day_38 : decode cX5_day 38 = .ok (.iconst 0, 1) := by decide +kernel
theorem dX5_day_39 : decode cX5_day 39 = .ok (.istore_n 2, 1) := by decide +kernel
theorem dX5_day_40 : decode cX5_day 40 = .ok (.iload_n 2, 1) := by decide +kernel
theorem dX5_day_41 : decode cX5_day 41 = .ok (.aload_n 0, 1) := by decide +kernel
theorem dX5_day_42 : decode cX5_day 42 = .ok (.getfield 9, 3) := by decide +kernel
theorem dX5_day_45 : decode cX5_day 45 = .ok (.iconst 1, 1) := by decide +kernel
theorem dX5_day_46 : decode cX5_day 46 = .ok (.iaload, 1) := by decide +kernel
theorem dX5_day_47 : decode cX5_day 47 = .ok (.if_icmp .ge 23, 3) := by decide +kernel
theorem dX5_day_50 : decode cX5_day 50 = .ok (.aload_n 0, 1) := by decide +kernel
theorem dX5_day_51 : decode cX5_day 51 = .ok (.iload_n 2, 1) := by decide +kernel
theorem dX5_day_52 : decode cX5_day 52 = .ok (.iconst 4, 1) := by decide +kernel
theorem dX5_day_53 : decode cX5_day 53 = .ok (.invokevirtual 52, 3) := by decide +kernel
theorem dX5_day_56 : decode cX5_day 56 = .ok (.ifCond .ne 8, 3) := by decide +kernel
theorem dX5_day_59 : decode cX5_day 59 = .ok (.aload_n 0, 1) := by decide +kernel
theorem dX5_day_60 : decode cX5_day 60 = .ok (.iload_n 2, 1) := by decide +kernel
theorem dX5_day_61 : decode cX5_day 61 = .ok (.invokevirtual 89, 3) := by decide +kernel
theorem dX5_day_64 : decode cX5_day 64 = .ok (.iinc 2 1, 3) := by decide +kernel
theorem dX5_day_67 : decode cX5_day 67 = .ok (.goto (-27), 3) := by decide +kernel
theorem dX5_day_70 : decode cX5_day 70 = .ok (.aload_n 0, 1) := by decide +kernel
theorem dX5_day_71 : decode cX5_day 71 = .ok (.getfield 9, 3) := by decide +kernel
theorem dX5_day_74 : decode cX5_day 74 = .ok (.iconst 0, 1) := by decide +kernel
theorem dX5_day_75 : decode cX5_day 75 = .ok (.ldc 64, 2) := by decide +kernel
theorem dX5_day_77 : decode cX5_day 77 = .ok (.aload_n 0, 1) := by decide +kernel
theorem dX5_day_78 : decode cX5_day 78 = .ok (.getfield 9, 3) := by decide +kernel
theorem dX5_day_81 : decode cX5_day 81 = .ok (.iconst 0, 1) := by decide +kernel
theorem dX5_day_82 : decode cX5_day 82 = .ok (.iaload, 1) := by decide +kernel
theorem dX5_day_83 : decode cX5_day 83 = .ok (.iconst 1, 1) := by decide +kernel
theorem dX5_day_84 : decode cX5_day 84 = .ok (.iadd, 1) := by decide +kernel
theorem dX5_day_85 : decode cX5_day 85 = .ok (.invokestatic 69, 3) := by decide +kernel
theorem dX5_day_88 : decode cX5_day 88 = .ok (.iastore, 1) := by decide +kernel
theorem dX5_day_89 : decode cX5_day 89 = .ok (.return_, 1) := by decide +kernel
set_option maxRecDepth 20000 in
set_option maxHeartbeats 4000000 in
theorem l_X5_day2 {K : Cx} {n8 : Nat} {t : Int32} {s : Nat → Int32} {m : TM} (hI : Iv n8 s) : ∀ (n : Nat) (j : Nat), n8 - j < n → j ≤ n8 → XX RX5 cX5_day 3 none 3 69 K 40 [some (.ref 49), some (.int t), some (.int (nI j))] [] (sr m 50 (mL2 (mL1 s t n8) j)) (fun r1 m1 => r1 = none ∧ m1 = sr m 50 (upd (mL2 (mL1 s t n8) n8) 0 (minI (mL2 (mL1 s t n8) n8 0 + 1) 99999))) := by
  intro n
  induction n with
  | zero => intro j hlt; exact absurd hlt (Nat.not_lt_zero _)
  | succ n ih =>
    intro j hlt hj
    have h8 := hI.1
    have hnj : mL2 (mL1 s t n8) j 1 = nI n8 := by rw [mL2_lo (by decide), mL1_lo (by decide) (by decide) (by decide), hI.2.1]
    refine x_iload_n (q := 41) dX5_day_40 rfl rfl ?_
    refine x_aload_n (q := 42) dX5_day_41 rfl rfl ?_
    refine x_getR (q := 45) dX5_day_42 rfl fl_X5_9 (or5_s) ?_
    refine x_iconst (q := 46) (v := 1) dX5_day_45 rfl (by decide) ?_
    refine x_ialdr (q := 47) dX5_day_46 rfl (ar_50) (ix_nI (k := 1) (by decide) (by decide)) (Nat.zero_add _) ?_
    refine x_icmp_ge (q := 50) (t := 70) dX5_day_47 rfl (by decide) (fun h47 => ?_) (fun h47 => ?_)
    · have e : j = n8 := Nat.le_antisymm hj (lp_stop hnj (by omega) (by omega) h47)
      subst e
      refine x_aload_n (q := 71) dX5_day_70 rfl rfl ?_
      refine x_getR (q := 74) dX5_day_71 rfl fl_X5_9 (or5_s) ?_
      refine x_iconst (q := 75) (v := 0) dX5_day_74 rfl (by decide) ?_
      refine x_ldc (q := 77) dX5_day_75 rfl kc_X5_64 ?_
      refine x_aload_n (q := 78) dX5_day_77 rfl rfl ?_
      refine x_getR (q := 81) dX5_day_78 rfl fl_X5_9 (or5_s) ?_
      refine x_iconst (q := 82) (v := 0) dX5_day_81 rfl (by decide) ?_
      refine x_ialdr (q := 83) dX5_day_82 rfl (ar_50) (ix_nI (k := 0) (by decide) (by decide)) (Nat.zero_add _) ?_
      refine x_iconst (q := 84) (v := 1) dX5_day_83 rfl (by decide) ?_
      refine x_iadd (q := 85) dX5_day_84 rfl ?_
      refine x_callS2v (q := 88) dX5_day_85 rfl ml_X5_69 ms_X5_less c_X5_less (Nat.le_of_ble_eq_true rfl) ⟨by decide, by decide⟩ ?_
      refine x_iastr (q := 89) dX5_day_88 rfl (ar_50) (ix_nI (k := 0) (by decide) (by decide)) (Nat.zero_add _)  ?_
      refine x_return dX5_day_89 rfl ?_
      exact ⟨rfl, rfl⟩
    have hjn : j < n8 := lp_go hnj (by omega) (by omega) h47
    have hk : j < 8 := by omega
    refine x_aload_n (q := 51) dX5_day_50 rfl rfl ?_
    refine x_iload_n (q := 52) dX5_day_51 rfl rfl ?_
    refine x_iconst (q := 53) (v := 4) dX5_day_52 rfl (by decide) ?_
    refine x_callV2v (q := 56) dX5_day_53 rfl ml_X5_52 mv_X5_get rv5 rfl (c_X5_getr (f := 4) hk (by decide)) (Nat.le_of_ble_eq_true rfl) ⟨by decide, by decide⟩ ?_
    refine x_if_ne (q := 59) (t := 64) dX5_day_56 rfl (by decide) (fun h56 => ?_) (fun h56 => ?_)
    · refine x_iinc (q := 67) (v := nI (j + 1)) dX5_day_64 rfl rfl (jnI_s j) (by decide) rfl rfl ?_
      refine x_goto (q := 40) dX5_day_67 (by decide) ?_
      have key := ih (j + 1) (by omega) (by omega)
      rw [mL2, wt1, if_neg h56] at key
      exact key
    refine x_aload_n (q := 60) dX5_day_59 rfl rfl ?_
    refine x_iload_n (q := 61) dX5_day_60 rfl rfl ?_
    refine x_callV1n (q := 64) dX5_day_61 rfl ml_X5_89 mv_X5_waitsOn rv5 rfl (c_X5_waitsOn hk h56) (Nat.le_of_ble_eq_true rfl) ⟨by decide, by decide⟩ ?_
    refine x_iinc (q := 67) (v := nI (j + 1)) dX5_day_64 rfl rfl (jnI_s j) (by decide) rfl rfl ?_
    refine x_goto (q := 40) dX5_day_67 (by decide) ?_
    have key := ih (j + 1) (by omega) (by omega)
    rw [mL2, wt1, if_pos h56] at key
    exact key
set_option maxRecDepth 20000 in
set_option maxHeartbeats 4000000 in
theorem l_X5_day1 {K : Cx} {n8 : Nat} {t : Int32} {s : Nat → Int32} {m : TM} (hI : Iv n8 s) : ∀ (n : Nat) (j : Nat), n8 - j < n → j ≤ n8 → XX RX5 cX5_day 3 none 3 69 K 7 [some (.ref 49), some (.int t), some (.int (nI j))] [] (sr m 50 (mL1 s t j)) (fun r1 m1 => r1 = none ∧ m1 = sr m 50 (upd (mL2 (mL1 s t n8) n8) 0 (minI (mL2 (mL1 s t n8) n8 0 + 1) 99999))) := by
  intro n
  induction n with
  | zero => intro j hlt; exact absurd hlt (Nat.not_lt_zero _)
  | succ n ih =>
    intro j hlt hj
    have h8 := hI.1
    have hnj : mL1 s t j 1 = nI n8 := by rw [mL1_lo (by decide) (by decide) (by decide), hI.2.1]
    refine x_iload_n (q := 8) dX5_day_7 rfl rfl ?_
    refine x_aload_n (q := 9) dX5_day_8 rfl rfl ?_
    refine x_getR (q := 12) dX5_day_9 rfl fl_X5_9 (or5_s) ?_
    refine x_iconst (q := 13) (v := 1) dX5_day_12 rfl (by decide) ?_
    refine x_ialdr (q := 14) dX5_day_13 rfl (ar_50) (ix_nI (k := 1) (by decide) (by decide)) (Nat.zero_add _) ?_
    refine x_icmp_ge (q := 17) (t := 38) dX5_day_14 rfl (by decide) (fun h14 => ?_) (fun h14 => ?_)
    · have e : j = n8 := Nat.le_antisymm hj (lp_stop hnj (by omega) (by omega) h14)
      subst e
      refine x_iconst (q := 39) (v := 0) dX5_day_38 rfl (by decide) ?_
      refine x_istore_n (q := 40) dX5_day_39 rfl (by decide) rfl rfl ?_
      exact l_X5_day2 hI (n := 0 + (j + 1)) 0 (by omega) (by omega)
    have hjn : j < n8 := lp_go hnj (by omega) (by omega) h14
    have hk : j < 8 := by omega
    have hp := hI.2.2.2.2.1 j hjn
    have hp5 : mL1 s t j (12 + 7 * j + 5) = 0 ∨ mL1 s t j (12 + 7 * j + 5) = 1 := by rw [(mL1_all j).1 _ (by omega)]; exact hp.1
    have hp0 : ∃ c, c ≤ 6 ∧ mL1 s t j (12 + 7 * j + 0) = nI c := by rw [(mL1_all j).1 _ (by omega)]; exact hp.2
    refine x_aload_n (q := 18) dX5_day_17 rfl rfl ?_
    refine x_iload_n (q := 19) dX5_day_18 rfl rfl ?_
    refine x_iconst (q := 20) (v := 4) dX5_day_19 rfl (by decide) ?_
    refine x_callV2v (q := 23) dX5_day_20 rfl ml_X5_52 mv_X5_get rv5 rfl (c_X5_getr (f := 4) hk (by decide)) (Nat.le_of_ble_eq_true rfl) ⟨by decide, by decide⟩ ?_
    refine x_if_ne (q := 26) (t := 32) dX5_day_23 rfl (by decide) (fun h23 => ?_) (fun h23 => ?_)
    · refine x_iinc (q := 35) (v := nI (j + 1)) dX5_day_32 rfl rfl (jnI_s j) (by decide) rfl rfl ?_
      refine x_goto (q := 7) dX5_day_35 (by decide) ?_
      have key := ih (j + 1) (by omega) (by omega)
      rw [mL1, mtC, if_neg h23] at key
      exact key
    refine x_aload_n (q := 27) dX5_day_26 rfl rfl ?_
    refine x_iload_n (q := 28) dX5_day_27 rfl rfl ?_
    refine x_iload_n (q := 29) dX5_day_28 rfl rfl ?_
    refine x_callV2n (q := 32) dX5_day_29 rfl ml_X5_85 mv_X5_meetsTide rv5 rfl (c_X5_meetsTide hk hp0) (Nat.le_of_ble_eq_true rfl) ⟨by decide, by decide⟩ ?_
    refine x_iinc (q := 35) (v := nI (j + 1)) dX5_day_32 rfl rfl (jnI_s j) (by decide) rfl rfl ?_
    refine x_goto (q := 7) dX5_day_35 (by decide) ?_
    have key := ih (j + 1) (by omega) (by omega)
    rw [mL1, mtC, if_pos h23] at key
    rcases hp5 with q | q
    · rw [if_pos q] at key
      rw [if_neg (by rw [q]; decide)]
      exact key
    · rw [if_neg (by rw [q]; decide)] at key
      rw [if_pos q]
      exact key
set_option maxRecDepth 20000 in
set_option maxHeartbeats 4000000 in
theorem c_X5_day {K : Cx} {n8 : Nat} {s : Nat → Int32} {m : TM} (hI : Iv n8 s) : CT yX5_day cX5_day 3 none 3 69 K [.ref 49] (sr m 50 s) none (sr m 50 (dyC s n8)) := by
  refine ct_ofd (n := 2) (by decide +kernel) rfl rfl ?_
  show XX RX5 cX5_day 3 none 3 69 K 0 [some (.ref 49), none, none] [] (sr m 50 s) (fun r1 m1 => r1 = none ∧ m1 = sr m 50 (dyC s n8))
  refine x_aload_n (q := 1) dX5_day_0 rfl rfl ?_
  refine x_callV0v (q := 4) dX5_day_1 rfl ml_X5_81 mv_X5_tideNow rv5 rfl (c_X5_tideNow hI.td) (Nat.le_of_ble_eq_true rfl) ⟨by decide, by decide⟩ ?_
  refine x_istore_n (q := 5) dX5_day_4 rfl (by decide) rfl rfl ?_
  refine x_iconst (q := 6) (v := 0) dX5_day_5 rfl (by decide) ?_
  refine x_istore_n (q := 7) dX5_day_6 rfl (by decide) rfl rfl ?_
  have h := l_X5_day1 (K := K) (m := m) (t := tdF s) hI (n8 + 1) 0 (by omega) (by omega)
  rw [mL_dyL] at h
  exact h
theorem dX5_goes_0 : decode cX5_goes 0 = .ok (.iconst 0, 1) := by decide +kernel
theorem dX5_goes_1 : decode cX5_goes 1 = .ok (.istore_n 2, 1) := by decide +kernel
theorem dX5_goes_2 : decode cX5_goes 2 = .ok (.iload_n 2, 1) := by decide +kernel
theorem dX5_goes_3 : decode cX5_goes 3 = .ok (.iload_n 1, 1) := by decide +kernel
theorem dX5_goes_4 : decode cX5_goes 4 = .ok (.if_icmp .ge 13, 3) := by decide +kernel
theorem dX5_goes_7 : decode cX5_goes 7 = .ok (.aload_n 0, 1) := by decide +kernel
theorem dX5_goes_8 : decode cX5_goes 8 = .ok (.invokevirtual 93, 3) := by decide +kernel
theorem dX5_goes_11 : decode cX5_goes 11 = .ok (.iinc 2 1, 3) := by decide +kernel
theorem dX5_goes_14 : decode cX5_goes 14 = .ok (.goto (-12), 3) := by decide +kernel
theorem dX5_goes_17 : decode cX5_goes 17 = .ok (.return_, 1) := by decide +kernel
set_option maxRecDepth 20000 in
set_option maxHeartbeats 4000000 in
theorem l_X5_goes {K : Cx} {n8 c : Nat} {m : TM} (hc : c ≤ 1000) : ∀ (n : Nat) (j : Nat) (s : Nat → Int32), c - j < n → j ≤ c → Iv n8 s → XX RX5 cX5_goes 3 none 4 91 K 2 [some (.ref 49), some (.int (nI c)), some (.int (nI j))] [] (sr m 50 s) (fun r1 m1 => r1 = none ∧ m1 = sr m 50 (dysC n8 (c - j) s)) := by
  intro n
  induction n with
  | zero => intro j s hlt; exact absurd hlt (Nat.not_lt_zero _)
  | succ n ih =>
    intro j s hlt hj hI
    refine x_iload_n (q := 3) dX5_goes_2 rfl rfl ?_
    refine x_iload_n (q := 4) dX5_goes_3 rfl rfl ?_
    refine x_icmp_ge (q := 7) (t := 17) dX5_goes_4 rfl (by decide) (fun h4 => ?_) (fun h4 => ?_)
    · refine x_return dX5_goes_17 rfl ?_
      have e : j = c := Nat.le_antisymm hj (lp_stop rfl (by omega) (by omega) h4)
      subst e
      exact ⟨rfl, by rw [Nat.sub_self]; rfl⟩
    have hjn : j < c := lp_go rfl (by omega) (by omega) h4
    refine x_aload_n (q := 8) dX5_goes_7 rfl rfl ?_
    refine x_callV0n (q := 11) dX5_goes_8 rfl ml_X5_93 mv_X5_day rv5 rfl (c_X5_day hI) (Nat.le_of_ble_eq_true rfl) ⟨by decide, by decide⟩ ?_
    refine x_iinc (q := 14) (v := nI (j + 1)) dX5_goes_11 rfl rfl (jnI_s j) (by decide) rfl rfl ?_
    refine x_goto (q := 2) dX5_goes_14 (by decide) ?_
    have e : c - j = (c - (j + 1)) + 1 := by omega
    rw [e]
    exact ih (j + 1) (dyC s n8) (by omega) (by omega) hI.day
set_option maxRecDepth 20000 in
set_option maxHeartbeats 4000000 in
theorem c_X5_goes {K : Cx} {n8 c : Nat} {s : Nat → Int32} {m : TM} (hc : c ≤ 1000) (hI : Iv n8 s) : CT yX5_goes cX5_goes 3 none 4 91 K [.ref 49, .int (nI c)] (sr m 50 s) none (sr m 50 (dysC n8 c s)) := by
  refine ct_ofd (n := 1) (by decide +kernel) rfl rfl ?_
  show XX RX5 cX5_goes 3 none 4 91 K 0 [some (.ref 49), some (.int (nI c)), none] [] (sr m 50 s) (fun r1 m1 => r1 = none ∧ m1 = sr m 50 (dysC n8 c s))
  refine x_iconst (q := 1) (v := 0) dX5_goes_0 rfl (by decide) ?_
  refine x_istore_n (q := 2) dX5_goes_1 rfl (by decide) rfl rfl ?_
  exact l_X5_goes hc (c + 1) 0 s (by omega) (by omega) hI
theorem dX5_those_0 : decode cX5_those 0 = .ok (.iconst 0, 1) := by decide +kernel
theorem dX5_those_1 : decode cX5_those 1 = .ok (.istore_n 2, 1) := by decide +kernel
theorem dX5_those_2 : decode cX5_those 2 = .ok (.iconst 0, 1) := by decide +kernel
theorem dX5_those_3 : decode cX5_those 3 = .ok (.istore_n 3, 1) := by decide +kernel
theorem dX5_those_4 : decode cX5_those 4 = .ok (.iload_n 3, 1) := by decide +kernel
theorem dX5_those_5 : decode cX5_those 5 = .ok (.aload_n 0, 1) := by decide +kernel
theorem dX5_those_6 : decode cX5_those 6 = .ok (.getfield 9, 3) := by decide +kernel
theorem dX5_those_9 : decode cX5_those 9 = .ok (.iconst 1, 1) := by decide +kernel
theorem dX5_those_10 : decode cX5_those 10 = .ok (.iaload, 1) := by decide +kernel
theorem dX5_those_11 : decode cX5_those 11 = .ok (.if_icmp .ge 29, 3) := by decide +kernel
theorem dX5_those_14 : decode cX5_those 14 = .ok (.iload_n 2, 1) := by decide +kernel
theorem dX5_those_15 : decode cX5_those 15 = .ok (.aload_n 0, 1) := by decide +kernel
theorem dX5_those_16 : decode cX5_those 16 = .ok (.iload_n 3, 1) := by decide +kernel
theorem dX5_those_17 : decode cX5_those 17 = .ok (.iconst 4, 1) := by decide +kernel
theorem dX5_those_18 : decode cX5_those 18 = .ok (.invokevirtual 52, 3) := by decide +kernel
theorem dX5_those_21 : decode cX5_those 21 = .ok (.iload_n 1, 1) := by decide +kernel
theorem dX5_those_22 : decode cX5_those 22 = .ok (.if_icmp .ne 9, 3) := by decide +kernel
theorem dX5_those_25 : decode cX5_those 25 = .ok (.iconst 1, 1) := by decide +kernel
theorem dX5_those_26 : decode cX5_those 26 = .ok (.iload_n 3, 1) := by decide +kernel
theorem dX5_those_27 : decode cX5_those 27 = .ok (.ishl, 1) := by decide +kernel
theorem dX5_those_28 : decode cX5_those 28 = .ok (.goto 4, 3) := by decide +kernel
theorem dX5_those_31 : decode cX5_those 31 = .ok (.iconst 0, 1) := by decide +kernel
theorem dX5_those_32 : decode cX5_those 32 = .ok (.ior, 1) := by decide +kernel
theorem dX5_those_33 : decode cX5_those 33 = .ok (.istore_n 2, 1) := by decide +kernel
theorem dX5_those_34 : decode cX5_those 34 = .ok (.iinc 3 1, 3) := by decide +kernel
theorem dX5_those_37 : decode cX5_those 37 = .ok (.goto (-33), 3) := by decide +kernel
theorem dX5_those_40 : decode cX5_those 40 = .ok (.iload_n 2, 1) := by decide +kernel
theorem dX5_those_41 : decode cX5_those 41 = .ok (.ireturn, 1) := by decide +kernel
set_option maxRecDepth 20000 in
set_option maxHeartbeats 4000000 in
theorem l_X5_those {K : Cx} {n8 : Nat} {x : Int32} {s : Nat → Int32} {m : TM} (hn : s 1 = nI n8) (h8 : n8 ≤ 8) : ∀ (n : Nat) (j : Nat), n8 - j < n → j ≤ n8 → XX RX5 cX5_those 4 (some .int) 1 22 K 4 [some (.ref 49), some (.int x), some (.int (thF s x j)), some (.int (nI j))] [] (sr m 50 s) (fun r1 m1 => r1 = (some (.int (thF s x n8))) ∧ m1 = sr m 50 s) := by
  intro n
  induction n with
  | zero => intro j hlt; exact absurd hlt (Nat.not_lt_zero _)
  | succ n ih =>
    intro j hlt hj
    refine x_iload_n (q := 5) dX5_those_4 rfl rfl ?_
    refine x_aload_n (q := 6) dX5_those_5 rfl rfl ?_
    refine x_getR (q := 9) dX5_those_6 rfl fl_X5_9 (or5_s) ?_
    refine x_iconst (q := 10) (v := 1) dX5_those_9 rfl (by decide) ?_
    refine x_ialdr (q := 11) dX5_those_10 rfl (ar_50) (ix_nI (k := 1) (by decide) (by decide)) (Nat.zero_add _) ?_
    refine x_icmp_ge (q := 14) (t := 40) dX5_those_11 rfl (by decide) (fun h11 => ?_) (fun h11 => ?_)
    · refine x_iload_n (q := 41) dX5_those_40 rfl rfl ?_
      refine x_ireturn dX5_those_41 rfl rfl ?_
      have e : j = n8 := Nat.le_antisymm hj (lp_stop hn (by omega) (by omega) h11)
      subst e
      exact ⟨rfl, rfl⟩
    have hjn : j < n8 := lp_go hn (by omega) (by omega) h11
    have hk : j < 8 := by omega
    refine x_iload_n (q := 15) dX5_those_14 rfl rfl ?_
    refine x_aload_n (q := 16) dX5_those_15 rfl rfl ?_
    refine x_iload_n (q := 17) dX5_those_16 rfl rfl ?_
    refine x_iconst (q := 18) (v := 4) dX5_those_17 rfl (by decide) ?_
    refine x_callV2v (q := 21) dX5_those_18 rfl ml_X5_52 mv_X5_get rv5 rfl (c_X5_getr (f := 4) hk (by decide)) (Nat.le_of_ble_eq_true rfl) ⟨by decide, by decide⟩ ?_
    refine x_iload_n (q := 22) dX5_those_21 rfl rfl ?_
    refine x_icmp_ne (q := 25) (t := 31) dX5_those_22 rfl (by decide) (fun h22 => ?_) (fun h22 => ?_)
    · refine x_iconst (q := 32) (v := 0) dX5_those_31 rfl (by decide) ?_
      refine x_ior (q := 33) dX5_those_32 rfl ?_
      refine x_istore_n (q := 34) dX5_those_33 rfl (by decide) rfl rfl ?_
      refine x_iinc (q := 37) (v := nI (j + 1)) dX5_those_34 rfl rfl (jnI_s j) (by decide) rfl rfl ?_
      refine x_goto (q := 4) dX5_those_37 (by decide) ?_
      have key := ih (j + 1) (by omega) (by omega)
      simp only [thF, h22, if_true, if_false] at key
      rw [or0]
      exact key
    refine x_iconst (q := 26) (v := 1) dX5_those_25 rfl (by decide) ?_
    refine x_iload_n (q := 27) dX5_those_26 rfl rfl ?_
    refine x_ishl (q := 28) dX5_those_27 rfl ?_
    refine x_goto (q := 32) dX5_those_28 (by decide) ?_
    refine x_ior (q := 33) dX5_those_32 rfl ?_
    refine x_istore_n (q := 34) dX5_those_33 rfl (by decide) rfl rfl ?_
    refine x_iinc (q := 37) (v := nI (j + 1)) dX5_those_34 rfl rfl (jnI_s j) (by decide) rfl rfl ?_
    refine x_goto (q := 4) dX5_those_37 (by decide) ?_
    have key := ih (j + 1) (by omega) (by omega)
    simp only [thF, h22, if_true, if_false] at key
    exact key
set_option maxRecDepth 20000 in
set_option maxHeartbeats 4000000 in
theorem c_X5_those {K : Cx} {n8 : Nat} {x : Int32} {s : Nat → Int32} {m : TM} (hn : s 1 = nI n8) (h8 : n8 ≤ 8) : CT yX5_those cX5_those 4 (some .int) 1 22 K [.ref 49, .int x] (sr m 50 s) (some (.int (thF s x n8))) (sr m 50 s) := by
  refine ct_ofd (n := 2) (by decide +kernel) rfl rfl ?_
  show XX RX5 cX5_those 4 (some .int) 1 22 K 0 [some (.ref 49), some (.int x), none, none] [] (sr m 50 s) (fun r1 m1 => r1 = (some (.int (thF s x n8))) ∧ m1 = sr m 50 s)
  refine x_iconst (q := 1) (v := 0) dX5_those_0 rfl (by decide) ?_
  refine x_istore_n (q := 2) dX5_those_1 rfl (by decide) rfl rfl ?_
  refine x_iconst (q := 3) (v := 0) dX5_those_2 rfl (by decide) ?_
  refine x_istore_n (q := 4) dX5_those_3 rfl (by decide) rfl rfl ?_
  exact l_X5_those hn h8 (n8 + 1) 0 (by omega) (by omega)
theorem dX5_weightNow_0 : decode cX5_weightNow 0 = .ok (.iconst 0, 1) := by decide +kernel
theorem dX5_weightNow_1 : decode cX5_weightNow 1 = .ok (.istore_n 1, 1) := by decide +kernel
theorem dX5_weightNow_2 : decode cX5_weightNow 2 = .ok (.iconst 0, 1) := by decide +kernel
theorem dX5_weightNow_3 : decode cX5_weightNow 3 = .ok (.istore_n 2, 1) := by decide +kernel
theorem dX5_weightNow_4 : decode cX5_weightNow 4 = .ok (.iload_n 2, 1) := by decide +kernel
theorem dX5_weightNow_5 : decode cX5_weightNow 5 = .ok (.aload_n 0, 1) := by decide +kernel
theorem dX5_weightNow_6 : decode cX5_weightNow 6 = .ok (.getfield 9, 3) := by decide +kernel
theorem dX5_weightNow_9 : decode cX5_weightNow 9 = .ok (.iconst 1, 1) := by decide +kernel
theorem dX5_weightNow_10 : decode cX5_weightNow 10 = .ok (.iaload, 1) := by decide +kernel
theorem dX5_weightNow_11 : decode cX5_weightNow 11 = .ok (.if_icmp .ge 31, 3) := by decide +kernel
theorem dX5_weightNow_14 : decode cX5_weightNow 14 = .ok (.iload_n 1, 1) := by decide +kernel
theorem dX5_weightNow_15 : decode cX5_weightNow 15 = .ok (.aload_n 0, 1) := by decide +kernel
theorem dX5_weightNow_16 : decode cX5_weightNow 16 = .ok (.iload_n 2, 1) := by decide +kernel
theorem dX5_weightNow_17 : decode cX5_weightNow 17 = .ok (.iconst 4, 1) := by decide +kernel
theorem dX5_weightNow_18 : decode cX5_weightNow 18 = .ok (.invokevirtual 52, 3) := by decide +kernel
theorem dX5_weightNow_21 : decode cX5_weightNow 21 = .ok (.ifCond .ne 12, 3) := by decide +kernel
theorem dX5_weightNow_24 : decode cX5_weightNow 24 = .ok (.aload_n 0, 1) := by decide +kernel
theorem dX5_weightNow_25 : decode cX5_weightNow 25 = .ok (.iload_n 2, 1) := by decide +kernel
theorem dX5_weightNow_26 : decode cX5_weightNow 26 = .ok (.iconst 2, 1) := by decide +kernel
theorem dX5_weightNow_27 : decode cX5_weightNow 27 = .ok (.invokevirtual 52, 3) := by decide +kernel
theorem dX5_weightNow_30 : decode cX5_weightNow 30 = .ok (.goto 4, 3) := by decide +kernel
theorem dX5_weightNow_33 : decode cX5_weightNow 33 = .ok (.iconst 0, 1) := by decide +kernel
theorem dX5_weightNow_34 : decode cX5_weightNow 34 = .ok (.iadd, 1) := by decide +kernel
theorem dX5_weightNow_35 : decode cX5_weightNow 35 = .ok (.istore_n 1, 1) := by decide +kernel
theorem dX5_weightNow_36 : decode cX5_weightNow 36 = .ok (.iinc 2 1, 3) := by decide +kernel
theorem dX5_weightNow_39 : decode cX5_weightNow 39 = .ok (.goto (-35), 3) := by decide +kernel
theorem dX5_weightNow_42 : decode cX5_weightNow 42 = .ok (.iload_n 1, 1) := by decide +kernel
theorem dX5_weightNow_43 : decode cX5_weightNow 43 = .ok (.ireturn, 1) := by decide +kernel
set_option maxRecDepth 20000 in
set_option maxHeartbeats 4000000 in
theorem l_X5_weightNow {K : Cx} {n8 : Nat} {s : Nat → Int32} {m : TM} (hn : s 1 = nI n8) (h8 : n8 ≤ 8) : ∀ (n : Nat) (j : Nat), n8 - j < n → j ≤ n8 → XX RX5 cX5_weightNow 3 (some .int) 1 22 K 4 [some (.ref 49), some (.int (weF s j)), some (.int (nI j))] [] (sr m 50 s) (fun r1 m1 => r1 = (some (.int (weF s n8))) ∧ m1 = sr m 50 s) := by
  intro n
  induction n with
  | zero => intro j hlt; exact absurd hlt (Nat.not_lt_zero _)
  | succ n ih =>
    intro j hlt hj
    refine x_iload_n (q := 5) dX5_weightNow_4 rfl rfl ?_
    refine x_aload_n (q := 6) dX5_weightNow_5 rfl rfl ?_
    refine x_getR (q := 9) dX5_weightNow_6 rfl fl_X5_9 (or5_s) ?_
    refine x_iconst (q := 10) (v := 1) dX5_weightNow_9 rfl (by decide) ?_
    refine x_ialdr (q := 11) dX5_weightNow_10 rfl (ar_50) (ix_nI (k := 1) (by decide) (by decide)) (Nat.zero_add _) ?_
    refine x_icmp_ge (q := 14) (t := 42) dX5_weightNow_11 rfl (by decide) (fun h11 => ?_) (fun h11 => ?_)
    · refine x_iload_n (q := 43) dX5_weightNow_42 rfl rfl ?_
      refine x_ireturn dX5_weightNow_43 rfl rfl ?_
      have e : j = n8 := Nat.le_antisymm hj (lp_stop hn (by omega) (by omega) h11)
      subst e
      exact ⟨rfl, rfl⟩
    have hjn : j < n8 := lp_go hn (by omega) (by omega) h11
    have hk : j < 8 := by omega
    refine x_iload_n (q := 15) dX5_weightNow_14 rfl rfl ?_
    refine x_aload_n (q := 16) dX5_weightNow_15 rfl rfl ?_
    refine x_iload_n (q := 17) dX5_weightNow_16 rfl rfl ?_
    refine x_iconst (q := 18) (v := 4) dX5_weightNow_17 rfl (by decide) ?_
    refine x_callV2v (q := 21) dX5_weightNow_18 rfl ml_X5_52 mv_X5_get rv5 rfl (c_X5_getr (f := 4) hk (by decide)) (Nat.le_of_ble_eq_true rfl) ⟨by decide, by decide⟩ ?_
    refine x_if_ne (q := 24) (t := 33) dX5_weightNow_21 rfl (by decide) (fun h21 => ?_) (fun h21 => ?_)
    · refine x_iconst (q := 34) (v := 0) dX5_weightNow_33 rfl (by decide) ?_
      refine x_iadd (q := 35) dX5_weightNow_34 rfl ?_
      refine x_istore_n (q := 36) dX5_weightNow_35 rfl (by decide) rfl rfl ?_
      refine x_iinc (q := 39) (v := nI (j + 1)) dX5_weightNow_36 rfl rfl (jnI_s j) (by decide) rfl rfl ?_
      refine x_goto (q := 4) dX5_weightNow_39 (by decide) ?_
      have key := ih (j + 1) (by omega) (by omega)
      simp only [weF, h21, if_true, if_false] at key
      rw [add0]
      exact key
    refine x_aload_n (q := 25) dX5_weightNow_24 rfl rfl ?_
    refine x_iload_n (q := 26) dX5_weightNow_25 rfl rfl ?_
    refine x_iconst (q := 27) (v := 2) dX5_weightNow_26 rfl (by decide) ?_
    refine x_callV2v (q := 30) dX5_weightNow_27 rfl ml_X5_52 mv_X5_get rv5 rfl (c_X5_getr (f := 2) hk (by decide)) (Nat.le_of_ble_eq_true rfl) ⟨by decide, by decide⟩ ?_
    refine x_goto (q := 34) dX5_weightNow_30 (by decide) ?_
    refine x_iadd (q := 35) dX5_weightNow_34 rfl ?_
    refine x_istore_n (q := 36) dX5_weightNow_35 rfl (by decide) rfl rfl ?_
    refine x_iinc (q := 39) (v := nI (j + 1)) dX5_weightNow_36 rfl rfl (jnI_s j) (by decide) rfl rfl ?_
    refine x_goto (q := 4) dX5_weightNow_39 (by decide) ?_
    have key := ih (j + 1) (by omega) (by omega)
    simp only [weF, h21, if_true, if_false] at key
    exact key
set_option maxRecDepth 20000 in
set_option maxHeartbeats 4000000 in
theorem c_X5_weightNow {K : Cx} {n8 : Nat} {s : Nat → Int32} {m : TM} (hn : s 1 = nI n8) (h8 : n8 ≤ 8) : CT yX5_weightNow cX5_weightNow 3 (some .int) 1 22 K [.ref 49] (sr m 50 s) (some (.int (weF s n8))) (sr m 50 s) := by
  refine ct_ofd (n := 2) (by decide +kernel) rfl rfl ?_
  show XX RX5 cX5_weightNow 3 (some .int) 1 22 K 0 [some (.ref 49), none, none] [] (sr m 50 s) (fun r1 m1 => r1 = (some (.int (weF s n8))) ∧ m1 = sr m 50 s)
  refine x_iconst (q := 1) (v := 0) dX5_weightNow_0 rfl (by decide) ?_
  refine x_istore_n (q := 2) dX5_weightNow_1 rfl (by decide) rfl rfl ?_
  refine x_iconst (q := 3) (v := 0) dX5_weightNow_2 rfl (by decide) ?_
  refine x_istore_n (q := 4) dX5_weightNow_3 rfl (by decide) rfl rfl ?_
  exact l_X5_weightNow hn h8 (n8 + 1) 0 (by omega) (by omega)
theorem dX5_mostOf_0 : decode cX5_mostOf 0 = .ok (.iload_n 0, 1) := by decide +kernel
theorem dX5_mostOf_1 : decode cX5_mostOf 1 = .ok (.tableswitch 52 0 5 #[39, 42, 45, 52, 48, 50], 39) := by decide +kernel
theorem dX5_mostOf_40 : decode cX5_mostOf 40 = .ok (.bipush 6, 2) := by decide +kernel
theorem dX5_mostOf_42 : decode cX5_mostOf 42 = .ok (.ireturn, 1) := by decide +kernel
theorem dX5_mostOf_43 : decode cX5_mostOf 43 = .ok (.bipush 20, 2) := by decide +kernel
theorem dX5_mostOf_45 : decode cX5_mostOf 45 = .ok (.ireturn, 1) := by decide +kernel
theorem dX5_mostOf_46 : decode cX5_mostOf 46 = .ok (.bipush 99, 2) := by decide +kernel
theorem dX5_mostOf_48 : decode cX5_mostOf 48 = .ok (.ireturn, 1) := by decide +kernel
theorem dX5_mostOf_49 : decode cX5_mostOf 49 = .ok (.iconst 2, 1) := by decide +kernel
theorem dX5_mostOf_50 : decode cX5_mostOf 50 = .ok (.ireturn, 1) := by decide +kernel
theorem dX5_mostOf_51 : decode cX5_mostOf 51 = .ok (.iconst 1, 1) := by decide +kernel
theorem dX5_mostOf_52 : decode cX5_mostOf 52 = .ok (.ireturn, 1) := by decide +kernel
theorem dX5_mostOf_53 : decode cX5_mostOf 53 = .ok (.sipush 9999, 3) := by decide +kernel
theorem dX5_mostOf_56 : decode cX5_mostOf 56 = .ok (.ireturn, 1) := by decide +kernel
set_option maxRecDepth 20000 in
set_option maxHeartbeats 4000000 in
theorem c_X5_mostOf {K : Cx} {x : Int32} {m : TM} : CT yX5_mostOf cX5_mostOf 1 (some .int) 0 0 K [.int x] (m) (some (.int (mst x))) (m) := by
  refine ct_ofd (n := 0) (by decide +kernel) rfl rfl ?_
  show XX RX5 cX5_mostOf 1 (some .int) 0 0 K 0 [some (.int x)] [] (m) (fun r1 m1 => r1 = (some (.int (mst x))) ∧ m1 = m)
  refine x_iload_n (q := 1) dX5_mostOf_0 rfl rfl ?_
  by_cases h1_0 : x = 0
  · refine x_tswC (q := 40) (k := 0) dX5_mostOf_1 h1_0 (by decide) (by decide) rfl (by decide) ?_
    refine x_bipush (q := 42) (v := 6) dX5_mostOf_40 rfl (by decide) ?_
    refine x_ireturn dX5_mostOf_42 rfl rfl ?_
    exact ⟨by simp [mst, *], rfl⟩
  by_cases h1_1 : x = 1
  · refine x_tswC (q := 43) (k := 1) dX5_mostOf_1 h1_1 (by decide) (by decide) rfl (by decide) ?_
    refine x_bipush (q := 45) (v := 20) dX5_mostOf_43 rfl (by decide) ?_
    refine x_ireturn dX5_mostOf_45 rfl rfl ?_
    exact ⟨by simp [mst, *], rfl⟩
  by_cases h1_2 : x = 2
  · refine x_tswC (q := 46) (k := 2) dX5_mostOf_1 h1_2 (by decide) (by decide) rfl (by decide) ?_
    refine x_bipush (q := 48) (v := 99) dX5_mostOf_46 rfl (by decide) ?_
    refine x_ireturn dX5_mostOf_48 rfl rfl ?_
    exact ⟨by simp [mst, *], rfl⟩
  by_cases h1_3 : x = 3
  · refine x_tswC (q := 53) (k := 3) dX5_mostOf_1 h1_3 (by decide) (by decide) rfl (by decide) ?_
    refine x_sipush (q := 56) (v := 9999) dX5_mostOf_53 rfl (by decide) ?_
    refine x_ireturn dX5_mostOf_56 rfl rfl ?_
    exact ⟨by simp [mst, *], rfl⟩
  by_cases h1_4 : x = 4
  · refine x_tswC (q := 49) (k := 4) dX5_mostOf_1 h1_4 (by decide) (by decide) rfl (by decide) ?_
    refine x_iconst (q := 50) (v := 2) dX5_mostOf_49 rfl (by decide) ?_
    refine x_ireturn dX5_mostOf_50 rfl rfl ?_
    exact ⟨by simp [mst, *], rfl⟩
  by_cases h1_5 : x = 5
  · refine x_tswC (q := 51) (k := 5) dX5_mostOf_1 h1_5 (by decide) (by decide) rfl (by decide) ?_
    refine x_iconst (q := 52) (v := 1) dX5_mostOf_51 rfl (by decide) ?_
    refine x_ireturn dX5_mostOf_52 rfl rfl ?_
    exact ⟨by simp [mst, *], rfl⟩
  refine x_tswD (q := 53) dX5_mostOf_1 (by have n0 := lv_neT h1_0 (a := 0) (by decide); have n1 := lv_neT h1_1 (a := 1) (by decide); have n2 := lv_neT h1_2 (a := 2) (by decide); have n3 := lv_neT h1_3 (a := 3) (by decide); have n4 := lv_neT h1_4 (a := 4) (by decide); have n5 := lv_neT h1_5 (a := 5) (by decide); omega) (by decide) ?_
  refine x_sipush (q := 56) (v := 9999) dX5_mostOf_53 rfl (by decide) ?_
  refine x_ireturn dX5_mostOf_56 rfl rfl ?_
  exact ⟨by simp [mst, *], rfl⟩
theorem dX5_draw_0 : decode cX5_draw 0 = .ok (.aload_n 0, 1) := by decide +kernel
theorem dX5_draw_1 : decode cX5_draw 1 = .ok (.getfield 9, 3) := by decide +kernel
theorem dX5_draw_4 : decode cX5_draw 4 = .ok (.iconst 2, 1) := by decide +kernel
theorem dX5_draw_5 : decode cX5_draw 5 = .ok (.aload_n 0, 1) := by decide +kernel
theorem dX5_draw_6 : decode cX5_draw 6 = .ok (.getfield 9, 3) := by decide +kernel
theorem dX5_draw_9 : decode cX5_draw 9 = .ok (.iconst 2, 1) := by decide +kernel
theorem dX5_draw_10 : decode cX5_draw 10 = .ok (.iaload, 1) := by decide +kernel
theorem dX5_draw_11 : decode cX5_draw 11 = .ok (.ldc 171, 2) := by decide +kernel
theorem dX5_draw_13 : decode cX5_draw 13 = .ok (.imul, 1) := by decide +kernel
theorem dX5_draw_14 : decode cX5_draw 14 = .ok (.sipush 12345, 3) := by decide +kernel
theorem dX5_draw_17 : decode cX5_draw 17 = .ok (.iadd, 1) := by decide +kernel
theorem dX5_draw_18 : decode cX5_draw 18 = .ok (.iastore, 1) := by decide +kernel
theorem dX5_draw_19 : decode cX5_draw 19 = .ok (.aload_n 0, 1) := by decide +kernel
theorem dX5_draw_20 : decode cX5_draw 20 = .ok (.getfield 9, 3) := by decide +kernel
theorem dX5_draw_23 : decode cX5_draw 23 = .ok (.iconst 2, 1) := by decide +kernel
theorem dX5_draw_24 : decode cX5_draw 24 = .ok (.iaload, 1) := by decide +kernel
theorem dX5_draw_25 : decode cX5_draw 25 = .ok (.bipush 8, 2) := by decide +kernel
theorem dX5_draw_27 : decode cX5_draw 27 = .ok (.iushr, 1) := by decide +kernel
theorem dX5_draw_28 : decode cX5_draw 28 = .ok (.ireturn, 1) := by decide +kernel
set_option maxRecDepth 20000 in
set_option maxHeartbeats 4000000 in
theorem c_X5_draw {K : Cx} {s : Nat → Int32} {m : TM} : CT yX5_draw cX5_draw 1 (some .int) 0 0 K [.ref 49] (sr m 50 s) (some (.int (dr (s 2)))) (sr m 50 (upd s 2 (nz (s 2)))) := by
  refine ct_ofd (n := 0) (by decide +kernel) rfl rfl ?_
  show XX RX5 cX5_draw 1 (some .int) 0 0 K 0 [some (.ref 49)] [] (sr m 50 s) (fun r1 m1 => r1 = (some (.int (dr (s 2)))) ∧ m1 = sr m 50 (upd s 2 (nz (s 2))))
  refine x_aload_n (q := 1) dX5_draw_0 rfl rfl ?_
  refine x_getR (q := 4) dX5_draw_1 rfl fl_X5_9 (or5_s) ?_
  refine x_iconst (q := 5) (v := 2) dX5_draw_4 rfl (by decide) ?_
  refine x_aload_n (q := 6) dX5_draw_5 rfl rfl ?_
  refine x_getR (q := 9) dX5_draw_6 rfl fl_X5_9 (or5_s) ?_
  refine x_iconst (q := 10) (v := 2) dX5_draw_9 rfl (by decide) ?_
  refine x_ialdr (q := 11) dX5_draw_10 rfl (ar_50) (ix_nI (k := 2) (by decide) (by decide)) (Nat.zero_add _) ?_
  refine x_ldc (q := 13) dX5_draw_11 rfl kc_X5_171 ?_
  refine x_imul (q := 14) dX5_draw_13 rfl ?_
  refine x_sipush (q := 17) (v := 12345) dX5_draw_14 rfl (by decide) ?_
  refine x_iadd (q := 18) dX5_draw_17 rfl ?_
  refine x_iastr (q := 19) dX5_draw_18 rfl (ar_50) (ix_nI (k := 2) (by decide) (by decide)) (Nat.zero_add _)  ?_
  refine x_aload_n (q := 20) dX5_draw_19 rfl rfl ?_
  refine x_getR (q := 23) dX5_draw_20 rfl fl_X5_9 (or5_s) ?_
  refine x_iconst (q := 24) (v := 2) dX5_draw_23 rfl (by decide) ?_
  refine x_ialdr (q := 25) dX5_draw_24 rfl (ar_50) (ix_nI (k := 2) (by decide) (by decide)) (Nat.zero_add _) ?_
  refine x_bipush (q := 27) (v := 8) dX5_draw_25 rfl (by decide) ?_
  refine x_iushr (q := 28) dX5_draw_27 rfl ?_
  refine x_ireturn dX5_draw_28 rfl rfl ?_
  exact ⟨by rw [upd_self]; rfl, rfl⟩
theorem dX5_above_0 : decode cX5_above 0 = .ok (.iload_n 0, 1) := by decide +kernel
theorem dX5_above_1 : decode cX5_above 1 = .ok (.iconst 3, 1) := by decide +kernel
theorem dX5_above_2 : decode cX5_above 2 = .ok (.if_icmp .ne 7, 3) := by decide +kernel
theorem dX5_above_5 : decode cX5_above 5 = .ok (.iconst 2, 1) := by decide +kernel
theorem dX5_above_6 : decode cX5_above 6 = .ok (.goto 23, 3) := by decide +kernel
theorem dX5_above_9 : decode cX5_above 9 = .ok (.iload_n 0, 1) := by decide +kernel
theorem dX5_above_10 : decode cX5_above 10 = .ok (.iconst 4, 1) := by decide +kernel
theorem dX5_above_11 : decode cX5_above 11 = .ok (.if_icmp .ne 7, 3) := by decide +kernel
theorem dX5_above_14 : decode cX5_above 14 = .ok (.iconst 3, 1) := by decide +kernel
theorem dX5_above_15 : decode cX5_above 15 = .ok (.goto 14, 3) := by decide +kernel
theorem dX5_above_18 : decode cX5_above 18 = .ok (.iload_n 0, 1) := by decide +kernel
theorem dX5_above_19 : decode cX5_above 19 = .ok (.bipush 6, 2) := by decide +kernel
theorem dX5_above_21 : decode cX5_above 21 = .ok (.if_icmp .ne 7, 3) := by decide +kernel
theorem dX5_above_24 : decode cX5_above 24 = .ok (.iconst 1, 1) := by decide +kernel
theorem dX5_above_25 : decode cX5_above 25 = .ok (.goto 4, 3) := by decide +kernel
theorem dX5_above_28 : decode cX5_above 28 = .ok (.iconst 0, 1) := by decide +kernel
theorem dX5_above_29 : decode cX5_above 29 = .ok (.ireturn, 1) := by decide +kernel
set_option maxRecDepth 20000 in
set_option maxHeartbeats 4000000 in
theorem c_X5_above {K : Cx} {x : Int32} {m : TM} : CT yX5_above cX5_above 1 (some .int) 0 0 K [.int x] (m) (some (.int (if x = 3 then 2 else if x = 4 then 3 else if x = 6 then 1 else 0))) (m) := by
  refine ct_ofd (n := 0) (by decide +kernel) rfl rfl ?_
  show XX RX5 cX5_above 1 (some .int) 0 0 K 0 [some (.int x)] [] (m) (fun r1 m1 => r1 = (some (.int (if x = 3 then 2 else if x = 4 then 3 else if x = 6 then 1 else 0))) ∧ m1 = m)
  refine x_iload_n (q := 1) dX5_above_0 rfl rfl ?_
  refine x_iconst (q := 2) (v := 3) dX5_above_1 rfl (by decide) ?_
  refine x_icmp_ne (q := 5) (t := 9) dX5_above_2 rfl (by decide) (fun h2 => ?_) (fun h2 => ?_)
  · refine x_iload_n (q := 10) dX5_above_9 rfl rfl ?_
    refine x_iconst (q := 11) (v := 4) dX5_above_10 rfl (by decide) ?_
    refine x_icmp_ne (q := 14) (t := 18) dX5_above_11 rfl (by decide) (fun h11 => ?_) (fun h11 => ?_)
    · refine x_iload_n (q := 19) dX5_above_18 rfl rfl ?_
      refine x_bipush (q := 21) (v := 6) dX5_above_19 rfl (by decide) ?_
      refine x_icmp_ne (q := 24) (t := 28) dX5_above_21 rfl (by decide) (fun h21 => ?_) (fun h21 => ?_)
      · refine x_iconst (q := 29) (v := 0) dX5_above_28 rfl (by decide) ?_
        refine x_ireturn dX5_above_29 rfl rfl ?_
        exact ⟨by simp [*], rfl⟩
      refine x_iconst (q := 25) (v := 1) dX5_above_24 rfl (by decide) ?_
      refine x_goto (q := 29) dX5_above_25 (by decide) ?_
      refine x_ireturn dX5_above_29 rfl rfl ?_
      exact ⟨by simp [*], rfl⟩
    refine x_iconst (q := 15) (v := 3) dX5_above_14 rfl (by decide) ?_
    refine x_goto (q := 29) dX5_above_15 (by decide) ?_
    refine x_ireturn dX5_above_29 rfl rfl ?_
    exact ⟨by simp [*], rfl⟩
  refine x_iconst (q := 6) (v := 2) dX5_above_5 rfl (by decide) ?_
  refine x_goto (q := 29) dX5_above_6 (by decide) ?_
  refine x_ireturn dX5_above_29 rfl rfl ?_
  exact ⟨by simp [*], rfl⟩
end
section
/-! two rows of a coast are the same but for parcels that there aren't -/
def Eqv (n : Nat) (s u : Nat → Int32) : Prop := ∀ i, i < 78 → ¬ (12 + 7 * n ≤ i ∧ i < 68) → s i = u i
theorem Eqv.rf {n : Nat} {s : Nat → Int32} : Eqv n s s := fun _ _ _ => rfl
theorem Eqv.sy {n : Nat} {s u : Nat → Int32} (h : Eqv n s u) : Eqv n u s := fun i a b => (h i a b).symm
theorem Eqv.tr {n : Nat} {s u v : Nat → Int32} (h : Eqv n s u) (h2 : Eqv n u v) : Eqv n s v := fun i a b => (h i a b).trans (h2 i a b)
theorem Eqv.lo {n i : Nat} {s u : Nat → Int32} (h : Eqv n s u) (hi : i < 12) : s i = u i := h i (by omega) (by omega)
theorem Eqv.pp {n k f : Nat} {s u : Nat → Int32} (h : Eqv n s u) (h8 : n ≤ 8) (hk : k < n) (hf : f < 7) : s (12 + 7 * k + f) = u (12 + 7 * k + f) := h _ (by omega) (by omega)
theorem Eqv.sp {n j : Nat} {s u : Nat → Int32} (h : Eqv n s u) (hj : j < 10) : s (68 + j) = u (68 + j) := h _ (by omega) (by omega)
theorem Eqv.of {n : Nat} {s u : Nat → Int32} (h1 : ∀ i, i < 12 → s i = u i) (h2 : ∀ k, k < n → ∀ f, f < 7 → s (12 + 7 * k + f) = u (12 + 7 * k + f)) (h3 : ∀ j, j < 10 → s (68 + j) = u (68 + j)) : Eqv n s u := by
  intro i hi hn
  by_cases a : i < 12
  · exact h1 i a
  · by_cases b : 68 ≤ i
    · have := h3 (i - 68) (by omega)
      rwa [show 68 + (i - 68) = i by omega] at this
    · have h := h2 ((i - 12) / 7) (by omega) ((i - 12) % 7) (by omega)
      rwa [show 12 + 7 * ((i - 12) / 7) + (i - 12) % 7 = i by omega] at h
theorem Eqv.iv {n : Nat} {s u : Nat → Int32} (h : Eqv n s u) (hI : Iv n s) : Iv n u := by
  obtain ⟨h8, e1, hd, hl, hp, hs⟩ := hI
  refine ⟨h8, by rw [← h.lo (by decide), e1], by rw [← h.lo (by decide)]; exact hd, by rw [← h.lo (by decide)]; exact hl, fun k hk => ?_, fun j hj => ?_⟩
  · rw [← h.pp h8 hk (by decide), ← h.pp h8 hk (by decide)]
    exact hp k hk
  · rw [← h.sp hj]
    exact hs j hj
theorem Eqv.td {n : Nat} {s u : Nat → Int32} (h : Eqv n s u) (ht : TD s) : tdF s = tdF u := by
  have e : tdx s = tdx u := by unfold tdx; rw [h.lo (by decide), h.lo (by decide)]
  have hx := ht.2.2
  unfold tdF
  rw [← e, h.lo (by omega), h.lo (by decide)]
theorem tk3_congr {t d : Int32} {p q : Nat → Int32} (h : ∀ f, f < 7 → p f = q f) : tk3 t d p ↔ tk3 t d q := by
  unfold tk3 tkp
  rw [h 0 (by decide), h 1 (by decide), h 2 (by decide), h 4 (by decide), h 5 (by decide), h 6 (by decide)]
theorem amL_congr {n : Nat} {t : Int32} {s u : Nat → Int32} (h : Eqv n s u) (h8 : n ≤ 8) : ∀ j, j ≤ n → amL s t j = amL u t j
  | 0, _ => h.lo (by decide)
  | j + 1, hj => by
    have e := amL_congr (t := t) h h8 j (by omega)
    have hp : ∀ f, f < 7 → pf s j f = pf u j f := fun f hf => h.pp h8 (by omega) hf
    have e0 : s 0 = u 0 := h.lo (by decide)
    by_cases hk : tk3 t (s 0) (pf s j)
    · have hk2 : tk3 t (u 0) (pf u j) := by rw [← e0]; exact (tk3_congr hp).mp hk
      simp only [amL, if_pos hk, if_pos hk2]
      rw [e, hp 0 (by decide), hp 2 (by decide)]
    · have hk2 : ¬ tk3 t (u 0) (pf u j) := by rw [← e0]; exact fun q => hk ((tk3_congr hp).mpr q)
      simp only [amL, if_neg hk, if_neg hk2]
      exact e
theorem laL_congr {n : Nat} {t : Int32} {s u : Nat → Int32} (h : Eqv n s u) (h8 : n ≤ 8) : ∀ j, j ≤ n → laL s t j = laL u t j
  | 0, _ => h.lo (by decide)
  | j + 1, hj => by
    have e := laL_congr (t := t) h h8 j (by omega)
    have hp : ∀ f, f < 7 → pf s j f = pf u j f := fun f hf => h.pp h8 (by omega) hf
    have e0 : s 0 = u 0 := h.lo (by decide)
    by_cases hk : tk3 t (s 0) (pf s j)
    · have hk2 : tk3 t (u 0) (pf u j) := by rw [← e0]; exact (tk3_congr hp).mp hk
      simp only [laL, if_pos hk, if_pos hk2]
      rw [e, hp 0 (by decide)]
    · have hk2 : ¬ tk3 t (u 0) (pf u j) := by rw [← e0]; exact fun q => hk ((tk3_congr hp).mpr q)
      simp only [laL, if_neg hk, if_neg hk2]
      exact e
theorem Eqv.day {n : Nat} {s u : Nat → Int32} (h : Eqv n s u) (hI : Iv n s) : Eqv n (dyC s n) (dyC u n) := by
  have h8 := hI.1
  have et := h.td hI.td
  refine Eqv.of (fun i hi => ?_) (fun k hk f hf => ?_) (fun j hj => ?_)
  · by_cases a0 : i = 0
    · subst a0; rw [dyC_0, dyC_0, h.lo (by decide)]
    · by_cases a3 : i = 3
      · subst a3; rw [dyC_3, dyC_3, et]; exact amL_congr h h8 n (Nat.le_refl n)
      · by_cases a4 : i = 4
        · subst a4; rw [dyC_4, dyC_4, et]; exact laL_congr h h8 n (Nat.le_refl n)
        · rw [dyC_lo hi a0 a3 a4, dyC_lo hi a0 a3 a4, h.lo hi]
  · rw [dyC_p hk hf, dyC_p hk hf, et, h.lo (i := 0) (by decide)]
    exact stp_congr (fun g hg => h.pp h8 hk hg) f hf
  · rw [dyC_hi (by omega), dyC_hi (by omega), h.sp hj]
theorem Eqv.days {n : Nat} : ∀ (c : Nat) {s u : Nat → Int32}, Eqv n s u → Iv n s → Eqv n (dysC n c s) (dysC n c u)
  | 0, _, _, h, _ => h
  | c + 1, _, _, h, hI => Eqv.days c (h.day hI) hI.day
theorem thF_congr {n : Nat} {x : Int32} {s u : Nat → Int32} (h : Eqv n s u) (h8 : n ≤ 8) : ∀ j, j ≤ n → thF s x j = thF u x j
  | 0, _ => rfl
  | j + 1, hj => by unfold thF; rw [h.pp h8 (by omega) (by decide), thF_congr h h8 j (by omega)]
theorem lyF_congr {n : Nat} {x : Int32} {s u : Nat → Int32} (h : Eqv n s u) (h8 : n ≤ 8) : ∀ j, j ≤ n → lyF s x j = lyF u x j
  | 0, _ => rfl
  | j + 1, hj => by unfold lyF; rw [h.pp h8 (by omega) (by decide), h.pp h8 (by omega) (by decide), lyF_congr h h8 j (by omega)]
theorem weF_congr {n : Nat} {s u : Nat → Int32} (h : Eqv n s u) (h8 : n ≤ 8) : ∀ j, j ≤ n → weF s j = weF u j
  | 0, _ => rfl
  | j + 1, hj => by unfold weF; rw [h.pp h8 (by omega) (by decide), h.pp h8 (by omega) (by decide), weF_congr h h8 j (by omega)]
theorem tld_congr {n k : Nat} {x : Int32} {s u : Nat → Int32} (h : Eqv n s u) (h8 : n ≤ 8) (hk : k < n) : tld s k x = tld u k x := by
  unfold tld
  rw [h.pp h8 hk (by decide), h.pp h8 hk (by decide), h.pp h8 hk (by decide), h.pp h8 hk (by decide), h.pp h8 hk (by decide), h.pp h8 hk (by decide), h.pp h8 hk (by decide)]
/-- a write that both see -/
theorem eqv_upd {n i : Nat} {v : Int32} {s u : Nat → Int32} (h : Eqv n s u) : Eqv n (upd s i v) (upd u i v) := by
  intro j a b
  by_cases e : j = i
  · subst e; rw [upd_self, upd_self]
  · rw [upd_ne e, upd_ne e, h j a b]
/-- the row of a coast that has become as another -/
theorem bcL_all {s u : Nat → Int32} : ∀ j, (∀ k, k < j → ∀ f, f < 7 → bcL s u j (12 + 7 * k + f) = u (12 + 7 * k + f)) ∧ (∀ i, 12 + 7 * j ≤ i → bcL s u j i = s i)
  | 0 => ⟨fun k hk => absurd hk (Nat.not_lt_zero k), fun _ _ => rfl⟩
  | j + 1 => by
    obtain ⟨h1, h2⟩ := bcL_all (s := s) (u := u) j
    have hin : ∀ f, f < 7 → bcP (bcL s u j) u j j (12 + 7 * j + f) = u (12 + 7 * j + f) := by
      intro f hf
      unfold bcP
      match f, hf with
      | 0, _ => rw [upd_ne (by omega), upd_ne (by omega), upd_ne (by omega), upd_ne (by omega), upd_ne (by omega), upd_ne (by omega), upd_self]
      | 1, _ => rw [upd_ne (by omega), upd_ne (by omega), upd_ne (by omega), upd_ne (by omega), upd_ne (by omega), upd_self]
      | 2, _ => rw [upd_ne (by omega), upd_ne (by omega), upd_ne (by omega), upd_ne (by omega), upd_self]
      | 3, _ => rw [upd_ne (by omega), upd_ne (by omega), upd_ne (by omega), upd_self]
      | 4, _ => rw [upd_ne (by omega), upd_ne (by omega), upd_self]
      | 5, _ => rw [upd_ne (by omega), upd_self]
      | 6, _ => rw [upd_self]
      | g + 7, h => exact absurd h (by omega)
    have hout : ∀ i, (i < 12 + 7 * j ∨ 12 + 7 * j + 7 ≤ i) → bcP (bcL s u j) u j j i = bcL s u j i := by
      intro i hi
      unfold bcP
      rw [upd_ne (by omega), upd_ne (by omega), upd_ne (by omega), upd_ne (by omega), upd_ne (by omega), upd_ne (by omega), upd_ne (by omega)]
    refine ⟨fun k hk f hf => ?_, fun i hi => ?_⟩
    · show bcP (bcL s u j) u j j (12 + 7 * k + f) = _
      by_cases e : k = j
      · subst e; exact hin f hf
      · rw [hout _ (by omega)]
        exact h1 k (by omega) f hf
    · show bcP (bcL s u j) u j j i = _
      rw [hout _ (by omega), h2 i (by omega)]
theorem bcF_eqv {n : Nat} {s u : Nat → Int32} (h8 : n ≤ 8) : Eqv n (bcF s u n) u := by
  unfold bcF
  refine Eqv.of (fun i hi => ?_) (fun k hk f hf => ?_) (fun j hj => ?_)
  · have e : cpR (bcL (bc0 s u) u n) u 68 68 10 i = bcL (bc0 s u) u n i := by unfold cpR; rw [if_neg (by omega)]
    rw [e, bcL_lo hi]
    unfold bc0
    by_cases a1 : i = 1
    · subst a1; rw [upd_self]
    rw [upd_ne a1]
    by_cases a2 : i = 2
    · subst a2; rw [upd_self]
    rw [upd_ne a2]
    by_cases a0 : i = 0
    · subst a0; rw [upd_self]
    rw [upd_ne a0]
    by_cases a3 : i = 3
    · subst a3; rw [upd_self]
    rw [upd_ne a3]
    by_cases a5 : i = 5
    · subst a5; rw [upd_self]
    rw [upd_ne a5]
    by_cases a4 : i = 4
    · subst a4; rw [upd_self]
    rw [upd_ne a4]
    unfold cpR
    rw [if_pos (by omega)]
    exact congrArg u (by omega)
  · have e : cpR (bcL (bc0 s u) u n) u 68 68 10 (12 + 7 * k + f) = bcL (bc0 s u) u n (12 + 7 * k + f) := by unfold cpR; rw [if_neg (by omega)]
    rw [e]
    exact (bcL_all n).1 k hk f hf
  · unfold cpR
    rw [if_pos (by omega)]
    exact congrArg u (by omega)
end
section
/-! the class's own calls -/
def fnd (m : TM) (w : Nat) : TM := st1 m 40 w (m.1 40 w + 1)
def fnm (m : TM) (w : Nat) : TM := st1 m 53 w (m.1 53 w + 1)
def cl (i : Int32) : Nat := i.toNatClampNeg
theorem ix_out {i c : Int32} {n : Nat} (h : outI i 0 c = false) (hc : c.toInt < n) : IX i (cl i) n := by
  unfold outI at h
  rw [Bool.or_eq_false_iff] at h
  exact ix_le (of_decide_eq_false h.1) (of_decide_eq_false h.2) hc
theorem par_k {p x : Int32} {n : Nat} (hn : x = nI n) (h8 : n ≤ 8) (h : outI p 0 (x - 1) = false) : IX p (cl p) 8 ∧ cl p < n := by
  unfold outI at h
  rw [Bool.or_eq_false_iff] at h
  have h1 := of_decide_eq_false h.1
  have h2 := of_decide_eq_false h.2
  have e := toInt_clamp h1
  cases n with
  | zero =>
    exfalso
    subst hn
    rw [Int32.lt_iff_toInt_lt] at h1 h2
    have z : (nI 0 - 1 : Int32).toInt = -1 := by decide
    rw [z] at h2
    have z0 : (0 : Int32).toInt = 0 := by decide
    rw [z0] at h1
    omega
  | succ k =>
    subst hn
    rw [nI_pred, Int32.lt_iff_toInt_lt, jnI_toInt (by omega)] at h2
    have hk : cl p < k + 1 := by unfold cl; omega
    exact ⟨⟨h1, rfl, by omega⟩, hk⟩
theorem par_nI {p x : Int32} {n : Nat} (hn : x = nI n) (h8 : n ≤ 8) (h : outI p 0 (x - 1) = false) : p = nI (cl p) := jnI_of (par_k hn h8 h).1.1
theorem sw_out {x : Int32} (h0 : ¬ x = 0) (h1 : ¬ x = 1) (h2 : ¬ x = 2) (h3 : ¬ x = 3) (h4 : ¬ x = 4) (h5 : ¬ x = 5) (h6 : ¬ x = 6) (h7 : ¬ x = 7) : outI x 0 7 = true := by
  have n0 := lv_neT h0 (a := 0) (by decide)
  have n1 := lv_neT h1 (a := 1) (by decide)
  have n2 := lv_neT h2 (a := 2) (by decide)
  have n3 := lv_neT h3 (a := 3) (by decide)
  have n4 := lv_neT h4 (a := 4) (by decide)
  have n5 := lv_neT h5 (a := 5) (by decide)
  have n6 := lv_neT h6 (a := 6) (by decide)
  have n7 := lv_neT h7 (a := 7) (by decide)
  unfold outI
  rw [Bool.or_eq_true, decide_eq_true_iff, decide_eq_true_iff, Int32.lt_iff_toInt_lt, Int32.lt_iff_toInt_lt]
  have z0 : (0 : Int32).toInt = 0 := by decide
  have z7 : (7 : Int32).toInt = 7 := by decide
  rw [z0, z7]
  omega
theorem p_X0_tideOfDay {K : Cx} {b : Nat} {m : TM} (hb : isC b) (ht : TD (m.1 b)) : CT yX0_tideOfDay cX0_tideOfDay 1 (some .int) 0 0 K [.ref b] m (some (.int (tdF (m.1 b)))) (m) := by
  have h := c_X0_tideOfDay (K := K) (m := m) (s := m.1 b) hb ht
  rw [sr_self] at h
  exact h
theorem p_X0_allThatAre {K : Cx} {b : Nat} {m : TM} {n8 : Nat} {x : Int32} (hb : isC b) (hn : m.1 b 1 = nI n8) (h8 : n8 ≤ 8) : CT yX0_allThatAre cX0_allThatAre 4 (some .int) 0 0 K [.ref b, .int x] m (some (.int (thF (m.1 b) x n8))) (m) := by
  have h := c_X0_allThatAre (K := K) (m := m) (s := m.1 b) (x := x) hb hn h8
  rw [sr_self] at h
  exact h
theorem p_X0_lyingOn {K : Cx} {b : Nat} {m : TM} {n8 : Nat} {x : Int32} (hb : isC b) (hn : m.1 b 1 = nI n8) (h8 : n8 ≤ 8) : CT yX0_lyingOn cX0_lyingOn 4 (some .int) 0 0 K [.ref b, .int x] m (some (.int (lyF (m.1 b) x n8))) (m) := by
  have h := c_X0_lyingOn (K := K) (m := m) (s := m.1 b) (x := x) hb hn h8
  rw [sr_self] at h
  exact h
theorem p_X0_weightThatLies {K : Cx} {b : Nat} {m : TM} {n8 : Nat} (hb : isC b) (hn : m.1 b 1 = nI n8) (h8 : n8 ≤ 8) : CT yX0_weightThatLies cX0_weightThatLies 3 (some .int) 0 0 K [.ref b] m (some (.int (weF (m.1 b) n8))) (m) := by
  have h := c_X0_weightThatLies (K := K) (m := m) (s := m.1 b) hb hn h8
  rw [sr_self] at h
  exact h
theorem p_X0_spotsThatHold {K : Cx} {b : Nat} {m : TM} (hb : isC b) : CT yX0_spotsThatHold cX0_spotsThatHold 6 (some .int) 0 0 K [.ref b] m (some (.int (spF (m.1 b) 10))) (m) := by
  have h := c_X0_spotsThatHold (K := K) (m := m) (s := m.1 b) hb
  rw [sr_self] at h
  exact h
theorem p_X0_passDay {K : Cx} {b : Nat} {m : TM} {n8 : Nat} (hb : isC b) (hI : Iv n8 (m.1 b)) : CT yX0_passDay cX0_passDay 4 none 3 64 K [.ref b] m none (sr m b (dyC (m.1 b) n8)) := by
  have h := c_X0_passDay (K := K) (m := m) (s := m.1 b) hb hI.2.1 hI.1 hI.td
  rw [sr_self] at h
  exact h
theorem p_X0_passDays {K : Cx} {b : Nat} {m : TM} {n8 c : Nat} (hb : isC b) (hc : c ≤ 1000) (hI : Iv n8 (m.1 b)) : CT yX0_passDays cX0_passDays 3 none 4 87 K [.ref b, .int (nI c)] m none (sr m b (dysC n8 c (m.1 b))) := by
  have h := c_X0_passDays (K := K) (m := m) (s := m.1 b) hb hc hI
  rw [sr_self] at h
  exact h
theorem p_X0_becomeAs {K : Cx} {b : Nat} {m : TM} {b2 n8 : Nat} (hb : isC b) (h2 : isC b2) (hne : b2 ≠ b) (hn : m.1 b2 1 = nI n8) (h8 : n8 ≤ 8) : CT yX0_becomeAs cX0_becomeAs 3 none 1 30 K [.ref b, .ref b2] m none (sr m b (bcF (m.1 b) (m.1 b2) n8)) := by
  have h := c_X0_becomeAs (K := K) (m := m) (s := m.1 b) hb h2 hne hn h8
  rw [sr_self] at h
  exact h
theorem p_X0_lay {K : Cx} {b : Nat} {m : TM} {n8 : Nat} {x : Int32} (hb : isC b) (hn : m.1 b 1 = nI n8) (h8 : n8 < 8) : CT yX0_lay cX0_lay 3 (some (.object "SeaParcels$Parcel")) 1 21 K [.ref b, .int x] m (some (.ref (b + 4 + n8))) (sr m b (upd (newF (m.1 b) n8 x) 1 (nI (n8 + 1)))) := by
  have h := c_X0_lay (K := K) (m := m) (s := m.1 b) (x := x) hb hn h8
  rw [sr_self] at h
  exact h
theorem p_X0_layN {K : Cx} {b : Nat} {m : TM} {x : Int32} (hb : isC b) (hn : m.1 b 1 = nI 8) : CT yX0_lay cX0_lay 3 (some (.object "SeaParcels$Parcel")) 1 21 K [.ref b, .int x] m (some .null) m := by
  have h := c_X0_layN (K := K) (m := m) (s := m.1 b) (x := x) hb hn
  rw [sr_self] at h
  exact h
theorem p_X0_nextDraw {K : Cx} {b : Nat} {m : TM} (hb : isC b) : CT yX0_nextDraw cX0_nextDraw 1 (some .int) 0 0 K [.ref b] m (some (.int (dr (m.1 b 2)))) (sr m b (upd (m.1 b) 2 (nz (m.1 b 2)))) := by
  have h := c_X0_nextDraw (K := K) (m := m) (s := m.1 b) hb
  rw [sr_self] at h
  exact h
theorem p_X1_told {K : Cx} {b : Nat} {m : TM} {k : Nat} {x : Int32} (hb : isC b) (hk : k < 8) : CT yX1_told cX1_told 2 (some .int) 1 22 K [.ref (b + 4 + k), .int x] m (some (.int (tld (m.1 b) k x))) (m) := by
  have h := c_X1_told (K := K) (m := m) (s := m.1 b) (x := x) hb hk
  rw [sr_self] at h
  exact h
theorem p_X1_put {K : Cx} {b : Nat} {m : TM} {k : Nat} {x v : Int32} (hb : isC b) (hk : k < 8) : CT yX1_put cX1_put 3 none 0 0 K [.ref (b + 4 + k), .int x, .int v] m none (sr m b (ptF (m.1 b) k x v)) := by
  have h := c_X1_put (K := K) (m := m) (s := m.1 b) (x := x) (v := v) hb hk
  rw [sr_self] at h
  exact h
theorem p_X1_isSignedFor {K : Cx} {b : Nat} {m : TM} {k : Nat} {t d : Int32} (hb : isC b) (hk : k < 8) : CT yX1_isSignedFor cX1_isSignedFor 3 (some .boolean) 1 20 K [.ref (b + 4 + k), .int t, .int d] m (some (.int (bI (sg (m.1 b (12 + 7 * k + 0)) (m.1 b (12 + 7 * k + 1)) (m.1 b (12 + 7 * k + 2)) (m.1 b (12 + 7 * k + 6)) d t)))) (m) := by
  have h := c_X1_isSignedFor (K := K) (m := m) (s := m.1 b) (t := t) (d := d) hb hk
  rw [sr_self] at h
  exact h
theorem p_X1_isA {K : Cx} {b : Nat} {m : TM} {k : Nat} {so : Int32} (hb : isC b) (hk : k < 8) : CT yX1_isA cX1_isA 4 (some .boolean) 1 20 K [.ref (b + 4 + k), .int so] m (some (.int (bI (anc 7 (m.1 b (12 + 7 * k + 0)) so)))) (m) := by
  have h := c_X1_isA (K := K) (m := m) (s := m.1 b) (so := so) hb hk
  rw [sr_self] at h
  exact h
theorem dX4_finding_0 : decode cX4_finding 0 = .ok (.ldc 48, 2) := by decide +kernel
theorem dX4_finding_2 : decode cX4_finding 2 = .ok (.iload_n 1, 1) := by decide +kernel
theorem dX4_finding_3 : decode cX4_finding 3 = .ok (.isub, 1) := by decide +kernel
theorem dX4_finding_4 : decode cX4_finding 4 = .ok (.istore_n 2, 1) := by decide +kernel
theorem dX4_finding_5 : decode cX4_finding 5 = .ok (.iload_n 2, 1) := by decide +kernel
theorem dX4_finding_6 : decode cX4_finding 6 = .ok (.iconst 0, 1) := by decide +kernel
theorem dX4_finding_7 : decode cX4_finding 7 = .ok (.bipush 6, 2) := by decide +kernel
theorem dX4_finding_9 : decode cX4_finding 9 = .ok (.invokestatic 44, 3) := by decide +kernel
theorem dX4_finding_12 : decode cX4_finding 12 = .ok (.ifCond .ne 13, 3) := by decide +kernel
theorem dX4_finding_15 : decode cX4_finding 15 = .ok (.aload_n 0, 1) := by decide +kernel
theorem dX4_finding_16 : decode cX4_finding 16 = .ok (.getfield 39, 3) := by decide +kernel
theorem dX4_finding_19 : decode cX4_finding 19 = .ok (.iload_n 2, 1) := by decide +kernel
theorem dX4_finding_20 : decode cX4_finding 20 = .ok (.dup2, 1) := by decide +kernel
theorem dX4_finding_21 : decode cX4_finding 21 = .ok (.iaload, 1) := by decide +kernel
theorem dX4_finding_22 : decode cX4_finding 22 = .ok (.iconst 1, 1) := by decide +kernel
theorem dX4_finding_23 : decode cX4_finding 23 = .ok (.iadd, 1) := by decide +kernel
theorem dX4_finding_24 : decode cX4_finding 24 = .ok (.iastore, 1) := by decide +kernel
theorem dX4_finding_25 : decode cX4_finding 25 = .ok (.iload_n 1, 1) := by decide +kernel
theorem dX4_finding_26 : decode cX4_finding 26 = .ok (.ireturn, 1) := by decide +kernel
set_option maxRecDepth 20000 in
set_option maxHeartbeats 4000000 in
theorem c_X4_finding {K : Cx} {x : Int32} {w : Nat} {m : TM} (hx : -1000001 - x = nI w) (hw : w < 7) : CT yX4_finding cX4_finding 3 (some .int) 1 22 K [.ref 0, .int x] (m) (some (.int (x))) (fnd m w) := by
  refine ct_ofd (n := 1) (by decide +kernel) rfl rfl ?_
  show XX RX4 cX4_finding 3 (some .int) 1 22 K 0 [some (.ref 0), some (.int x), none] [] (m) (fun r1 m1 => r1 = (some (.int (x))) ∧ m1 = fnd m w)
  refine x_ldc (q := 2) dX4_finding_0 rfl kc_X4_48 ?_
  refine x_iload_n (q := 3) dX4_finding_2 rfl rfl ?_
  refine x_isub (q := 4) dX4_finding_3 rfl ?_
  refine x_istore_n (q := 5) dX4_finding_4 rfl (by decide) rfl rfl ?_
  refine x_iload_n (q := 6) dX4_finding_5 rfl rfl ?_
  refine x_iconst (q := 7) (v := 0) dX4_finding_6 rfl (by decide) ?_
  refine x_bipush (q := 9) (v := 6) dX4_finding_7 rfl (by decide) ?_
  refine x_callS3v (q := 12) dX4_finding_9 rfl ml_X4_44 ms_X4_isOut c_X4_isOut (Nat.le_of_ble_eq_true rfl) ⟨by decide, by decide⟩ ?_
  refine x_ifB_ne (q := 15) (t := 25) dX4_finding_12 rfl (by decide) (fun h12 => ?_) (fun h12 => ?_)
  · refine x_iload_n (q := 26) dX4_finding_25 rfl rfl ?_
    refine x_ireturn dX4_finding_26 rfl rfl ?_
    exfalso
    rw [hx] at h12
    have h1 := jnI_nneg (k := w) (by omega)
    have h2 : ¬ (6 : Int32) < nI w := fun q => absurd ((jnI_lt (a := 6) (by omega) (by omega)).mp q) (by omega)
    simp [outI, h1, h2] at h12
  refine x_aload_n (q := 16) dX4_finding_15 rfl rfl ?_
  refine x_getR (q := 19) dX4_finding_16 rfl fl_X4_39 (or4_found) ?_
  refine x_iload_n (q := 20) dX4_finding_19 rfl rfl ?_
  refine x_dup2 (q := 21) dX4_finding_20 rfl rfl rfl ?_
  refine x_iald (q := 22) dX4_finding_21 rfl (ar_40) (by rw [hx]; exact ix_nI hw (by decide)) (Nat.zero_add _) ?_
  refine x_iconst (q := 23) (v := 1) dX4_finding_22 rfl (by decide) ?_
  refine x_iadd (q := 24) dX4_finding_23 rfl ?_
  refine x_iast (q := 25) dX4_finding_24 rfl (ar_40) (by rw [hx]; exact ix_nI hw (by decide)) (Nat.zero_add _) rfl ?_
  refine x_iload_n (q := 26) dX4_finding_25 rfl rfl ?_
  refine x_ireturn dX4_finding_26 rfl rfl ?_
  exact ⟨rfl, rfl⟩
theorem dX4_tide_0 : decode cX4_tide 0 = .ok (.iload_n 1, 1) := by decide +kernel
theorem dX4_tide_1 : decode cX4_tide 1 = .ok (.iconst 0, 1) := by decide +kernel
theorem dX4_tide_2 : decode cX4_tide 2 = .ok (.iconst 5, 1) := by decide +kernel
theorem dX4_tide_3 : decode cX4_tide 3 = .ok (.invokestatic 44, 3) := by decide +kernel
theorem dX4_tide_6 : decode cX4_tide 6 = .ok (.ifCond .ne 13, 3) := by decide +kernel
theorem dX4_tide_9 : decode cX4_tide 9 = .ok (.iload_n 2, 1) := by decide +kernel
theorem dX4_tide_10 : decode cX4_tide 10 = .ok (.iconst 0, 1) := by decide +kernel
theorem dX4_tide_11 : decode cX4_tide 11 = .ok (.bipush 20, 2) := by decide +kernel
theorem dX4_tide_13 : decode cX4_tide 13 = .ok (.invokestatic 44, 3) := by decide +kernel
theorem dX4_tide_16 : decode cX4_tide 16 = .ok (.ifCond .eq 10, 3) := by decide +kernel
theorem dX4_tide_19 : decode cX4_tide 19 = .ok (.aload_n 0, 1) := by decide +kernel
theorem dX4_tide_20 : decode cX4_tide 20 = .ok (.ldc 48, 2) := by decide +kernel
theorem dX4_tide_22 : decode cX4_tide 22 = .ok (.invokevirtual 49, 3) := by decide +kernel
theorem dX4_tide_25 : decode cX4_tide 25 = .ok (.ireturn, 1) := by decide +kernel
theorem dX4_tide_26 : decode cX4_tide 26 = .ok (.aload_n 0, 1) := by decide +kernel
theorem dX4_tide_27 : decode cX4_tide 27 = .ok (.getfield 12, 3) := by decide +kernel
theorem dX4_tide_30 : decode cX4_tide 30 = .ok (.getfield 53, 3) := by decide +kernel
theorem dX4_tide_33 : decode cX4_tide 33 = .ok (.iload_n 1, 1) := by decide +kernel
theorem dX4_tide_34 : decode cX4_tide 34 = .ok (.iaload, 1) := by decide +kernel
theorem dX4_tide_35 : decode cX4_tide 35 = .ok (.istore_n 3, 1) := by decide +kernel
theorem dX4_tide_36 : decode cX4_tide 36 = .ok (.aload_n 0, 1) := by decide +kernel
theorem dX4_tide_37 : decode cX4_tide 37 = .ok (.getfield 12, 3) := by decide +kernel
theorem dX4_tide_40 : decode cX4_tide 40 = .ok (.getfield 53, 3) := by decide +kernel
theorem dX4_tide_43 : decode cX4_tide 43 = .ok (.iload_n 1, 1) := by decide +kernel
theorem dX4_tide_44 : decode cX4_tide 44 = .ok (.iload_n 2, 1) := by decide +kernel
theorem dX4_tide_45 : decode cX4_tide 45 = .ok (.iastore, 1) := by decide +kernel
theorem dX4_tide_46 : decode cX4_tide 46 = .ok (.iload_n 3, 1) := by decide +kernel
theorem dX4_tide_47 : decode cX4_tide 47 = .ok (.ireturn, 1) := by decide +kernel
set_option maxRecDepth 20000 in
set_option maxHeartbeats 4000000 in
theorem c_X4_tide {K : Cx} {i v : Int32} {m : TM} : CT yX4_tide cX4_tide 4 (some .int) 2 44 K [.ref 0, .int i, .int v] (m) (some (.int ((if (outI i 0 5 || outI v 0 20) = true then (-1000001) else m.1 1 (6 + cl i))))) ((if (outI i 0 5 || outI v 0 20) = true then fnd m 0 else sr m 1 (upd (m.1 1) (6 + cl i) v))) := by
  refine ct_ofd (n := 1) (by decide +kernel) rfl rfl ?_
  show XX RX4 cX4_tide 4 (some .int) 2 44 K 0 [some (.ref 0), some (.int i), some (.int v), none] [] (m) (fun r1 m1 => r1 = (some (.int ((if (outI i 0 5 || outI v 0 20) = true then (-1000001) else m.1 1 (6 + cl i))))) ∧ m1 = (if (outI i 0 5 || outI v 0 20) = true then fnd m 0 else sr m 1 (upd (m.1 1) (6 + cl i) v)))
  refine x_iload_n (q := 1) dX4_tide_0 rfl rfl ?_
  refine x_iconst (q := 2) (v := 0) dX4_tide_1 rfl (by decide) ?_
  refine x_iconst (q := 3) (v := 5) dX4_tide_2 rfl (by decide) ?_
  refine x_callS3v (q := 6) dX4_tide_3 rfl ml_X4_44 ms_X4_isOut c_X4_isOut (Nat.le_of_ble_eq_true rfl) ⟨by decide, by decide⟩ ?_
  refine x_ifB_ne (q := 9) (t := 19) dX4_tide_6 rfl (by decide) (fun h6 => ?_) (fun h6 => ?_)
  · refine x_aload_n (q := 20) dX4_tide_19 rfl rfl ?_
    refine x_ldc (q := 22) dX4_tide_20 rfl kc_X4_48 ?_
    refine x_callV1v (q := 25) dX4_tide_22 rfl ml_X4_49 mv_X4_finding rv4 rfl (c_X4_finding (w := 0) (by decide) (by decide)) (Nat.le_of_ble_eq_true rfl) ⟨by decide, by decide⟩ ?_
    refine x_ireturn dX4_tide_25 rfl rfl ?_
    exact ⟨by simp [h6, st1_eq], by simp [h6, st1_eq]⟩
  refine x_iload_n (q := 10) dX4_tide_9 rfl rfl ?_
  refine x_iconst (q := 11) (v := 0) dX4_tide_10 rfl (by decide) ?_
  refine x_bipush (q := 13) (v := 20) dX4_tide_11 rfl (by decide) ?_
  refine x_callS3v (q := 16) dX4_tide_13 rfl ml_X4_44 ms_X4_isOut c_X4_isOut (Nat.le_of_ble_eq_true rfl) ⟨by decide, by decide⟩ ?_
  refine x_ifB_eq (q := 19) (t := 26) dX4_tide_16 rfl (by decide) (fun h16 => ?_) (fun h16 => ?_)
  · refine x_aload_n (q := 27) dX4_tide_26 rfl rfl ?_
    refine x_getR (q := 30) dX4_tide_27 rfl fl_X4_12 (or4_coast) ?_
    refine x_getR (q := 33) dX4_tide_30 rfl fl_X4_53 (or0_list isC_1) ?_
    refine x_iload_n (q := 34) dX4_tide_33 rfl rfl ?_
    refine x_iald (q := 35) dX4_tide_34 rfl (ar_list isC_1) (ix_out h6 (by decide)) rfl ?_
    refine x_istore_n (q := 36) dX4_tide_35 rfl (by decide) rfl rfl ?_
    refine x_aload_n (q := 37) dX4_tide_36 rfl rfl ?_
    refine x_getR (q := 40) dX4_tide_37 rfl fl_X4_12 (or4_coast) ?_
    refine x_getR (q := 43) dX4_tide_40 rfl fl_X4_53 (or0_list isC_1) ?_
    refine x_iload_n (q := 44) dX4_tide_43 rfl rfl ?_
    refine x_iload_n (q := 45) dX4_tide_44 rfl rfl ?_
    refine x_iast (q := 46) dX4_tide_45 rfl (ar_list isC_1) (ix_out h6 (by decide)) rfl rfl ?_
    refine x_iload_n (q := 47) dX4_tide_46 rfl rfl ?_
    refine x_ireturn dX4_tide_47 rfl rfl ?_
    exact ⟨by simp [h6, h16, st1_eq], by simp [h6, h16, st1_eq]⟩
  refine x_aload_n (q := 20) dX4_tide_19 rfl rfl ?_
  refine x_ldc (q := 22) dX4_tide_20 rfl kc_X4_48 ?_
  refine x_callV1v (q := 25) dX4_tide_22 rfl ml_X4_49 mv_X4_finding rv4 rfl (c_X4_finding (w := 0) (by decide) (by decide)) (Nat.le_of_ble_eq_true rfl) ⟨by decide, by decide⟩ ?_
  refine x_ireturn dX4_tide_25 rfl rfl ?_
  exact ⟨by simp [h6, h16, st1_eq], by simp [h6, h16, st1_eq]⟩
theorem dX4_listed_0 : decode cX4_listed 0 = .ok (.iload_n 1, 1) := by decide +kernel
theorem dX4_listed_1 : decode cX4_listed 1 = .ok (.iconst 0, 1) := by decide +kernel
theorem dX4_listed_2 : decode cX4_listed 2 = .ok (.iconst 5, 1) := by decide +kernel
theorem dX4_listed_3 : decode cX4_listed 3 = .ok (.invokestatic 44, 3) := by decide +kernel
theorem dX4_listed_6 : decode cX4_listed 6 = .ok (.ifCond .eq 10, 3) := by decide +kernel
theorem dX4_listed_9 : decode cX4_listed 9 = .ok (.aload_n 0, 1) := by decide +kernel
theorem dX4_listed_10 : decode cX4_listed 10 = .ok (.ldc 48, 2) := by decide +kernel
theorem dX4_listed_12 : decode cX4_listed 12 = .ok (.invokevirtual 49, 3) := by decide +kernel
theorem dX4_listed_15 : decode cX4_listed 15 = .ok (.ireturn, 1) := by decide +kernel
theorem dX4_listed_16 : decode cX4_listed 16 = .ok (.aload_n 0, 1) := by decide +kernel
theorem dX4_listed_17 : decode cX4_listed 17 = .ok (.getfield 12, 3) := by decide +kernel
theorem dX4_listed_20 : decode cX4_listed 20 = .ok (.getfield 53, 3) := by decide +kernel
theorem dX4_listed_23 : decode cX4_listed 23 = .ok (.iload_n 1, 1) := by decide +kernel
theorem dX4_listed_24 : decode cX4_listed 24 = .ok (.iaload, 1) := by decide +kernel
theorem dX4_listed_25 : decode cX4_listed 25 = .ok (.ireturn, 1) := by decide +kernel
set_option maxRecDepth 20000 in
set_option maxHeartbeats 4000000 in
theorem c_X4_listed {K : Cx} {i : Int32} {m : TM} : CT yX4_listed cX4_listed 2 (some .int) 2 44 K [.ref 0, .int i] (m) (some (.int ((if (outI i 0 5) = true then (-1000001) else m.1 1 (6 + cl i))))) ((if (outI i 0 5) = true then fnd m 0 else m)) := by
  refine ct_ofd (n := 0) (by decide +kernel) rfl rfl ?_
  show XX RX4 cX4_listed 2 (some .int) 2 44 K 0 [some (.ref 0), some (.int i)] [] (m) (fun r1 m1 => r1 = (some (.int ((if (outI i 0 5) = true then (-1000001) else m.1 1 (6 + cl i))))) ∧ m1 = (if (outI i 0 5) = true then fnd m 0 else m))
  refine x_iload_n (q := 1) dX4_listed_0 rfl rfl ?_
  refine x_iconst (q := 2) (v := 0) dX4_listed_1 rfl (by decide) ?_
  refine x_iconst (q := 3) (v := 5) dX4_listed_2 rfl (by decide) ?_
  refine x_callS3v (q := 6) dX4_listed_3 rfl ml_X4_44 ms_X4_isOut c_X4_isOut (Nat.le_of_ble_eq_true rfl) ⟨by decide, by decide⟩ ?_
  refine x_ifB_eq (q := 9) (t := 16) dX4_listed_6 rfl (by decide) (fun h6 => ?_) (fun h6 => ?_)
  · refine x_aload_n (q := 17) dX4_listed_16 rfl rfl ?_
    refine x_getR (q := 20) dX4_listed_17 rfl fl_X4_12 (or4_coast) ?_
    refine x_getR (q := 23) dX4_listed_20 rfl fl_X4_53 (or0_list isC_1) ?_
    refine x_iload_n (q := 24) dX4_listed_23 rfl rfl ?_
    refine x_iald (q := 25) dX4_listed_24 rfl (ar_list isC_1) (ix_out h6 (by decide)) rfl ?_
    refine x_ireturn dX4_listed_25 rfl rfl ?_
    exact ⟨by simp [h6], by simp [h6]⟩
  refine x_aload_n (q := 10) dX4_listed_9 rfl rfl ?_
  refine x_ldc (q := 12) dX4_listed_10 rfl kc_X4_48 ?_
  refine x_callV1v (q := 15) dX4_listed_12 rfl ml_X4_49 mv_X4_finding rv4 rfl (c_X4_finding (w := 0) (by decide) (by decide)) (Nat.le_of_ble_eq_true rfl) ⟨by decide, by decide⟩ ?_
  refine x_ireturn dX4_listed_15 rfl rfl ?_
  exact ⟨by simp [h6], by simp [h6]⟩
theorem dX4_set_0 : decode cX4_set 0 = .ok (.iload_n 1, 1) := by decide +kernel
theorem dX4_set_1 : decode cX4_set 1 = .ok (.ifCond .ne 32, 3) := by decide +kernel
theorem dX4_set_4 : decode cX4_set 4 = .ok (.iload_n 2, 1) := by decide +kernel
theorem dX4_set_5 : decode cX4_set 5 = .ok (.iconst 0, 1) := by decide +kernel
theorem dX4_set_6 : decode cX4_set 6 = .ok (.sipush 9999, 3) := by decide +kernel
theorem dX4_set_9 : decode cX4_set 9 = .ok (.invokestatic 44, 3) := by decide +kernel
theorem dX4_set_12 : decode cX4_set 12 = .ok (.ifCond .ne 21, 3) := by decide +kernel
theorem dX4_set_15 : decode cX4_set 15 = .ok (.aload_n 0, 1) := by decide +kernel
theorem dX4_set_16 : decode cX4_set 16 = .ok (.getfield 12, 3) := by decide +kernel
theorem dX4_set_19 : decode cX4_set 19 = .ok (.getfield 56, 3) := by decide +kernel
theorem dX4_set_22 : decode cX4_set 22 = .ok (.istore_n 3, 1) := by decide +kernel
theorem dX4_set_23 : decode cX4_set 23 = .ok (.aload_n 0, 1) := by decide +kernel
theorem dX4_set_24 : decode cX4_set 24 = .ok (.getfield 12, 3) := by decide +kernel
theorem dX4_set_27 : decode cX4_set 27 = .ok (.iload_n 2, 1) := by decide +kernel
theorem dX4_set_28 : decode cX4_set 28 = .ok (.putfield 56, 3) := by decide +kernel
theorem dX4_set_31 : decode cX4_set 31 = .ok (.iload_n 3, 1) := by decide +kernel
theorem dX4_set_32 : decode cX4_set 32 = .ok (.ireturn, 1) := by decide +kernel
theorem dX4_set_33 : decode cX4_set 33 = .ok (.iload_n 1, 1) := by decide +kernel
theorem dX4_set_34 : decode cX4_set 34 = .ok (.iconst 1, 1) := by decide +kernel
theorem dX4_set_35 : decode cX4_set 35 = .ok (.if_icmp .ne 31, 3) := by decide +kernel
theorem dX4_set_38 : decode cX4_set 38 = .ok (.iload_n 2, 1) := by decide +kernel
theorem dX4_set_39 : decode cX4_set 39 = .ok (.iconst 0, 1) := by decide +kernel
theorem dX4_set_40 : decode cX4_set 40 = .ok (.bipush 9, 2) := by decide +kernel
theorem dX4_set_42 : decode cX4_set 42 = .ok (.invokestatic 44, 3) := by decide +kernel
theorem dX4_set_45 : decode cX4_set 45 = .ok (.ifCond .ne 21, 3) := by decide +kernel
theorem dX4_set_48 : decode cX4_set 48 = .ok (.aload_n 0, 1) := by decide +kernel
theorem dX4_set_49 : decode cX4_set 49 = .ok (.getfield 12, 3) := by decide +kernel
theorem dX4_set_52 : decode cX4_set 52 = .ok (.getfield 60, 3) := by decide +kernel
theorem dX4_set_55 : decode cX4_set 55 = .ok (.istore_n 3, 1) := by decide +kernel
theorem dX4_set_56 : decode cX4_set 56 = .ok (.aload_n 0, 1) := by decide +kernel
theorem dX4_set_57 : decode cX4_set 57 = .ok (.getfield 12, 3) := by decide +kernel
theorem dX4_set_60 : decode cX4_set 60 = .ok (.iload_n 2, 1) := by decide +kernel
theorem dX4_set_61 : decode cX4_set 61 = .ok (.putfield 60, 3) := by decide +kernel
theorem dX4_set_64 : decode cX4_set 64 = .ok (.iload_n 3, 1) := by decide +kernel
theorem dX4_set_65 : decode cX4_set 65 = .ok (.ireturn, 1) := by decide +kernel
theorem dX4_set_66 : decode cX4_set 66 = .ok (.aload_n 0, 1) := by decide +kernel
theorem dX4_set_67 : decode cX4_set 67 = .ok (.ldc 48, 2) := by decide +kernel
theorem dX4_set_69 : decode cX4_set 69 = .ok (.invokevirtual 49, 3) := by decide +kernel
theorem dX4_set_72 : decode cX4_set 72 = .ok (.ireturn, 1) := by decide +kernel
set_option maxRecDepth 20000 in
set_option maxHeartbeats 4000000 in
theorem c_X4_set {K : Cx} {x v : Int32} {m : TM} : CT yX4_set cX4_set 4 (some .int) 2 44 K [.ref 0, .int x, .int v] (m) (some (.int ((if ((decide (x = 0) && !outI v 0 9999)) = true then m.1 1 4 else (if ((decide (x = 1) && !outI v 0 9)) = true then m.1 1 5 else (-1000001)))))) ((if ((decide (x = 0) && !outI v 0 9999)) = true then sr m 1 (upd (m.1 1) 4 v) else (if ((decide (x = 1) && !outI v 0 9)) = true then sr m 1 (upd (m.1 1) 5 v) else fnd m 0))) := by
  refine ct_ofd (n := 1) (by decide +kernel) rfl rfl ?_
  show XX RX4 cX4_set 4 (some .int) 2 44 K 0 [some (.ref 0), some (.int x), some (.int v), none] [] (m) (fun r1 m1 => r1 = (some (.int ((if ((decide (x = 0) && !outI v 0 9999)) = true then m.1 1 4 else (if ((decide (x = 1) && !outI v 0 9)) = true then m.1 1 5 else (-1000001)))))) ∧ m1 = (if ((decide (x = 0) && !outI v 0 9999)) = true then sr m 1 (upd (m.1 1) 4 v) else (if ((decide (x = 1) && !outI v 0 9)) = true then sr m 1 (upd (m.1 1) 5 v) else fnd m 0)))
  refine x_iload_n (q := 1) dX4_set_0 rfl rfl ?_
  refine x_if_ne (q := 4) (t := 33) dX4_set_1 rfl (by decide) (fun h1 => ?_) (fun h1 => ?_)
  · refine x_iload_n (q := 34) dX4_set_33 rfl rfl ?_
    refine x_iconst (q := 35) (v := 1) dX4_set_34 rfl (by decide) ?_
    refine x_icmp_ne (q := 38) (t := 66) dX4_set_35 rfl (by decide) (fun h35 => ?_) (fun h35 => ?_)
    · refine x_aload_n (q := 67) dX4_set_66 rfl rfl ?_
      refine x_ldc (q := 69) dX4_set_67 rfl kc_X4_48 ?_
      refine x_callV1v (q := 72) dX4_set_69 rfl ml_X4_49 mv_X4_finding rv4 rfl (c_X4_finding (w := 0) (by decide) (by decide)) (Nat.le_of_ble_eq_true rfl) ⟨by decide, by decide⟩ ?_
      refine x_ireturn dX4_set_72 rfl rfl ?_
      exact ⟨by simp [h1, h35, st1_eq], by simp [h1, h35, st1_eq]⟩
    refine x_iload_n (q := 39) dX4_set_38 rfl rfl ?_
    refine x_iconst (q := 40) (v := 0) dX4_set_39 rfl (by decide) ?_
    refine x_bipush (q := 42) (v := 9) dX4_set_40 rfl (by decide) ?_
    refine x_callS3v (q := 45) dX4_set_42 rfl ml_X4_44 ms_X4_isOut c_X4_isOut (Nat.le_of_ble_eq_true rfl) ⟨by decide, by decide⟩ ?_
    refine x_ifB_ne (q := 48) (t := 66) dX4_set_45 rfl (by decide) (fun h45 => ?_) (fun h45 => ?_)
    · refine x_aload_n (q := 67) dX4_set_66 rfl rfl ?_
      refine x_ldc (q := 69) dX4_set_67 rfl kc_X4_48 ?_
      refine x_callV1v (q := 72) dX4_set_69 rfl ml_X4_49 mv_X4_finding rv4 rfl (c_X4_finding (w := 0) (by decide) (by decide)) (Nat.le_of_ble_eq_true rfl) ⟨by decide, by decide⟩ ?_
      refine x_ireturn dX4_set_72 rfl rfl ?_
      exact ⟨by simp [h1, h35, h45, st1_eq], by simp [h1, h35, h45, st1_eq]⟩
    refine x_aload_n (q := 49) dX4_set_48 rfl rfl ?_
    refine x_getR (q := 52) dX4_set_49 rfl fl_X4_12 (or4_coast) ?_
    refine x_getI (q := 55) dX4_set_52 rfl fl_X4_60 (ob0_storm isC_1) ?_
    refine x_istore_n (q := 56) dX4_set_55 rfl (by decide) rfl rfl ?_
    refine x_aload_n (q := 57) dX4_set_56 rfl rfl ?_
    refine x_getR (q := 60) dX4_set_57 rfl fl_X4_12 (or4_coast) ?_
    refine x_iload_n (q := 61) dX4_set_60 rfl rfl ?_
    refine x_putI (q := 64) dX4_set_61 rfl fl_X4_60 (ob0_storm isC_1) rfl rfl rfl rfl ?_
    refine x_iload_n (q := 65) dX4_set_64 rfl rfl ?_
    refine x_ireturn dX4_set_65 rfl rfl ?_
    exact ⟨by simp [h1, h35, h45, st1_eq], by simp [h1, h35, h45, st1_eq]⟩
  refine x_iload_n (q := 5) dX4_set_4 rfl rfl ?_
  refine x_iconst (q := 6) (v := 0) dX4_set_5 rfl (by decide) ?_
  refine x_sipush (q := 9) (v := 9999) dX4_set_6 rfl (by decide) ?_
  refine x_callS3v (q := 12) dX4_set_9 rfl ml_X4_44 ms_X4_isOut c_X4_isOut (Nat.le_of_ble_eq_true rfl) ⟨by decide, by decide⟩ ?_
  refine x_ifB_ne (q := 15) (t := 33) dX4_set_12 rfl (by decide) (fun h12 => ?_) (fun h12 => ?_)
  · refine x_iload_n (q := 34) dX4_set_33 rfl rfl ?_
    refine x_iconst (q := 35) (v := 1) dX4_set_34 rfl (by decide) ?_
    refine x_icmp_ne (q := 38) (t := 66) dX4_set_35 rfl (by decide) (fun h35 => ?_) (fun h35 => ?_)
    · refine x_aload_n (q := 67) dX4_set_66 rfl rfl ?_
      refine x_ldc (q := 69) dX4_set_67 rfl kc_X4_48 ?_
      refine x_callV1v (q := 72) dX4_set_69 rfl ml_X4_49 mv_X4_finding rv4 rfl (c_X4_finding (w := 0) (by decide) (by decide)) (Nat.le_of_ble_eq_true rfl) ⟨by decide, by decide⟩ ?_
      refine x_ireturn dX4_set_72 rfl rfl ?_
      exact ⟨by simp [h1, h12, h35, st1_eq], by simp [h1, h12, h35, st1_eq]⟩
    refine x_iload_n (q := 39) dX4_set_38 rfl rfl ?_
    refine x_iconst (q := 40) (v := 0) dX4_set_39 rfl (by decide) ?_
    refine x_bipush (q := 42) (v := 9) dX4_set_40 rfl (by decide) ?_
    refine x_callS3v (q := 45) dX4_set_42 rfl ml_X4_44 ms_X4_isOut c_X4_isOut (Nat.le_of_ble_eq_true rfl) ⟨by decide, by decide⟩ ?_
    refine x_ifB_ne (q := 48) (t := 66) dX4_set_45 rfl (by decide) (fun h45 => ?_) (fun h45 => ?_)
    · refine x_aload_n (q := 67) dX4_set_66 rfl rfl ?_
      refine x_ldc (q := 69) dX4_set_67 rfl kc_X4_48 ?_
      refine x_callV1v (q := 72) dX4_set_69 rfl ml_X4_49 mv_X4_finding rv4 rfl (c_X4_finding (w := 0) (by decide) (by decide)) (Nat.le_of_ble_eq_true rfl) ⟨by decide, by decide⟩ ?_
      refine x_ireturn dX4_set_72 rfl rfl ?_
      exact absurd (h1.symm.trans h35) (by decide)
    refine x_aload_n (q := 49) dX4_set_48 rfl rfl ?_
    refine x_getR (q := 52) dX4_set_49 rfl fl_X4_12 (or4_coast) ?_
    refine x_getI (q := 55) dX4_set_52 rfl fl_X4_60 (ob0_storm isC_1) ?_
    refine x_istore_n (q := 56) dX4_set_55 rfl (by decide) rfl rfl ?_
    refine x_aload_n (q := 57) dX4_set_56 rfl rfl ?_
    refine x_getR (q := 60) dX4_set_57 rfl fl_X4_12 (or4_coast) ?_
    refine x_iload_n (q := 61) dX4_set_60 rfl rfl ?_
    refine x_putI (q := 64) dX4_set_61 rfl fl_X4_60 (ob0_storm isC_1) rfl rfl rfl rfl ?_
    refine x_iload_n (q := 65) dX4_set_64 rfl rfl ?_
    refine x_ireturn dX4_set_65 rfl rfl ?_
    exact absurd (h1.symm.trans h35) (by decide)
  refine x_aload_n (q := 16) dX4_set_15 rfl rfl ?_
  refine x_getR (q := 19) dX4_set_16 rfl fl_X4_12 (or4_coast) ?_
  refine x_getI (q := 22) dX4_set_19 rfl fl_X4_56 (ob0_late isC_1) ?_
  refine x_istore_n (q := 23) dX4_set_22 rfl (by decide) rfl rfl ?_
  refine x_aload_n (q := 24) dX4_set_23 rfl rfl ?_
  refine x_getR (q := 27) dX4_set_24 rfl fl_X4_12 (or4_coast) ?_
  refine x_iload_n (q := 28) dX4_set_27 rfl rfl ?_
  refine x_putI (q := 31) dX4_set_28 rfl fl_X4_56 (ob0_late isC_1) rfl rfl rfl rfl ?_
  refine x_iload_n (q := 32) dX4_set_31 rfl rfl ?_
  refine x_ireturn dX4_set_32 rfl rfl ?_
  exact ⟨by simp [h1, h12, st1_eq], by simp [h1, h12, st1_eq]⟩
theorem dX4_parcel_0 : decode cX4_parcel 0 = .ok (.iload_n 1, 1) := by decide +kernel
theorem dX4_parcel_1 : decode cX4_parcel 1 = .ok (.iconst 0, 1) := by decide +kernel
theorem dX4_parcel_2 : decode cX4_parcel 2 = .ok (.bipush 6, 2) := by decide +kernel
theorem dX4_parcel_4 : decode cX4_parcel 4 = .ok (.invokestatic 44, 3) := by decide +kernel
theorem dX4_parcel_7 : decode cX4_parcel 7 = .ok (.ifCond .ne 13, 3) := by decide +kernel
theorem dX4_parcel_10 : decode cX4_parcel 10 = .ok (.iload_n 2, 1) := by decide +kernel
theorem dX4_parcel_11 : decode cX4_parcel 11 = .ok (.iconst 0, 1) := by decide +kernel
theorem dX4_parcel_12 : decode cX4_parcel 12 = .ok (.bipush 20, 2) := by decide +kernel
theorem dX4_parcel_14 : decode cX4_parcel 14 = .ok (.invokestatic 44, 3) := by decide +kernel
theorem dX4_parcel_17 : decode cX4_parcel 17 = .ok (.ifCond .eq 10, 3) := by decide +kernel
theorem dX4_parcel_20 : decode cX4_parcel 20 = .ok (.aload_n 0, 1) := by decide +kernel
theorem dX4_parcel_21 : decode cX4_parcel 21 = .ok (.ldc 48, 2) := by decide +kernel
theorem dX4_parcel_23 : decode cX4_parcel 23 = .ok (.invokevirtual 49, 3) := by decide +kernel
theorem dX4_parcel_26 : decode cX4_parcel 26 = .ok (.ireturn, 1) := by decide +kernel
theorem dX4_parcel_27 : decode cX4_parcel 27 = .ok (.aload_n 0, 1) := by decide +kernel
theorem dX4_parcel_28 : decode cX4_parcel 28 = .ok (.getfield 12, 3) := by decide +kernel
theorem dX4_parcel_31 : decode cX4_parcel 31 = .ok (.iload_n 1, 1) := by decide +kernel
theorem dX4_parcel_32 : decode cX4_parcel 32 = .ok (.invokevirtual 63, 3) := by decide +kernel
theorem dX4_parcel_35 : decode cX4_parcel 35 = .ok (.astore_n 3, 1) := by decide +kernel
theorem dX4_parcel_36 : decode cX4_parcel 36 = .ok (.aload_n 3, 1) := by decide +kernel
theorem dX4_parcel_37 : decode cX4_parcel 37 = .ok (.ifnonnull 10, 3) := by decide +kernel
theorem dX4_parcel_40 : decode cX4_parcel 40 = .ok (.aload_n 0, 1) := by decide +kernel
theorem dX4_parcel_41 : decode cX4_parcel 41 = .ok (.ldc 67, 2) := by decide +kernel
theorem dX4_parcel_43 : decode cX4_parcel 43 = .ok (.invokevirtual 49, 3) := by decide +kernel
theorem dX4_parcel_46 : decode cX4_parcel 46 = .ok (.ireturn, 1) := by decide +kernel
theorem dX4_parcel_47 : decode cX4_parcel 47 = .ok (.aload_n 3, 1) := by decide +kernel
theorem dX4_parcel_48 : decode cX4_parcel 48 = .ok (.iload_n 2, 1) := by decide +kernel
theorem dX4_parcel_49 : decode cX4_parcel 49 = .ok (.putfield 68, 3) := by decide +kernel
theorem dX4_parcel_52 : decode cX4_parcel 52 = .ok (.aload_n 0, 1) := by decide +kernel
theorem dX4_parcel_53 : decode cX4_parcel 53 = .ok (.getfield 12, 3) := by decide +kernel
theorem dX4_parcel_56 : decode cX4_parcel 56 = .ok (.getfield 73, 3) := by decide +kernel
theorem dX4_parcel_59 : decode cX4_parcel 59 = .ok (.iconst 1, 1) := by decide +kernel
theorem dX4_parcel_60 : decode cX4_parcel 60 = .ok (.isub, 1) := by decide +kernel
theorem dX4_parcel_61 : decode cX4_parcel 61 = .ok (.ireturn, 1) := by decide +kernel
set_option maxRecDepth 20000 in
set_option maxHeartbeats 4000000 in
theorem c_X4_parcel {K : Cx} {x v : Int32} {n8 : Nat} {m : TM} (hn : m.1 1 1 = nI n8) (h8 : n8 < 8) : CT yX4_parcel cX4_parcel 4 (some .int) 2 44 K [.ref 0, .int x, .int v] (m) (some (.int ((if (outI x 0 6 || outI v 0 20) = true then (-1000001) else nI n8)))) ((if (outI x 0 6 || outI v 0 20) = true then fnd m 0 else sr m 1 (upd (upd (newF (m.1 1) n8 x) 1 (nI (n8 + 1))) (12 + 7 * n8 + 1) v))) := by
  refine ct_ofd (n := 1) (by decide +kernel) rfl rfl ?_
  show XX RX4 cX4_parcel 4 (some .int) 2 44 K 0 [some (.ref 0), some (.int x), some (.int v), none] [] (m) (fun r1 m1 => r1 = (some (.int ((if (outI x 0 6 || outI v 0 20) = true then (-1000001) else nI n8)))) ∧ m1 = (if (outI x 0 6 || outI v 0 20) = true then fnd m 0 else sr m 1 (upd (upd (newF (m.1 1) n8 x) 1 (nI (n8 + 1))) (12 + 7 * n8 + 1) v)))
  refine x_iload_n (q := 1) dX4_parcel_0 rfl rfl ?_
  refine x_iconst (q := 2) (v := 0) dX4_parcel_1 rfl (by decide) ?_
  refine x_bipush (q := 4) (v := 6) dX4_parcel_2 rfl (by decide) ?_
  refine x_callS3v (q := 7) dX4_parcel_4 rfl ml_X4_44 ms_X4_isOut c_X4_isOut (Nat.le_of_ble_eq_true rfl) ⟨by decide, by decide⟩ ?_
  refine x_ifB_ne (q := 10) (t := 20) dX4_parcel_7 rfl (by decide) (fun h7 => ?_) (fun h7 => ?_)
  · refine x_aload_n (q := 21) dX4_parcel_20 rfl rfl ?_
    refine x_ldc (q := 23) dX4_parcel_21 rfl kc_X4_48 ?_
    refine x_callV1v (q := 26) dX4_parcel_23 rfl ml_X4_49 mv_X4_finding rv4 rfl (c_X4_finding (w := 0) (by decide) (by decide)) (Nat.le_of_ble_eq_true rfl) ⟨by decide, by decide⟩ ?_
    refine x_ireturn dX4_parcel_26 rfl rfl ?_
    exact ⟨by simp [h7], by simp [h7]⟩
  refine x_iload_n (q := 11) dX4_parcel_10 rfl rfl ?_
  refine x_iconst (q := 12) (v := 0) dX4_parcel_11 rfl (by decide) ?_
  refine x_bipush (q := 14) (v := 20) dX4_parcel_12 rfl (by decide) ?_
  refine x_callS3v (q := 17) dX4_parcel_14 rfl ml_X4_44 ms_X4_isOut c_X4_isOut (Nat.le_of_ble_eq_true rfl) ⟨by decide, by decide⟩ ?_
  refine x_ifB_eq (q := 20) (t := 27) dX4_parcel_17 rfl (by decide) (fun h17 => ?_) (fun h17 => ?_)
  · refine x_aload_n (q := 28) dX4_parcel_27 rfl rfl ?_
    refine x_getR (q := 31) dX4_parcel_28 rfl fl_X4_12 (or4_coast) ?_
    refine x_iload_n (q := 32) dX4_parcel_31 rfl rfl ?_
    refine x_callV1v (q := 35) dX4_parcel_32 rfl ml_X4_63 mv_X0_lay (rv0 isC_1) rfl (p_X0_lay isC_1 hn h8) (Nat.le_of_ble_eq_true rfl) ⟨by decide, by decide⟩ ?_
    refine x_astore_n (q := 36) dX4_parcel_35 rfl (by decide) rfl rfl ?_
    refine x_aload_n (q := 37) dX4_parcel_36 rfl rfl ?_
    refine x_ifnonnull (q := 47) dX4_parcel_37 (by decide) ?_
    refine x_aload_n (q := 48) dX4_parcel_47 rfl rfl ?_
    refine x_iload_n (q := 49) dX4_parcel_48 rfl rfl ?_
    refine x_putIr (q := 52) dX4_parcel_49 rfl fl_X4_68 (ob1 isC_1 h8 1 (by decide)) rfl rfl rfl  ?_
    refine x_aload_n (q := 53) dX4_parcel_52 rfl rfl ?_
    refine x_getR (q := 56) dX4_parcel_53 rfl fl_X4_12 (or4_coast) ?_
    refine x_getIr (q := 59) dX4_parcel_56 rfl fl_X4_73 (ob0_laid isC_1) ?_
    refine x_iconst (q := 60) (v := 1) dX4_parcel_59 rfl (by decide) ?_
    refine x_isub (q := 61) dX4_parcel_60 rfl ?_
    refine x_ireturn dX4_parcel_61 rfl rfl ?_
    refine ⟨?_, ?_⟩
    · rw [upd_ne (by omega), upd_self, nI_pred]
      simp [h7, h17]
    · simp [h7, h17]
  refine x_aload_n (q := 21) dX4_parcel_20 rfl rfl ?_
  refine x_ldc (q := 23) dX4_parcel_21 rfl kc_X4_48 ?_
  refine x_callV1v (q := 26) dX4_parcel_23 rfl ml_X4_49 mv_X4_finding rv4 rfl (c_X4_finding (w := 0) (by decide) (by decide)) (Nat.le_of_ble_eq_true rfl) ⟨by decide, by decide⟩ ?_
  refine x_ireturn dX4_parcel_26 rfl rfl ?_
  exact ⟨by simp [h7, h17], by simp [h7, h17]⟩
set_option maxRecDepth 20000 in
set_option maxHeartbeats 4000000 in
theorem c_X4_parcelN {K : Cx} {x v : Int32} {m : TM} (hn : m.1 1 1 = nI 8) : CT yX4_parcel cX4_parcel 4 (some .int) 2 44 K [.ref 0, .int x, .int v] (m) (some (.int ((if (outI x 0 6 || outI v 0 20) = true then (-1000001) else -1000002)))) ((if (outI x 0 6 || outI v 0 20) = true then fnd m 0 else fnd m 1)) := by
  refine ct_ofd (n := 1) (by decide +kernel) rfl rfl ?_
  show XX RX4 cX4_parcel 4 (some .int) 2 44 K 0 [some (.ref 0), some (.int x), some (.int v), none] [] (m) (fun r1 m1 => r1 = (some (.int ((if (outI x 0 6 || outI v 0 20) = true then (-1000001) else -1000002)))) ∧ m1 = (if (outI x 0 6 || outI v 0 20) = true then fnd m 0 else fnd m 1))
  refine x_iload_n (q := 1) dX4_parcel_0 rfl rfl ?_
  refine x_iconst (q := 2) (v := 0) dX4_parcel_1 rfl (by decide) ?_
  refine x_bipush (q := 4) (v := 6) dX4_parcel_2 rfl (by decide) ?_
  refine x_callS3v (q := 7) dX4_parcel_4 rfl ml_X4_44 ms_X4_isOut c_X4_isOut (Nat.le_of_ble_eq_true rfl) ⟨by decide, by decide⟩ ?_
  refine x_ifB_ne (q := 10) (t := 20) dX4_parcel_7 rfl (by decide) (fun h7 => ?_) (fun h7 => ?_)
  · refine x_aload_n (q := 21) dX4_parcel_20 rfl rfl ?_
    refine x_ldc (q := 23) dX4_parcel_21 rfl kc_X4_48 ?_
    refine x_callV1v (q := 26) dX4_parcel_23 rfl ml_X4_49 mv_X4_finding rv4 rfl (c_X4_finding (w := 0) (by decide) (by decide)) (Nat.le_of_ble_eq_true rfl) ⟨by decide, by decide⟩ ?_
    refine x_ireturn dX4_parcel_26 rfl rfl ?_
    exact ⟨by simp [h7], by simp [h7]⟩
  refine x_iload_n (q := 11) dX4_parcel_10 rfl rfl ?_
  refine x_iconst (q := 12) (v := 0) dX4_parcel_11 rfl (by decide) ?_
  refine x_bipush (q := 14) (v := 20) dX4_parcel_12 rfl (by decide) ?_
  refine x_callS3v (q := 17) dX4_parcel_14 rfl ml_X4_44 ms_X4_isOut c_X4_isOut (Nat.le_of_ble_eq_true rfl) ⟨by decide, by decide⟩ ?_
  refine x_ifB_eq (q := 20) (t := 27) dX4_parcel_17 rfl (by decide) (fun h17 => ?_) (fun h17 => ?_)
  · refine x_aload_n (q := 28) dX4_parcel_27 rfl rfl ?_
    refine x_getR (q := 31) dX4_parcel_28 rfl fl_X4_12 (or4_coast) ?_
    refine x_iload_n (q := 32) dX4_parcel_31 rfl rfl ?_
    refine x_callV1v (q := 35) dX4_parcel_32 rfl ml_X4_63 mv_X0_lay (rv0 isC_1) rfl (p_X0_layN isC_1 hn) (Nat.le_of_ble_eq_true rfl) ⟨by decide, by decide⟩ ?_
    refine x_astore_nN (q := 36) dX4_parcel_35 rfl (by decide) rfl rfl ?_
    refine x_aload_nN (q := 37) dX4_parcel_36 rfl rfl ?_
    refine x_ifnonnullN (q := 40) dX4_parcel_37 rfl ?_
    refine x_aload_n (q := 41) dX4_parcel_40 rfl rfl ?_
    refine x_ldc (q := 43) dX4_parcel_41 rfl kc_X4_67 ?_
    refine x_callV1v (q := 46) dX4_parcel_43 rfl ml_X4_49 mv_X4_finding rv4 rfl (c_X4_finding (w := 1) (by decide) (by decide)) (Nat.le_of_ble_eq_true rfl) ⟨by decide, by decide⟩ ?_
    refine x_ireturn dX4_parcel_46 rfl rfl ?_
    exact ⟨by simp [h7, h17], by simp [h7, h17]⟩
  refine x_aload_n (q := 21) dX4_parcel_20 rfl rfl ?_
  refine x_ldc (q := 23) dX4_parcel_21 rfl kc_X4_48 ?_
  refine x_callV1v (q := 26) dX4_parcel_23 rfl ml_X4_49 mv_X4_finding rv4 rfl (c_X4_finding (w := 0) (by decide) (by decide)) (Nat.le_of_ble_eq_true rfl) ⟨by decide, by decide⟩ ?_
  refine x_ireturn dX4_parcel_26 rfl rfl ?_
  exact ⟨by simp [h7, h17], by simp [h7, h17]⟩
theorem dX4_of_0 : decode cX4_of 0 = .ok (.aload_n 0, 1) := by decide +kernel
theorem dX4_of_1 : decode cX4_of 1 = .ok (.iload_n 1, 1) := by decide +kernel
theorem dX4_of_2 : decode cX4_of 2 = .ok (.invokevirtual 76, 3) := by decide +kernel
theorem dX4_of_5 : decode cX4_of 5 = .ok (.ifCond .ne 13, 3) := by decide +kernel
theorem dX4_of_8 : decode cX4_of 8 = .ok (.iload_n 2, 1) := by decide +kernel
theorem dX4_of_9 : decode cX4_of 9 = .ok (.iconst 0, 1) := by decide +kernel
theorem dX4_of_10 : decode cX4_of 10 = .ok (.bipush 10, 2) := by decide +kernel
theorem dX4_of_12 : decode cX4_of 12 = .ok (.invokestatic 44, 3) := by decide +kernel
theorem dX4_of_15 : decode cX4_of 15 = .ok (.ifCond .eq 10, 3) := by decide +kernel
theorem dX4_of_18 : decode cX4_of 18 = .ok (.aload_n 0, 1) := by decide +kernel
theorem dX4_of_19 : decode cX4_of 19 = .ok (.ldc 48, 2) := by decide +kernel
theorem dX4_of_21 : decode cX4_of 21 = .ok (.invokevirtual 49, 3) := by decide +kernel
theorem dX4_of_24 : decode cX4_of 24 = .ok (.ireturn, 1) := by decide +kernel
theorem dX4_of_25 : decode cX4_of 25 = .ok (.aload_n 0, 1) := by decide +kernel
theorem dX4_of_26 : decode cX4_of 26 = .ok (.getfield 12, 3) := by decide +kernel
theorem dX4_of_29 : decode cX4_of 29 = .ok (.getfield 80, 3) := by decide +kernel
theorem dX4_of_32 : decode cX4_of 32 = .ok (.iload_n 1, 1) := by decide +kernel
theorem dX4_of_33 : decode cX4_of 33 = .ok (.aaload, 1) := by decide +kernel
theorem dX4_of_34 : decode cX4_of 34 = .ok (.iload_n 2, 1) := by decide +kernel
theorem dX4_of_35 : decode cX4_of 35 = .ok (.invokevirtual 84, 3) := by decide +kernel
theorem dX4_of_38 : decode cX4_of 38 = .ok (.ireturn, 1) := by decide +kernel
set_option maxRecDepth 20000 in
set_option maxHeartbeats 4000000 in
theorem c_X4_of {K : Cx} {p x : Int32} {n8 : Nat} {m : TM} (hI : Iv n8 (m.1 1)) : CT yX4_of cX4_of 3 (some .int) 2 44 K [.ref 0, .int p, .int x] (m) (some (.int ((if (outI p 0 (m.1 1 1 - 1) || outI x 0 10) = true then (-1000001) else tld (m.1 1) (cl p) x)))) ((if (outI p 0 (m.1 1 1 - 1) || outI x 0 10) = true then fnd m 0 else m)) := by
  refine ct_ofd (n := 0) (by decide +kernel) rfl rfl ?_
  show XX RX4 cX4_of 3 (some .int) 2 44 K 0 [some (.ref 0), some (.int p), some (.int x)] [] (m) (fun r1 m1 => r1 = (some (.int ((if (outI p 0 (m.1 1 1 - 1) || outI x 0 10) = true then (-1000001) else tld (m.1 1) (cl p) x)))) ∧ m1 = (if (outI p 0 (m.1 1 1 - 1) || outI x 0 10) = true then fnd m 0 else m))
  refine x_aload_n (q := 1) dX4_of_0 rfl rfl ?_
  refine x_iload_n (q := 2) dX4_of_1 rfl rfl ?_
  refine x_callV1v (q := 5) dX4_of_2 rfl ml_X4_76 mv_X4_isNoParcel rv4 rfl c_X4_isNoParcel (Nat.le_of_ble_eq_true rfl) ⟨by decide, by decide⟩ ?_
  refine x_ifB_ne (q := 8) (t := 18) dX4_of_5 rfl (by decide) (fun h5 => ?_) (fun h5 => ?_)
  · refine x_aload_n (q := 19) dX4_of_18 rfl rfl ?_
    refine x_ldc (q := 21) dX4_of_19 rfl kc_X4_48 ?_
    refine x_callV1v (q := 24) dX4_of_21 rfl ml_X4_49 mv_X4_finding rv4 rfl (c_X4_finding (w := 0) (by decide) (by decide)) (Nat.le_of_ble_eq_true rfl) ⟨by decide, by decide⟩ ?_
    refine x_ireturn dX4_of_24 rfl rfl ?_
    exact ⟨by simp [h5], by simp [h5]⟩
  refine x_iload_n (q := 9) dX4_of_8 rfl rfl ?_
  refine x_iconst (q := 10) (v := 0) dX4_of_9 rfl (by decide) ?_
  refine x_bipush (q := 12) (v := 10) dX4_of_10 rfl (by decide) ?_
  refine x_callS3v (q := 15) dX4_of_12 rfl ml_X4_44 ms_X4_isOut c_X4_isOut (Nat.le_of_ble_eq_true rfl) ⟨by decide, by decide⟩ ?_
  refine x_ifB_eq (q := 18) (t := 25) dX4_of_15 rfl (by decide) (fun h15 => ?_) (fun h15 => ?_)
  · refine x_aload_n (q := 26) dX4_of_25 rfl rfl ?_
    refine x_getR (q := 29) dX4_of_26 rfl fl_X4_12 (or4_coast) ?_
    refine x_getR (q := 32) dX4_of_29 rfl fl_X4_80 (or0_slip isC_1) ?_
    refine x_iload_n (q := 33) dX4_of_32 rfl rfl ?_
    refine x_slip (q := 34) dX4_of_33 rfl isC_1 (par_k hI.2.1 hI.1 h5).1 ?_
    refine x_iload_n (q := 35) dX4_of_34 rfl rfl ?_
    refine x_callV1v (q := 38) dX4_of_35 rfl ml_X4_84 mv_X1_told (rv1 isC_1 (par_k hI.2.1 hI.1 h5).1.2.2) rfl (p_X1_told isC_1 (par_k hI.2.1 hI.1 h5).1.2.2) (Nat.le_of_ble_eq_true rfl) ⟨by decide, by decide⟩ ?_
    refine x_ireturn dX4_of_38 rfl rfl ?_
    exact ⟨by simp [h5, h15], by simp [h5, h15]⟩
  refine x_aload_n (q := 19) dX4_of_18 rfl rfl ?_
  refine x_ldc (q := 21) dX4_of_19 rfl kc_X4_48 ?_
  refine x_callV1v (q := 24) dX4_of_21 rfl ml_X4_49 mv_X4_finding rv4 rfl (c_X4_finding (w := 0) (by decide) (by decide)) (Nat.le_of_ble_eq_true rfl) ⟨by decide, by decide⟩ ?_
  refine x_ireturn dX4_of_24 rfl rfl ?_
  exact ⟨by simp [h5, h15], by simp [h5, h15]⟩
theorem dX4_change_0 : decode cX4_change 0 = .ok (.aload_n 0, 1) := by decide +kernel
theorem dX4_change_1 : decode cX4_change 1 = .ok (.iload_n 1, 1) := by decide +kernel
theorem dX4_change_2 : decode cX4_change 2 = .ok (.invokevirtual 76, 3) := by decide +kernel
theorem dX4_change_5 : decode cX4_change 5 = .ok (.ifCond .ne 28, 3) := by decide +kernel
theorem dX4_change_8 : decode cX4_change 8 = .ok (.iload_n 2, 1) := by decide +kernel
theorem dX4_change_9 : decode cX4_change 9 = .ok (.iconst 0, 1) := by decide +kernel
theorem dX4_change_10 : decode cX4_change 10 = .ok (.bipush 6, 2) := by decide +kernel
theorem dX4_change_12 : decode cX4_change 12 = .ok (.invokestatic 44, 3) := by decide +kernel
theorem dX4_change_15 : decode cX4_change 15 = .ok (.ifCond .ne 18, 3) := by decide +kernel
theorem dX4_change_18 : decode cX4_change 18 = .ok (.iload_n 3, 1) := by decide +kernel
theorem dX4_change_19 : decode cX4_change 19 = .ok (.iload_n 2, 1) := by decide +kernel
theorem dX4_change_20 : decode cX4_change 20 = .ok (.invokestatic 87, 3) := by decide +kernel
theorem dX4_change_23 : decode cX4_change 23 = .ok (.iload_n 2, 1) := by decide +kernel
theorem dX4_change_24 : decode cX4_change 24 = .ok (.invokestatic 90, 3) := by decide +kernel
theorem dX4_change_27 : decode cX4_change 27 = .ok (.invokestatic 44, 3) := by decide +kernel
theorem dX4_change_30 : decode cX4_change 30 = .ok (.ifCond .eq 10, 3) := by decide +kernel
theorem dX4_change_33 : decode cX4_change 33 = .ok (.aload_n 0, 1) := by decide +kernel
theorem dX4_change_34 : decode cX4_change 34 = .ok (.ldc 48, 2) := by decide +kernel
theorem dX4_change_36 : decode cX4_change 36 = .ok (.invokevirtual 49, 3) := by decide +kernel
theorem dX4_change_39 : decode cX4_change 39 = .ok (.ireturn, 1) := by decide +kernel
theorem dX4_change_40 : decode cX4_change 40 = .ok (.aload_n 0, 1) := by decide +kernel
theorem dX4_change_41 : decode cX4_change 41 = .ok (.getfield 12, 3) := by decide +kernel
theorem dX4_change_44 : decode cX4_change 44 = .ok (.getfield 80, 3) := by decide +kernel
theorem dX4_change_47 : decode cX4_change 47 = .ok (.iload_n 1, 1) := by decide +kernel
theorem dX4_change_48 : decode cX4_change 48 = .ok (.aaload, 1) := by decide +kernel
theorem dX4_change_49 : decode cX4_change 49 = .ok (.iload_n 2, 1) := by decide +kernel
theorem dX4_change_50 : decode cX4_change 50 = .ok (.invokevirtual 84, 3) := by decide +kernel
theorem dX4_change_53 : decode cX4_change 53 = .ok (.istore 4, 2) := by decide +kernel
theorem dX4_change_55 : decode cX4_change 55 = .ok (.aload_n 0, 1) := by decide +kernel
theorem dX4_change_56 : decode cX4_change 56 = .ok (.getfield 12, 3) := by decide +kernel
theorem dX4_change_59 : decode cX4_change 59 = .ok (.getfield 80, 3) := by decide +kernel
theorem dX4_change_62 : decode cX4_change 62 = .ok (.iload_n 1, 1) := by decide +kernel
theorem dX4_change_63 : decode cX4_change 63 = .ok (.aaload, 1) := by decide +kernel
theorem dX4_change_64 : decode cX4_change 64 = .ok (.iload_n 2, 1) := by decide +kernel
theorem dX4_change_65 : decode cX4_change 65 = .ok (.iload_n 3, 1) := by decide +kernel
theorem dX4_change_66 : decode cX4_change 66 = .ok (.invokevirtual 93, 3) := by decide +kernel
theorem dX4_change_69 : decode cX4_change 69 = .ok (.iload 4, 2) := by decide +kernel
theorem dX4_change_71 : decode cX4_change 71 = .ok (.ireturn, 1) := by decide +kernel
set_option maxRecDepth 20000 in
set_option maxHeartbeats 4000000 in
theorem c_X4_change {K : Cx} {p x v : Int32} {n8 : Nat} {m : TM} (hI : Iv n8 (m.1 1)) : CT yX4_change cX4_change 5 (some .int) 2 44 K [.ref 0, .int p, .int x, .int v] (m) (some (.int ((if (outI p 0 (m.1 1 1 - 1) || outI x 0 6 || outI v (lst x) (mst x)) = true then (-1000001) else tld (m.1 1) (cl p) x)))) ((if (outI p 0 (m.1 1 1 - 1) || outI x 0 6 || outI v (lst x) (mst x)) = true then fnd m 0 else sr m 1 (ptF (m.1 1) (cl p) x v))) := by
  refine ct_ofd (n := 1) (by decide +kernel) rfl rfl ?_
  show XX RX4 cX4_change 5 (some .int) 2 44 K 0 [some (.ref 0), some (.int p), some (.int x), some (.int v), none] [] (m) (fun r1 m1 => r1 = (some (.int ((if (outI p 0 (m.1 1 1 - 1) || outI x 0 6 || outI v (lst x) (mst x)) = true then (-1000001) else tld (m.1 1) (cl p) x)))) ∧ m1 = (if (outI p 0 (m.1 1 1 - 1) || outI x 0 6 || outI v (lst x) (mst x)) = true then fnd m 0 else sr m 1 (ptF (m.1 1) (cl p) x v)))
  refine x_aload_n (q := 1) dX4_change_0 rfl rfl ?_
  refine x_iload_n (q := 2) dX4_change_1 rfl rfl ?_
  refine x_callV1v (q := 5) dX4_change_2 rfl ml_X4_76 mv_X4_isNoParcel rv4 rfl c_X4_isNoParcel (Nat.le_of_ble_eq_true rfl) ⟨by decide, by decide⟩ ?_
  refine x_ifB_ne (q := 8) (t := 33) dX4_change_5 rfl (by decide) (fun h5 => ?_) (fun h5 => ?_)
  · refine x_aload_n (q := 34) dX4_change_33 rfl rfl ?_
    refine x_ldc (q := 36) dX4_change_34 rfl kc_X4_48 ?_
    refine x_callV1v (q := 39) dX4_change_36 rfl ml_X4_49 mv_X4_finding rv4 rfl (c_X4_finding (w := 0) (by decide) (by decide)) (Nat.le_of_ble_eq_true rfl) ⟨by decide, by decide⟩ ?_
    refine x_ireturn dX4_change_39 rfl rfl ?_
    exact ⟨by simp [h5], by simp [h5]⟩
  refine x_iload_n (q := 9) dX4_change_8 rfl rfl ?_
  refine x_iconst (q := 10) (v := 0) dX4_change_9 rfl (by decide) ?_
  refine x_bipush (q := 12) (v := 6) dX4_change_10 rfl (by decide) ?_
  refine x_callS3v (q := 15) dX4_change_12 rfl ml_X4_44 ms_X4_isOut c_X4_isOut (Nat.le_of_ble_eq_true rfl) ⟨by decide, by decide⟩ ?_
  refine x_ifB_ne (q := 18) (t := 33) dX4_change_15 rfl (by decide) (fun h15 => ?_) (fun h15 => ?_)
  · refine x_aload_n (q := 34) dX4_change_33 rfl rfl ?_
    refine x_ldc (q := 36) dX4_change_34 rfl kc_X4_48 ?_
    refine x_callV1v (q := 39) dX4_change_36 rfl ml_X4_49 mv_X4_finding rv4 rfl (c_X4_finding (w := 0) (by decide) (by decide)) (Nat.le_of_ble_eq_true rfl) ⟨by decide, by decide⟩ ?_
    refine x_ireturn dX4_change_39 rfl rfl ?_
    exact ⟨by simp [h5, h15], by simp [h5, h15]⟩
  refine x_iload_n (q := 19) dX4_change_18 rfl rfl ?_
  refine x_iload_n (q := 20) dX4_change_19 rfl rfl ?_
  refine x_callS1v (q := 23) dX4_change_20 rfl ml_X4_87 ms_X1_least c_X1_least (Nat.le_of_ble_eq_true rfl) ⟨by decide, by decide⟩ ?_
  refine x_iload_n (q := 24) dX4_change_23 rfl rfl ?_
  refine x_callS1v (q := 27) dX4_change_24 rfl ml_X4_90 ms_X1_most c_X1_most (Nat.le_of_ble_eq_true rfl) ⟨by decide, by decide⟩ ?_
  refine x_callS3v (q := 30) dX4_change_27 rfl ml_X4_44 ms_X4_isOut c_X4_isOut (Nat.le_of_ble_eq_true rfl) ⟨by decide, by decide⟩ ?_
  refine x_ifB_eq (q := 33) (t := 40) dX4_change_30 rfl (by decide) (fun h30 => ?_) (fun h30 => ?_)
  · refine x_aload_n (q := 41) dX4_change_40 rfl rfl ?_
    refine x_getR (q := 44) dX4_change_41 rfl fl_X4_12 (or4_coast) ?_
    refine x_getR (q := 47) dX4_change_44 rfl fl_X4_80 (or0_slip isC_1) ?_
    refine x_iload_n (q := 48) dX4_change_47 rfl rfl ?_
    refine x_slip (q := 49) dX4_change_48 rfl isC_1 (par_k hI.2.1 hI.1 h5).1 ?_
    refine x_iload_n (q := 50) dX4_change_49 rfl rfl ?_
    refine x_callV1v (q := 53) dX4_change_50 rfl ml_X4_84 mv_X1_told (rv1 isC_1 (par_k hI.2.1 hI.1 h5).1.2.2) rfl (p_X1_told isC_1 (par_k hI.2.1 hI.1 h5).1.2.2) (Nat.le_of_ble_eq_true rfl) ⟨by decide, by decide⟩ ?_
    refine x_istore (q := 55) dX4_change_53 rfl (by decide) rfl rfl ?_
    refine x_aload_n (q := 56) dX4_change_55 rfl rfl ?_
    refine x_getR (q := 59) dX4_change_56 rfl fl_X4_12 (or4_coast) ?_
    refine x_getR (q := 62) dX4_change_59 rfl fl_X4_80 (or0_slip isC_1) ?_
    refine x_iload_n (q := 63) dX4_change_62 rfl rfl ?_
    refine x_slip (q := 64) dX4_change_63 rfl isC_1 (par_k hI.2.1 hI.1 h5).1 ?_
    refine x_iload_n (q := 65) dX4_change_64 rfl rfl ?_
    refine x_iload_n (q := 66) dX4_change_65 rfl rfl ?_
    refine x_callV2n (q := 69) dX4_change_66 rfl ml_X4_93 mv_X1_put (rv1 isC_1 (par_k hI.2.1 hI.1 h5).1.2.2) rfl (p_X1_put isC_1 (par_k hI.2.1 hI.1 h5).1.2.2) (Nat.le_of_ble_eq_true rfl) ⟨by decide, by decide⟩ ?_
    refine x_iload (q := 71) dX4_change_69 rfl rfl ?_
    refine x_ireturn dX4_change_71 rfl rfl ?_
    exact ⟨by simp [h5, h15, h30], by simp [h5, h15, h30]⟩
  refine x_aload_n (q := 34) dX4_change_33 rfl rfl ?_
  refine x_ldc (q := 36) dX4_change_34 rfl kc_X4_48 ?_
  refine x_callV1v (q := 39) dX4_change_36 rfl ml_X4_49 mv_X4_finding rv4 rfl (c_X4_finding (w := 0) (by decide) (by decide)) (Nat.le_of_ble_eq_true rfl) ⟨by decide, by decide⟩ ?_
  refine x_ireturn dX4_change_39 rfl rfl ?_
  exact ⟨by simp [h5, h15, h30], by simp [h5, h15, h30]⟩
theorem dX4_signs_0 : decode cX4_signs 0 = .ok (.aload_n 0, 1) := by decide +kernel
theorem dX4_signs_1 : decode cX4_signs 1 = .ok (.iload_n 1, 1) := by decide +kernel
theorem dX4_signs_2 : decode cX4_signs 2 = .ok (.invokevirtual 76, 3) := by decide +kernel
theorem dX4_signs_5 : decode cX4_signs 5 = .ok (.ifCond .ne 13, 3) := by decide +kernel
theorem dX4_signs_8 : decode cX4_signs 8 = .ok (.iload_n 2, 1) := by decide +kernel
theorem dX4_signs_9 : decode cX4_signs 9 = .ok (.iconst 0, 1) := by decide +kernel
theorem dX4_signs_10 : decode cX4_signs 10 = .ok (.bipush 29, 2) := by decide +kernel
theorem dX4_signs_12 : decode cX4_signs 12 = .ok (.invokestatic 44, 3) := by decide +kernel
theorem dX4_signs_15 : decode cX4_signs 15 = .ok (.ifCond .eq 10, 3) := by decide +kernel
theorem dX4_signs_18 : decode cX4_signs 18 = .ok (.aload_n 0, 1) := by decide +kernel
theorem dX4_signs_19 : decode cX4_signs 19 = .ok (.ldc 48, 2) := by decide +kernel
theorem dX4_signs_21 : decode cX4_signs 21 = .ok (.invokevirtual 49, 3) := by decide +kernel
theorem dX4_signs_24 : decode cX4_signs 24 = .ok (.ireturn, 1) := by decide +kernel
theorem dX4_signs_25 : decode cX4_signs 25 = .ok (.aload_n 0, 1) := by decide +kernel
theorem dX4_signs_26 : decode cX4_signs 26 = .ok (.getfield 12, 3) := by decide +kernel
theorem dX4_signs_29 : decode cX4_signs 29 = .ok (.getfield 80, 3) := by decide +kernel
theorem dX4_signs_32 : decode cX4_signs 32 = .ok (.iload_n 1, 1) := by decide +kernel
theorem dX4_signs_33 : decode cX4_signs 33 = .ok (.aaload, 1) := by decide +kernel
theorem dX4_signs_34 : decode cX4_signs 34 = .ok (.iload_n 2, 1) := by decide +kernel
theorem dX4_signs_35 : decode cX4_signs 35 = .ok (.aload_n 0, 1) := by decide +kernel
theorem dX4_signs_36 : decode cX4_signs 36 = .ok (.getfield 12, 3) := by decide +kernel
theorem dX4_signs_39 : decode cX4_signs 39 = .ok (.getfield 97, 3) := by decide +kernel
theorem dX4_signs_42 : decode cX4_signs 42 = .ok (.invokevirtual 100, 3) := by decide +kernel
theorem dX4_signs_45 : decode cX4_signs 45 = .ok (.ifCond .eq 7, 3) := by decide +kernel
theorem dX4_signs_48 : decode cX4_signs 48 = .ok (.iconst 1, 1) := by decide +kernel
theorem dX4_signs_49 : decode cX4_signs 49 = .ok (.goto 4, 3) := by decide +kernel
theorem dX4_signs_52 : decode cX4_signs 52 = .ok (.iconst 0, 1) := by decide +kernel
theorem dX4_signs_53 : decode cX4_signs 53 = .ok (.ireturn, 1) := by decide +kernel
set_option maxRecDepth 20000 in
set_option maxHeartbeats 4000000 in
theorem c_X4_signs {K : Cx} {p t : Int32} {n8 : Nat} {m : TM} (hI : Iv n8 (m.1 1)) : CT yX4_signs cX4_signs 3 (some .int) 2 44 K [.ref 0, .int p, .int t] (m) (some (.int ((if (outI p 0 (m.1 1 1 - 1) || outI t 0 29) = true then (-1000001) else bI (sg (m.1 1 (12 + 7 * cl p + 0)) (m.1 1 (12 + 7 * cl p + 1)) (m.1 1 (12 + 7 * cl p + 2)) (m.1 1 (12 + 7 * cl p + 6)) (m.1 1 0) t))))) ((if (outI p 0 (m.1 1 1 - 1) || outI t 0 29) = true then fnd m 0 else m)) := by
  refine ct_ofd (n := 0) (by decide +kernel) rfl rfl ?_
  show XX RX4 cX4_signs 3 (some .int) 2 44 K 0 [some (.ref 0), some (.int p), some (.int t)] [] (m) (fun r1 m1 => r1 = (some (.int ((if (outI p 0 (m.1 1 1 - 1) || outI t 0 29) = true then (-1000001) else bI (sg (m.1 1 (12 + 7 * cl p + 0)) (m.1 1 (12 + 7 * cl p + 1)) (m.1 1 (12 + 7 * cl p + 2)) (m.1 1 (12 + 7 * cl p + 6)) (m.1 1 0) t))))) ∧ m1 = (if (outI p 0 (m.1 1 1 - 1) || outI t 0 29) = true then fnd m 0 else m))
  refine x_aload_n (q := 1) dX4_signs_0 rfl rfl ?_
  refine x_iload_n (q := 2) dX4_signs_1 rfl rfl ?_
  refine x_callV1v (q := 5) dX4_signs_2 rfl ml_X4_76 mv_X4_isNoParcel rv4 rfl c_X4_isNoParcel (Nat.le_of_ble_eq_true rfl) ⟨by decide, by decide⟩ ?_
  refine x_ifB_ne (q := 8) (t := 18) dX4_signs_5 rfl (by decide) (fun h5 => ?_) (fun h5 => ?_)
  · refine x_aload_n (q := 19) dX4_signs_18 rfl rfl ?_
    refine x_ldc (q := 21) dX4_signs_19 rfl kc_X4_48 ?_
    refine x_callV1v (q := 24) dX4_signs_21 rfl ml_X4_49 mv_X4_finding rv4 rfl (c_X4_finding (w := 0) (by decide) (by decide)) (Nat.le_of_ble_eq_true rfl) ⟨by decide, by decide⟩ ?_
    refine x_ireturn dX4_signs_24 rfl rfl ?_
    exact ⟨by simp [h5], by simp [h5]⟩
  refine x_iload_n (q := 9) dX4_signs_8 rfl rfl ?_
  refine x_iconst (q := 10) (v := 0) dX4_signs_9 rfl (by decide) ?_
  refine x_bipush (q := 12) (v := 29) dX4_signs_10 rfl (by decide) ?_
  refine x_callS3v (q := 15) dX4_signs_12 rfl ml_X4_44 ms_X4_isOut c_X4_isOut (Nat.le_of_ble_eq_true rfl) ⟨by decide, by decide⟩ ?_
  refine x_ifB_eq (q := 18) (t := 25) dX4_signs_15 rfl (by decide) (fun h15 => ?_) (fun h15 => ?_)
  · refine x_aload_n (q := 26) dX4_signs_25 rfl rfl ?_
    refine x_getR (q := 29) dX4_signs_26 rfl fl_X4_12 (or4_coast) ?_
    refine x_getR (q := 32) dX4_signs_29 rfl fl_X4_80 (or0_slip isC_1) ?_
    refine x_iload_n (q := 33) dX4_signs_32 rfl rfl ?_
    refine x_slip (q := 34) dX4_signs_33 rfl isC_1 (par_k hI.2.1 hI.1 h5).1 ?_
    refine x_iload_n (q := 35) dX4_signs_34 rfl rfl ?_
    refine x_aload_n (q := 36) dX4_signs_35 rfl rfl ?_
    refine x_getR (q := 39) dX4_signs_36 rfl fl_X4_12 (or4_coast) ?_
    refine x_getI (q := 42) dX4_signs_39 rfl fl_X4_97 (ob0_day isC_1) ?_
    refine x_callV2v (q := 45) dX4_signs_42 rfl ml_X4_100 mv_X1_isSignedFor (rv1 isC_1 (par_k hI.2.1 hI.1 h5).1.2.2) rfl (p_X1_isSignedFor isC_1 (par_k hI.2.1 hI.1 h5).1.2.2) (Nat.le_of_ble_eq_true rfl) ⟨by decide, by decide⟩ ?_
    refine x_ifB_eq (q := 48) (t := 52) dX4_signs_45 rfl (by decide) (fun h45 => ?_) (fun h45 => ?_)
    · refine x_iconst (q := 53) (v := 0) dX4_signs_52 rfl (by decide) ?_
      refine x_ireturn dX4_signs_53 rfl rfl ?_
      exact ⟨by rw [h45]; simp [h5, h15, bI], by simp [h5, h15]⟩
    refine x_iconst (q := 49) (v := 1) dX4_signs_48 rfl (by decide) ?_
    refine x_goto (q := 53) dX4_signs_49 (by decide) ?_
    refine x_ireturn dX4_signs_53 rfl rfl ?_
    exact ⟨by rw [h45]; simp [h5, h15, bI], by simp [h5, h15]⟩
  refine x_aload_n (q := 19) dX4_signs_18 rfl rfl ?_
  refine x_ldc (q := 21) dX4_signs_19 rfl kc_X4_48 ?_
  refine x_callV1v (q := 24) dX4_signs_21 rfl ml_X4_49 mv_X4_finding rv4 rfl (c_X4_finding (w := 0) (by decide) (by decide)) (Nat.le_of_ble_eq_true rfl) ⟨by decide, by decide⟩ ?_
  refine x_ireturn dX4_signs_24 rfl rfl ?_
  exact ⟨by simp [h5, h15], by simp [h5, h15]⟩
theorem dX4_onLine_0 : decode cX4_onLine 0 = .ok (.iload_n 1, 1) := by decide +kernel
theorem dX4_onLine_1 : decode cX4_onLine 1 = .ok (.iconst 0, 1) := by decide +kernel
theorem dX4_onLine_2 : decode cX4_onLine 2 = .ok (.bipush 20, 2) := by decide +kernel
theorem dX4_onLine_4 : decode cX4_onLine 4 = .ok (.invokestatic 44, 3) := by decide +kernel
theorem dX4_onLine_7 : decode cX4_onLine 7 = .ok (.ifCond .eq 10, 3) := by decide +kernel
theorem dX4_onLine_10 : decode cX4_onLine 10 = .ok (.aload_n 0, 1) := by decide +kernel
theorem dX4_onLine_11 : decode cX4_onLine 11 = .ok (.ldc 48, 2) := by decide +kernel
theorem dX4_onLine_13 : decode cX4_onLine 13 = .ok (.invokevirtual 49, 3) := by decide +kernel
theorem dX4_onLine_16 : decode cX4_onLine 16 = .ok (.ireturn, 1) := by decide +kernel
theorem dX4_onLine_17 : decode cX4_onLine 17 = .ok (.aload_n 0, 1) := by decide +kernel
theorem dX4_onLine_18 : decode cX4_onLine 18 = .ok (.getfield 12, 3) := by decide +kernel
theorem dX4_onLine_21 : decode cX4_onLine 21 = .ok (.iload_n 1, 1) := by decide +kernel
theorem dX4_onLine_22 : decode cX4_onLine 22 = .ok (.invokevirtual 104, 3) := by decide +kernel
theorem dX4_onLine_25 : decode cX4_onLine 25 = .ok (.ireturn, 1) := by decide +kernel
set_option maxRecDepth 20000 in
set_option maxHeartbeats 4000000 in
theorem c_X4_onLine {K : Cx} {x : Int32} {n8 : Nat} {m : TM} (hI : Iv n8 (m.1 1)) : CT yX4_onLine cX4_onLine 2 (some .int) 2 44 K [.ref 0, .int x] (m) (some (.int ((if (outI x 0 20) = true then (-1000001) else lyF (m.1 1) x n8)))) ((if (outI x 0 20) = true then fnd m 0 else m)) := by
  refine ct_ofd (n := 0) (by decide +kernel) rfl rfl ?_
  show XX RX4 cX4_onLine 2 (some .int) 2 44 K 0 [some (.ref 0), some (.int x)] [] (m) (fun r1 m1 => r1 = (some (.int ((if (outI x 0 20) = true then (-1000001) else lyF (m.1 1) x n8)))) ∧ m1 = (if (outI x 0 20) = true then fnd m 0 else m))
  refine x_iload_n (q := 1) dX4_onLine_0 rfl rfl ?_
  refine x_iconst (q := 2) (v := 0) dX4_onLine_1 rfl (by decide) ?_
  refine x_bipush (q := 4) (v := 20) dX4_onLine_2 rfl (by decide) ?_
  refine x_callS3v (q := 7) dX4_onLine_4 rfl ml_X4_44 ms_X4_isOut c_X4_isOut (Nat.le_of_ble_eq_true rfl) ⟨by decide, by decide⟩ ?_
  refine x_ifB_eq (q := 10) (t := 17) dX4_onLine_7 rfl (by decide) (fun h7 => ?_) (fun h7 => ?_)
  · refine x_aload_n (q := 18) dX4_onLine_17 rfl rfl ?_
    refine x_getR (q := 21) dX4_onLine_18 rfl fl_X4_12 (or4_coast) ?_
    refine x_iload_n (q := 22) dX4_onLine_21 rfl rfl ?_
    refine x_callV1v (q := 25) dX4_onLine_22 rfl ml_X4_104 mv_X0_lyingOn (rv0 isC_1) rfl (p_X0_lyingOn isC_1 hI.2.1 hI.1) (Nat.le_of_ble_eq_true rfl) ⟨by decide, by decide⟩ ?_
    refine x_ireturn dX4_onLine_25 rfl rfl ?_
    exact ⟨by simp [h7], by simp [h7]⟩
  refine x_aload_n (q := 11) dX4_onLine_10 rfl rfl ?_
  refine x_ldc (q := 13) dX4_onLine_11 rfl kc_X4_48 ?_
  refine x_callV1v (q := 16) dX4_onLine_13 rfl ml_X4_49 mv_X4_finding rv4 rfl (c_X4_finding (w := 0) (by decide) (by decide)) (Nat.le_of_ble_eq_true rfl) ⟨by decide, by decide⟩ ?_
  refine x_ireturn dX4_onLine_16 rfl rfl ?_
  exact ⟨by simp [h7], by simp [h7]⟩
theorem dX4_now_0 : decode cX4_now 0 = .ok (.iload_n 1, 1) := by decide +kernel
theorem dX4_now_1 : decode cX4_now 1 = .ok (.tableswitch 114 0 7 #[47, 55, 63, 71, 80, 89, 98, 106], 47) := by decide +kernel
theorem dX4_now_48 : decode cX4_now 48 = .ok (.aload_n 0, 1) := by decide +kernel
theorem dX4_now_49 : decode cX4_now 49 = .ok (.getfield 12, 3) := by decide +kernel
theorem dX4_now_52 : decode cX4_now 52 = .ok (.getfield 97, 3) := by decide +kernel
theorem dX4_now_55 : decode cX4_now 55 = .ok (.ireturn, 1) := by decide +kernel
theorem dX4_now_56 : decode cX4_now 56 = .ok (.aload_n 0, 1) := by decide +kernel
theorem dX4_now_57 : decode cX4_now 57 = .ok (.getfield 12, 3) := by decide +kernel
theorem dX4_now_60 : decode cX4_now 60 = .ok (.getfield 116, 3) := by decide +kernel
theorem dX4_now_63 : decode cX4_now 63 = .ok (.ireturn, 1) := by decide +kernel
theorem dX4_now_64 : decode cX4_now 64 = .ok (.aload_n 0, 1) := by decide +kernel
theorem dX4_now_65 : decode cX4_now 65 = .ok (.getfield 12, 3) := by decide +kernel
theorem dX4_now_68 : decode cX4_now 68 = .ok (.getfield 56, 3) := by decide +kernel
theorem dX4_now_71 : decode cX4_now 71 = .ok (.ireturn, 1) := by decide +kernel
theorem dX4_now_72 : decode cX4_now 72 = .ok (.aload_n 0, 1) := by decide +kernel
theorem dX4_now_73 : decode cX4_now 73 = .ok (.getfield 12, 3) := by decide +kernel
theorem dX4_now_76 : decode cX4_now 76 = .ok (.iconst 0, 1) := by decide +kernel
theorem dX4_now_77 : decode cX4_now 77 = .ok (.invokevirtual 113, 3) := by decide +kernel
theorem dX4_now_80 : decode cX4_now 80 = .ok (.ireturn, 1) := by decide +kernel
theorem dX4_now_81 : decode cX4_now 81 = .ok (.aload_n 0, 1) := by decide +kernel
theorem dX4_now_82 : decode cX4_now 82 = .ok (.getfield 12, 3) := by decide +kernel
theorem dX4_now_85 : decode cX4_now 85 = .ok (.iconst 1, 1) := by decide +kernel
theorem dX4_now_86 : decode cX4_now 86 = .ok (.invokevirtual 113, 3) := by decide +kernel
theorem dX4_now_89 : decode cX4_now 89 = .ok (.ireturn, 1) := by decide +kernel
theorem dX4_now_90 : decode cX4_now 90 = .ok (.aload_n 0, 1) := by decide +kernel
theorem dX4_now_91 : decode cX4_now 91 = .ok (.getfield 12, 3) := by decide +kernel
theorem dX4_now_94 : decode cX4_now 94 = .ok (.iconst 2, 1) := by decide +kernel
theorem dX4_now_95 : decode cX4_now 95 = .ok (.invokevirtual 113, 3) := by decide +kernel
theorem dX4_now_98 : decode cX4_now 98 = .ok (.ireturn, 1) := by decide +kernel
theorem dX4_now_99 : decode cX4_now 99 = .ok (.aload_n 0, 1) := by decide +kernel
theorem dX4_now_100 : decode cX4_now 100 = .ok (.getfield 12, 3) := by decide +kernel
theorem dX4_now_103 : decode cX4_now 103 = .ok (.invokevirtual 119, 3) := by decide +kernel
theorem dX4_now_106 : decode cX4_now 106 = .ok (.ireturn, 1) := by decide +kernel
theorem dX4_now_107 : decode cX4_now 107 = .ok (.aload_n 0, 1) := by decide +kernel
theorem dX4_now_108 : decode cX4_now 108 = .ok (.getfield 12, 3) := by decide +kernel
theorem dX4_now_111 : decode cX4_now 111 = .ok (.invokevirtual 123, 3) := by decide +kernel
theorem dX4_now_114 : decode cX4_now 114 = .ok (.ireturn, 1) := by decide +kernel
theorem dX4_now_115 : decode cX4_now 115 = .ok (.aload_n 0, 1) := by decide +kernel
theorem dX4_now_116 : decode cX4_now 116 = .ok (.ldc 48, 2) := by decide +kernel
theorem dX4_now_118 : decode cX4_now 118 = .ok (.invokevirtual 49, 3) := by decide +kernel
theorem dX4_now_121 : decode cX4_now 121 = .ok (.ireturn, 1) := by decide +kernel
set_option maxRecDepth 20000 in
set_option maxHeartbeats 4000000 in
theorem c_X4_now {K : Cx} {x : Int32} {n8 : Nat} {m : TM} (hI : Iv n8 (m.1 1)) : CT yX4_now cX4_now 2 (some .int) 2 44 K [.ref 0, .int x] (m) (some (.int (if x = 0 then m.1 1 0 else if x = 1 then m.1 1 3 else if x = 2 then m.1 1 4 else if x = 3 then thF (m.1 1) 0 n8 else if x = 4 then thF (m.1 1) 1 n8 else if x = 5 then thF (m.1 1) 2 n8 else if x = 6 then tdF (m.1 1) else if x = 7 then weF (m.1 1) n8 else -1000001))) (if outI x 0 7 = true then fnd m 0 else m) := by
  refine ct_ofd (n := 0) (by decide +kernel) rfl rfl ?_
  show XX RX4 cX4_now 2 (some .int) 2 44 K 0 [some (.ref 0), some (.int x)] [] (m) (fun r1 m1 => r1 = (some (.int (if x = 0 then m.1 1 0 else if x = 1 then m.1 1 3 else if x = 2 then m.1 1 4 else if x = 3 then thF (m.1 1) 0 n8 else if x = 4 then thF (m.1 1) 1 n8 else if x = 5 then thF (m.1 1) 2 n8 else if x = 6 then tdF (m.1 1) else if x = 7 then weF (m.1 1) n8 else -1000001))) ∧ m1 = if outI x 0 7 = true then fnd m 0 else m)
  refine x_iload_n (q := 1) dX4_now_0 rfl rfl ?_
  by_cases h1_0 : x = 0
  · refine x_tswC (q := 48) (k := 0) dX4_now_1 h1_0 (by decide) (by decide) rfl (by decide) ?_
    refine x_aload_n (q := 49) dX4_now_48 rfl rfl ?_
    refine x_getR (q := 52) dX4_now_49 rfl fl_X4_12 (or4_coast) ?_
    refine x_getI (q := 55) dX4_now_52 rfl fl_X4_97 (ob0_day isC_1) ?_
    refine x_ireturn dX4_now_55 rfl rfl ?_
    exact ⟨by simp [h1_0], by rw [h1_0]; rfl⟩
  by_cases h1_1 : x = 1
  · refine x_tswC (q := 56) (k := 1) dX4_now_1 h1_1 (by decide) (by decide) rfl (by decide) ?_
    refine x_aload_n (q := 57) dX4_now_56 rfl rfl ?_
    refine x_getR (q := 60) dX4_now_57 rfl fl_X4_12 (or4_coast) ?_
    refine x_getI (q := 63) dX4_now_60 rfl fl_X4_116 (ob0_amber isC_1) ?_
    refine x_ireturn dX4_now_63 rfl rfl ?_
    exact ⟨by simp [h1_0, h1_1], by rw [h1_1]; rfl⟩
  by_cases h1_2 : x = 2
  · refine x_tswC (q := 64) (k := 2) dX4_now_1 h1_2 (by decide) (by decide) rfl (by decide) ?_
    refine x_aload_n (q := 65) dX4_now_64 rfl rfl ?_
    refine x_getR (q := 68) dX4_now_65 rfl fl_X4_12 (or4_coast) ?_
    refine x_getI (q := 71) dX4_now_68 rfl fl_X4_56 (ob0_late isC_1) ?_
    refine x_ireturn dX4_now_71 rfl rfl ?_
    exact ⟨by simp [h1_0, h1_1, h1_2], by rw [h1_2]; rfl⟩
  by_cases h1_3 : x = 3
  · refine x_tswC (q := 72) (k := 3) dX4_now_1 h1_3 (by decide) (by decide) rfl (by decide) ?_
    refine x_aload_n (q := 73) dX4_now_72 rfl rfl ?_
    refine x_getR (q := 76) dX4_now_73 rfl fl_X4_12 (or4_coast) ?_
    refine x_iconst (q := 77) (v := 0) dX4_now_76 rfl (by decide) ?_
    refine x_callV1v (q := 80) dX4_now_77 rfl ml_X4_113 mv_X0_allThatAre (rv0 isC_1) rfl (p_X0_allThatAre isC_1 hI.2.1 hI.1) (Nat.le_of_ble_eq_true rfl) ⟨by decide, by decide⟩ ?_
    refine x_ireturn dX4_now_80 rfl rfl ?_
    exact ⟨by simp [h1_0, h1_1, h1_2, h1_3], by rw [h1_3]; rfl⟩
  by_cases h1_4 : x = 4
  · refine x_tswC (q := 81) (k := 4) dX4_now_1 h1_4 (by decide) (by decide) rfl (by decide) ?_
    refine x_aload_n (q := 82) dX4_now_81 rfl rfl ?_
    refine x_getR (q := 85) dX4_now_82 rfl fl_X4_12 (or4_coast) ?_
    refine x_iconst (q := 86) (v := 1) dX4_now_85 rfl (by decide) ?_
    refine x_callV1v (q := 89) dX4_now_86 rfl ml_X4_113 mv_X0_allThatAre (rv0 isC_1) rfl (p_X0_allThatAre isC_1 hI.2.1 hI.1) (Nat.le_of_ble_eq_true rfl) ⟨by decide, by decide⟩ ?_
    refine x_ireturn dX4_now_89 rfl rfl ?_
    exact ⟨by simp [h1_0, h1_1, h1_2, h1_3, h1_4], by rw [h1_4]; rfl⟩
  by_cases h1_5 : x = 5
  · refine x_tswC (q := 90) (k := 5) dX4_now_1 h1_5 (by decide) (by decide) rfl (by decide) ?_
    refine x_aload_n (q := 91) dX4_now_90 rfl rfl ?_
    refine x_getR (q := 94) dX4_now_91 rfl fl_X4_12 (or4_coast) ?_
    refine x_iconst (q := 95) (v := 2) dX4_now_94 rfl (by decide) ?_
    refine x_callV1v (q := 98) dX4_now_95 rfl ml_X4_113 mv_X0_allThatAre (rv0 isC_1) rfl (p_X0_allThatAre isC_1 hI.2.1 hI.1) (Nat.le_of_ble_eq_true rfl) ⟨by decide, by decide⟩ ?_
    refine x_ireturn dX4_now_98 rfl rfl ?_
    exact ⟨by simp [h1_0, h1_1, h1_2, h1_3, h1_4, h1_5], by rw [h1_5]; rfl⟩
  by_cases h1_6 : x = 6
  · refine x_tswC (q := 99) (k := 6) dX4_now_1 h1_6 (by decide) (by decide) rfl (by decide) ?_
    refine x_aload_n (q := 100) dX4_now_99 rfl rfl ?_
    refine x_getR (q := 103) dX4_now_100 rfl fl_X4_12 (or4_coast) ?_
    refine x_callV0v (q := 106) dX4_now_103 rfl ml_X4_119 mv_X0_tideOfDay (rv0 isC_1) rfl (p_X0_tideOfDay isC_1 hI.td) (Nat.le_of_ble_eq_true rfl) ⟨by decide, by decide⟩ ?_
    refine x_ireturn dX4_now_106 rfl rfl ?_
    exact ⟨by simp [h1_0, h1_1, h1_2, h1_3, h1_4, h1_5, h1_6], by rw [h1_6]; rfl⟩
  by_cases h1_7 : x = 7
  · refine x_tswC (q := 107) (k := 7) dX4_now_1 h1_7 (by decide) (by decide) rfl (by decide) ?_
    refine x_aload_n (q := 108) dX4_now_107 rfl rfl ?_
    refine x_getR (q := 111) dX4_now_108 rfl fl_X4_12 (or4_coast) ?_
    refine x_callV0v (q := 114) dX4_now_111 rfl ml_X4_123 mv_X0_weightThatLies (rv0 isC_1) rfl (p_X0_weightThatLies isC_1 hI.2.1 hI.1) (Nat.le_of_ble_eq_true rfl) ⟨by decide, by decide⟩ ?_
    refine x_ireturn dX4_now_114 rfl rfl ?_
    exact ⟨by simp [h1_0, h1_1, h1_2, h1_3, h1_4, h1_5, h1_6, h1_7], by rw [h1_7]; rfl⟩
  refine x_tswD (q := 115) dX4_now_1 (by have n0 := lv_neT h1_0 (a := 0) (by decide); have n1 := lv_neT h1_1 (a := 1) (by decide); have n2 := lv_neT h1_2 (a := 2) (by decide); have n3 := lv_neT h1_3 (a := 3) (by decide); have n4 := lv_neT h1_4 (a := 4) (by decide); have n5 := lv_neT h1_5 (a := 5) (by decide); have n6 := lv_neT h1_6 (a := 6) (by decide); have n7 := lv_neT h1_7 (a := 7) (by decide); omega) (by decide) ?_
  refine x_aload_n (q := 116) dX4_now_115 rfl rfl ?_
  refine x_ldc (q := 118) dX4_now_116 rfl kc_X4_48 ?_
  refine x_callV1v (q := 121) dX4_now_118 rfl ml_X4_49 mv_X4_finding rv4 rfl (c_X4_finding (w := 0) (by decide) (by decide)) (Nat.le_of_ble_eq_true rfl) ⟨by decide, by decide⟩ ?_
  refine x_ireturn dX4_now_121 rfl rfl ?_
  exact ⟨by simp [h1_0, h1_1, h1_2, h1_3, h1_4, h1_5, h1_6, h1_7], by rw [if_pos (sw_out h1_0 h1_1 h1_2 h1_3 h1_4 h1_5 h1_6 h1_7)]⟩
theorem dX4_seed_0 : decode cX4_seed 0 = .ok (.aload_n 0, 1) := by decide +kernel
theorem dX4_seed_1 : decode cX4_seed 1 = .ok (.getfield 12, 3) := by decide +kernel
theorem dX4_seed_4 : decode cX4_seed 4 = .ok (.getfield 163, 3) := by decide +kernel
theorem dX4_seed_7 : decode cX4_seed 7 = .ok (.istore_n 2, 1) := by decide +kernel
theorem dX4_seed_8 : decode cX4_seed 8 = .ok (.aload_n 0, 1) := by decide +kernel
theorem dX4_seed_9 : decode cX4_seed 9 = .ok (.getfield 12, 3) := by decide +kernel
theorem dX4_seed_12 : decode cX4_seed 12 = .ok (.iload_n 1, 1) := by decide +kernel
theorem dX4_seed_13 : decode cX4_seed 13 = .ok (.putfield 163, 3) := by decide +kernel
theorem dX4_seed_16 : decode cX4_seed 16 = .ok (.iload_n 2, 1) := by decide +kernel
theorem dX4_seed_17 : decode cX4_seed 17 = .ok (.ireturn, 1) := by decide +kernel
set_option maxRecDepth 20000 in
set_option maxHeartbeats 4000000 in
theorem c_X4_seed {K : Cx} {v : Int32} {m : TM} : CT yX4_seed cX4_seed 3 (some .int) 0 0 K [.ref 0, .int v] (m) (some (.int (m.1 1 2))) (sr m 1 (upd (m.1 1) 2 v)) := by
  refine ct_ofd (n := 1) (by decide +kernel) rfl rfl ?_
  show XX RX4 cX4_seed 3 (some .int) 0 0 K 0 [some (.ref 0), some (.int v), none] [] (m) (fun r1 m1 => r1 = (some (.int (m.1 1 2))) ∧ m1 = sr m 1 (upd (m.1 1) 2 v))
  refine x_aload_n (q := 1) dX4_seed_0 rfl rfl ?_
  refine x_getR (q := 4) dX4_seed_1 rfl fl_X4_12 (or4_coast) ?_
  refine x_getI (q := 7) dX4_seed_4 rfl fl_X4_163 (ob0_z isC_1) ?_
  refine x_istore_n (q := 8) dX4_seed_7 rfl (by decide) rfl rfl ?_
  refine x_aload_n (q := 9) dX4_seed_8 rfl rfl ?_
  refine x_getR (q := 12) dX4_seed_9 rfl fl_X4_12 (or4_coast) ?_
  refine x_iload_n (q := 13) dX4_seed_12 rfl rfl ?_
  refine x_putI (q := 16) dX4_seed_13 rfl fl_X4_163 (ob0_z isC_1) rfl rfl rfl rfl ?_
  refine x_iload_n (q := 17) dX4_seed_16 rfl rfl ?_
  refine x_ireturn dX4_seed_17 rfl rfl ?_
  exact ⟨rfl, st1_eq⟩
theorem dX4_wipe_0 : decode cX4_wipe 0 = .ok (.aload_n 0, 1) := by decide +kernel
theorem dX4_wipe_1 : decode cX4_wipe 1 = .ok (.getfield 29, 3) := by decide +kernel
theorem dX4_wipe_4 : decode cX4_wipe 4 = .ok (.getfield 166, 3) := by decide +kernel
theorem dX4_wipe_7 : decode cX4_wipe 7 = .ok (.istore_n 1, 1) := by decide +kernel
theorem dX4_wipe_8 : decode cX4_wipe 8 = .ok (.aload_n 0, 1) := by decide +kernel
theorem dX4_wipe_9 : decode cX4_wipe 9 = .ok (.getfield 29, 3) := by decide +kernel
theorem dX4_wipe_12 : decode cX4_wipe 12 = .ok (.iconst 0, 1) := by decide +kernel
theorem dX4_wipe_13 : decode cX4_wipe 13 = .ok (.putfield 166, 3) := by decide +kernel
theorem dX4_wipe_16 : decode cX4_wipe 16 = .ok (.iload_n 1, 1) := by decide +kernel
theorem dX4_wipe_17 : decode cX4_wipe 17 = .ok (.ireturn, 1) := by decide +kernel
set_option maxRecDepth 20000 in
set_option maxHeartbeats 4000000 in
theorem c_X4_wipe {K : Cx} {m : TM} : CT yX4_wipe cX4_wipe 2 (some .int) 0 0 K [.ref 0] (m) (some (.int (m.1 37 1))) (st1 m 37 1 0) := by
  refine ct_ofd (n := 1) (by decide +kernel) rfl rfl ?_
  show XX RX4 cX4_wipe 2 (some .int) 0 0 K 0 [some (.ref 0), none] [] (m) (fun r1 m1 => r1 = (some (.int (m.1 37 1))) ∧ m1 = st1 m 37 1 0)
  refine x_aload_n (q := 1) dX4_wipe_0 rfl rfl ?_
  refine x_getR (q := 4) dX4_wipe_1 rfl fl_X4_29 (or4_tape) ?_
  refine x_getI (q := 7) dX4_wipe_4 rfl fl_X4_166 (ob3_length) ?_
  refine x_istore_n (q := 8) dX4_wipe_7 rfl (by decide) rfl rfl ?_
  refine x_aload_n (q := 9) dX4_wipe_8 rfl rfl ?_
  refine x_getR (q := 12) dX4_wipe_9 rfl fl_X4_29 (or4_tape) ?_
  refine x_iconst (q := 13) (v := 0) dX4_wipe_12 rfl (by decide) ?_
  refine x_putI (q := 16) dX4_wipe_13 rfl fl_X4_166 (ob3_length) rfl rfl rfl rfl ?_
  refine x_iload_n (q := 17) dX4_wipe_16 rfl rfl ?_
  refine x_ireturn dX4_wipe_17 rfl rfl ?_
  exact ⟨rfl, rfl⟩
theorem dX4_hold_0 : decode cX4_hold 0 = .ok (.iload_n 1, 1) := by decide +kernel
theorem dX4_hold_1 : decode cX4_hold 1 = .ok (.iconst 0, 1) := by decide +kernel
theorem dX4_hold_2 : decode cX4_hold 2 = .ok (.bipush 9, 2) := by decide +kernel
theorem dX4_hold_4 : decode cX4_hold 4 = .ok (.invokestatic 44, 3) := by decide +kernel
theorem dX4_hold_7 : decode cX4_hold 7 = .ok (.ifCond .ne 16, 3) := by decide +kernel
theorem dX4_hold_10 : decode cX4_hold 10 = .ok (.iload_n 2, 1) := by decide +kernel
theorem dX4_hold_11 : decode cX4_hold 11 = .ok (.iconst (-1), 1) := by decide +kernel
theorem dX4_hold_12 : decode cX4_hold 12 = .ok (.if_icmp .eq 18, 3) := by decide +kernel
theorem dX4_hold_15 : decode cX4_hold 15 = .ok (.aload_n 0, 1) := by decide +kernel
theorem dX4_hold_16 : decode cX4_hold 16 = .ok (.iload_n 2, 1) := by decide +kernel
theorem dX4_hold_17 : decode cX4_hold 17 = .ok (.invokevirtual 76, 3) := by decide +kernel
theorem dX4_hold_20 : decode cX4_hold 20 = .ok (.ifCond .eq 10, 3) := by decide +kernel
theorem dX4_hold_23 : decode cX4_hold 23 = .ok (.aload_n 0, 1) := by decide +kernel
theorem dX4_hold_24 : decode cX4_hold 24 = .ok (.ldc 48, 2) := by decide +kernel
theorem dX4_hold_26 : decode cX4_hold 26 = .ok (.invokevirtual 49, 3) := by decide +kernel
theorem dX4_hold_29 : decode cX4_hold 29 = .ok (.ireturn, 1) := by decide +kernel
theorem dX4_hold_30 : decode cX4_hold 30 = .ok (.aload_n 0, 1) := by decide +kernel
theorem dX4_hold_31 : decode cX4_hold 31 = .ok (.getfield 12, 3) := by decide +kernel
theorem dX4_hold_34 : decode cX4_hold 34 = .ok (.getfield 177, 3) := by decide +kernel
theorem dX4_hold_37 : decode cX4_hold 37 = .ok (.iload_n 1, 1) := by decide +kernel
theorem dX4_hold_38 : decode cX4_hold 38 = .ok (.iload_n 2, 1) := by decide +kernel
theorem dX4_hold_39 : decode cX4_hold 39 = .ok (.iastore, 1) := by decide +kernel
theorem dX4_hold_40 : decode cX4_hold 40 = .ok (.iconst 1, 1) := by decide +kernel
theorem dX4_hold_41 : decode cX4_hold 41 = .ok (.ireturn, 1) := by decide +kernel
set_option maxRecDepth 20000 in
set_option maxHeartbeats 4000000 in
theorem c_X4_hold {K : Cx} {x p : Int32} {m : TM} : CT yX4_hold cX4_hold 3 (some .int) 2 44 K [.ref 0, .int x, .int p] (m) (some (.int ((if (outI x 0 9 || (!decide (p = -1) && outI p 0 (m.1 1 1 - 1))) = true then (-1000001) else 1)))) ((if (outI x 0 9 || (!decide (p = -1) && outI p 0 (m.1 1 1 - 1))) = true then fnd m 0 else sr m 1 (upd (m.1 1) (68 + cl x) p))) := by
  refine ct_ofd (n := 0) (by decide +kernel) rfl rfl ?_
  show XX RX4 cX4_hold 3 (some .int) 2 44 K 0 [some (.ref 0), some (.int x), some (.int p)] [] (m) (fun r1 m1 => r1 = (some (.int ((if (outI x 0 9 || (!decide (p = -1) && outI p 0 (m.1 1 1 - 1))) = true then (-1000001) else 1)))) ∧ m1 = (if (outI x 0 9 || (!decide (p = -1) && outI p 0 (m.1 1 1 - 1))) = true then fnd m 0 else sr m 1 (upd (m.1 1) (68 + cl x) p)))
  refine x_iload_n (q := 1) dX4_hold_0 rfl rfl ?_
  refine x_iconst (q := 2) (v := 0) dX4_hold_1 rfl (by decide) ?_
  refine x_bipush (q := 4) (v := 9) dX4_hold_2 rfl (by decide) ?_
  refine x_callS3v (q := 7) dX4_hold_4 rfl ml_X4_44 ms_X4_isOut c_X4_isOut (Nat.le_of_ble_eq_true rfl) ⟨by decide, by decide⟩ ?_
  refine x_ifB_ne (q := 10) (t := 23) dX4_hold_7 rfl (by decide) (fun h7 => ?_) (fun h7 => ?_)
  · refine x_aload_n (q := 24) dX4_hold_23 rfl rfl ?_
    refine x_ldc (q := 26) dX4_hold_24 rfl kc_X4_48 ?_
    refine x_callV1v (q := 29) dX4_hold_26 rfl ml_X4_49 mv_X4_finding rv4 rfl (c_X4_finding (w := 0) (by decide) (by decide)) (Nat.le_of_ble_eq_true rfl) ⟨by decide, by decide⟩ ?_
    refine x_ireturn dX4_hold_29 rfl rfl ?_
    exact ⟨by simp [h7, st1_eq], by simp [h7, st1_eq]⟩
  refine x_iload_n (q := 11) dX4_hold_10 rfl rfl ?_
  refine x_iconst (q := 12) (v := (-1)) dX4_hold_11 rfl (by decide) ?_
  refine x_icmp_eq (q := 15) (t := 30) dX4_hold_12 rfl (by decide) (fun h12 => ?_) (fun h12 => ?_)
  · refine x_aload_n (q := 31) dX4_hold_30 rfl rfl ?_
    refine x_getR (q := 34) dX4_hold_31 rfl fl_X4_12 (or4_coast) ?_
    refine x_getR (q := 37) dX4_hold_34 rfl fl_X4_177 (or0_spots isC_1) ?_
    refine x_iload_n (q := 38) dX4_hold_37 rfl rfl ?_
    refine x_iload_n (q := 39) dX4_hold_38 rfl rfl ?_
    refine x_iast (q := 40) dX4_hold_39 rfl (ar_spots isC_1) (ix_out h7 (by decide)) rfl rfl ?_
    refine x_iconst (q := 41) (v := 1) dX4_hold_40 rfl (by decide) ?_
    refine x_ireturn dX4_hold_41 rfl rfl ?_
    exact ⟨by simp [h7, h12, st1_eq], by simp [h7, h12, st1_eq]⟩
  refine x_aload_n (q := 16) dX4_hold_15 rfl rfl ?_
  refine x_iload_n (q := 17) dX4_hold_16 rfl rfl ?_
  refine x_callV1v (q := 20) dX4_hold_17 rfl ml_X4_76 mv_X4_isNoParcel rv4 rfl c_X4_isNoParcel (Nat.le_of_ble_eq_true rfl) ⟨by decide, by decide⟩ ?_
  refine x_ifB_eq (q := 23) (t := 30) dX4_hold_20 rfl (by decide) (fun h20 => ?_) (fun h20 => ?_)
  · refine x_aload_n (q := 31) dX4_hold_30 rfl rfl ?_
    refine x_getR (q := 34) dX4_hold_31 rfl fl_X4_12 (or4_coast) ?_
    refine x_getR (q := 37) dX4_hold_34 rfl fl_X4_177 (or0_spots isC_1) ?_
    refine x_iload_n (q := 38) dX4_hold_37 rfl rfl ?_
    refine x_iload_n (q := 39) dX4_hold_38 rfl rfl ?_
    refine x_iast (q := 40) dX4_hold_39 rfl (ar_spots isC_1) (ix_out h7 (by decide)) rfl rfl ?_
    refine x_iconst (q := 41) (v := 1) dX4_hold_40 rfl (by decide) ?_
    refine x_ireturn dX4_hold_41 rfl rfl ?_
    exact ⟨by simp [h7, h12, h20, st1_eq], by simp [h7, h12, h20, st1_eq]⟩
  refine x_aload_n (q := 24) dX4_hold_23 rfl rfl ?_
  refine x_ldc (q := 26) dX4_hold_24 rfl kc_X4_48 ?_
  refine x_callV1v (q := 29) dX4_hold_26 rfl ml_X4_49 mv_X4_finding rv4 rfl (c_X4_finding (w := 0) (by decide) (by decide)) (Nat.le_of_ble_eq_true rfl) ⟨by decide, by decide⟩ ?_
  refine x_ireturn dX4_hold_29 rfl rfl ?_
  exact ⟨by simp [h7, h12, h20, st1_eq], by simp [h7, h12, h20, st1_eq]⟩
theorem dX4_image_0 : decode cX4_image 0 = .ok (.aload_n 0, 1) := by decide +kernel
theorem dX4_image_1 : decode cX4_image 1 = .ok (.getfield 19, 3) := by decide +kernel
theorem dX4_image_4 : decode cX4_image 4 = .ok (.aload_n 0, 1) := by decide +kernel
theorem dX4_image_5 : decode cX4_image 5 = .ok (.getfield 12, 3) := by decide +kernel
theorem dX4_image_8 : decode cX4_image 8 = .ok (.invokevirtual 129, 3) := by decide +kernel
theorem dX4_image_11 : decode cX4_image 11 = .ok (.aload_n 0, 1) := by decide +kernel
theorem dX4_image_12 : decode cX4_image 12 = .ok (.iconst 1, 1) := by decide +kernel
theorem dX4_image_13 : decode cX4_image 13 = .ok (.putfield 22, 3) := by decide +kernel
theorem dX4_image_16 : decode cX4_image 16 = .ok (.iconst 1, 1) := by decide +kernel
theorem dX4_image_17 : decode cX4_image 17 = .ok (.ireturn, 1) := by decide +kernel
set_option maxRecDepth 20000 in
set_option maxHeartbeats 4000000 in
theorem c_X4_image {K : Cx} {n8 : Nat} {m : TM} (hI : Iv n8 (m.1 1)) : CT yX4_image cX4_image 1 (some .int) 2 52 K [.ref 0] (m) (some (.int (1))) (st1 (sr m 25 (bcF (m.1 25) (m.1 1) n8)) 0 3 1) := by
  refine ct_ofd (n := 0) (by decide +kernel) rfl rfl ?_
  show XX RX4 cX4_image 1 (some .int) 2 52 K 0 [some (.ref 0)] [] (m) (fun r1 m1 => r1 = (some (.int (1))) ∧ m1 = st1 (sr m 25 (bcF (m.1 25) (m.1 1) n8)) 0 3 1)
  refine x_aload_n (q := 1) dX4_image_0 rfl rfl ?_
  refine x_getR (q := 4) dX4_image_1 rfl fl_X4_19 (or4_kept) ?_
  refine x_aload_n (q := 5) dX4_image_4 rfl rfl ?_
  refine x_getR (q := 8) dX4_image_5 rfl fl_X4_12 (or4_coast) ?_
  refine x_callV1n (q := 11) dX4_image_8 rfl ml_X4_129 mv_X0_becomeAs (rv0 isC_25) rfl (p_X0_becomeAs isC_25 isC_1 (by decide) hI.2.1 hI.1) (Nat.le_of_ble_eq_true rfl) ⟨by decide, by decide⟩ ?_
  refine x_aload_n (q := 12) dX4_image_11 rfl rfl ?_
  refine x_iconst (q := 13) (v := 1) dX4_image_12 rfl (by decide) ?_
  refine x_putI (q := 16) dX4_image_13 rfl fl_X4_22 (ob4_keeps) rfl rfl rfl rfl ?_
  refine x_iconst (q := 17) (v := 1) dX4_image_16 rfl (by decide) ?_
  refine x_ireturn dX4_image_17 rfl rfl ?_
  exact ⟨rfl, rfl⟩
theorem dX4_undo_0 : decode cX4_undo 0 = .ok (.aload_n 0, 1) := by decide +kernel
theorem dX4_undo_1 : decode cX4_undo 1 = .ok (.getfield 22, 3) := by decide +kernel
theorem dX4_undo_4 : decode cX4_undo 4 = .ok (.ifCond .ne 10, 3) := by decide +kernel
theorem dX4_undo_7 : decode cX4_undo 7 = .ok (.aload_n 0, 1) := by decide +kernel
theorem dX4_undo_8 : decode cX4_undo 8 = .ok (.ldc 139, 2) := by decide +kernel
theorem dX4_undo_10 : decode cX4_undo 10 = .ok (.invokevirtual 49, 3) := by decide +kernel
theorem dX4_undo_13 : decode cX4_undo 13 = .ok (.ireturn, 1) := by decide +kernel
theorem dX4_undo_14 : decode cX4_undo 14 = .ok (.aload_n 0, 1) := by decide +kernel
theorem dX4_undo_15 : decode cX4_undo 15 = .ok (.getfield 12, 3) := by decide +kernel
theorem dX4_undo_18 : decode cX4_undo 18 = .ok (.aload_n 0, 1) := by decide +kernel
theorem dX4_undo_19 : decode cX4_undo 19 = .ok (.getfield 19, 3) := by decide +kernel
theorem dX4_undo_22 : decode cX4_undo 22 = .ok (.invokevirtual 129, 3) := by decide +kernel
theorem dX4_undo_25 : decode cX4_undo 25 = .ok (.aload_n 0, 1) := by decide +kernel
theorem dX4_undo_26 : decode cX4_undo 26 = .ok (.getfield 12, 3) := by decide +kernel
theorem dX4_undo_29 : decode cX4_undo 29 = .ok (.getfield 97, 3) := by decide +kernel
theorem dX4_undo_32 : decode cX4_undo 32 = .ok (.ireturn, 1) := by decide +kernel
set_option maxRecDepth 20000 in
set_option maxHeartbeats 4000000 in
theorem c_X4_undo {K : Cx} {n8 : Nat} {m : TM} (h0 : ¬ m.1 0 3 = 0) (hI : Iv n8 (m.1 25)) : CT yX4_undo cX4_undo 1 (some .int) 2 52 K [.ref 0] (m) (some (.int (m.1 25 0))) (sr m 1 (bcF (m.1 1) (m.1 25) n8)) := by
  refine ct_ofd (n := 0) (by decide +kernel) rfl rfl ?_
  show XX RX4 cX4_undo 1 (some .int) 2 52 K 0 [some (.ref 0)] [] (m) (fun r1 m1 => r1 = (some (.int (m.1 25 0))) ∧ m1 = sr m 1 (bcF (m.1 1) (m.1 25) n8))
  refine x_aload_n (q := 1) dX4_undo_0 rfl rfl ?_
  refine x_getI (q := 4) dX4_undo_1 rfl fl_X4_22 (ob4_keeps) ?_
  refine x_if_ne (q := 7) (t := 14) dX4_undo_4 rfl (by decide) (fun h4 => ?_) (fun h4 => ?_)
  · refine x_aload_n (q := 15) dX4_undo_14 rfl rfl ?_
    refine x_getR (q := 18) dX4_undo_15 rfl fl_X4_12 (or4_coast) ?_
    refine x_aload_n (q := 19) dX4_undo_18 rfl rfl ?_
    refine x_getR (q := 22) dX4_undo_19 rfl fl_X4_19 (or4_kept) ?_
    refine x_callV1n (q := 25) dX4_undo_22 rfl ml_X4_129 mv_X0_becomeAs (rv0 isC_1) rfl (p_X0_becomeAs isC_1 isC_25 (by decide) hI.2.1 hI.1) (Nat.le_of_ble_eq_true rfl) ⟨by decide, by decide⟩ ?_
    refine x_aload_n (q := 26) dX4_undo_25 rfl rfl ?_
    refine x_getR (q := 29) dX4_undo_26 rfl fl_X4_12 (or4_coast) ?_
    refine x_getI (q := 32) dX4_undo_29 rfl fl_X4_97 (ob0_day isC_1) ?_
    refine x_ireturn dX4_undo_32 rfl rfl ?_
    exact ⟨by rw [sr_at, (bcF_eqv hI.1).lo (by decide)], rfl⟩
  exact absurd h4 h0
set_option maxRecDepth 20000 in
set_option maxHeartbeats 4000000 in
theorem c_X4_undoN {K : Cx} {m : TM} (h0 : m.1 0 3 = 0) : CT yX4_undo cX4_undo 1 (some .int) 2 52 K [.ref 0] (m) (some (.int (-1000004))) (fnd m 3) := by
  refine ct_ofd (n := 0) (by decide +kernel) rfl rfl ?_
  show XX RX4 cX4_undo 1 (some .int) 2 52 K 0 [some (.ref 0)] [] (m) (fun r1 m1 => r1 = (some (.int (-1000004))) ∧ m1 = fnd m 3)
  refine x_aload_n (q := 1) dX4_undo_0 rfl rfl ?_
  refine x_getI (q := 4) dX4_undo_1 rfl fl_X4_22 (ob4_keeps) ?_
  refine x_if_ne (q := 7) (t := 14) dX4_undo_4 rfl (by decide) (fun h4 => ?_) (fun h4 => ?_)
  · exact absurd h0 h4
  refine x_aload_n (q := 8) dX4_undo_7 rfl rfl ?_
  refine x_ldc (q := 10) dX4_undo_8 rfl kc_X4_139 ?_
  refine x_callV1v (q := 13) dX4_undo_10 rfl ml_X4_49 mv_X4_finding rv4 rfl (c_X4_finding (w := 3) (by decide) (by decide)) (Nat.le_of_ble_eq_true rfl) ⟨by decide, by decide⟩ ?_
  refine x_ireturn dX4_undo_13 rfl rfl ?_
  exact ⟨rfl, rfl⟩
theorem dX4_tear_0 : decode cX4_tear 0 = .ok (.aload_n 0, 1) := by decide +kernel
theorem dX4_tear_1 : decode cX4_tear 1 = .ok (.getfield 22, 3) := by decide +kernel
theorem dX4_tear_4 : decode cX4_tear 4 = .ok (.ifCond .eq 7, 3) := by decide +kernel
theorem dX4_tear_7 : decode cX4_tear 7 = .ok (.iconst 1, 1) := by decide +kernel
theorem dX4_tear_8 : decode cX4_tear 8 = .ok (.goto 4, 3) := by decide +kernel
theorem dX4_tear_11 : decode cX4_tear 11 = .ok (.iconst 0, 1) := by decide +kernel
theorem dX4_tear_12 : decode cX4_tear 12 = .ok (.istore_n 1, 1) := by decide +kernel
theorem dX4_tear_13 : decode cX4_tear 13 = .ok (.aload_n 0, 1) := by decide +kernel
theorem dX4_tear_14 : decode cX4_tear 14 = .ok (.iconst 0, 1) := by decide +kernel
theorem dX4_tear_15 : decode cX4_tear 15 = .ok (.putfield 22, 3) := by decide +kernel
theorem dX4_tear_18 : decode cX4_tear 18 = .ok (.iload_n 1, 1) := by decide +kernel
theorem dX4_tear_19 : decode cX4_tear 19 = .ok (.ireturn, 1) := by decide +kernel
set_option maxRecDepth 20000 in
set_option maxHeartbeats 4000000 in
theorem c_X4_tear {K : Cx} {m : TM} : CT yX4_tear cX4_tear 2 (some .int) 0 0 K [.ref 0] (m) (some (.int (if m.1 0 3 = 0 then 0 else 1))) (st1 m 0 3 0) := by
  refine ct_ofd (n := 1) (by decide +kernel) rfl rfl ?_
  show XX RX4 cX4_tear 2 (some .int) 0 0 K 0 [some (.ref 0), none] [] (m) (fun r1 m1 => r1 = (some (.int (if m.1 0 3 = 0 then 0 else 1))) ∧ m1 = st1 m 0 3 0)
  refine x_aload_n (q := 1) dX4_tear_0 rfl rfl ?_
  refine x_getI (q := 4) dX4_tear_1 rfl fl_X4_22 (ob4_keeps) ?_
  refine x_if_eq (q := 7) (t := 11) dX4_tear_4 rfl (by decide) (fun h4 => ?_) (fun h4 => ?_)
  · refine x_iconst (q := 12) (v := 0) dX4_tear_11 rfl (by decide) ?_
    refine x_istore_n (q := 13) dX4_tear_12 rfl (by decide) rfl rfl ?_
    refine x_aload_n (q := 14) dX4_tear_13 rfl rfl ?_
    refine x_iconst (q := 15) (v := 0) dX4_tear_14 rfl (by decide) ?_
    refine x_putI (q := 18) dX4_tear_15 rfl fl_X4_22 (ob4_keeps) rfl rfl rfl rfl ?_
    refine x_iload_n (q := 19) dX4_tear_18 rfl rfl ?_
    refine x_ireturn dX4_tear_19 rfl rfl ?_
    exact ⟨by simp [h4], rfl⟩
  refine x_iconst (q := 8) (v := 1) dX4_tear_7 rfl (by decide) ?_
  refine x_goto (q := 12) dX4_tear_8 (by decide) ?_
  refine x_istore_n (q := 13) dX4_tear_12 rfl (by decide) rfl rfl ?_
  refine x_aload_n (q := 14) dX4_tear_13 rfl rfl ?_
  refine x_iconst (q := 15) (v := 0) dX4_tear_14 rfl (by decide) ?_
  refine x_putI (q := 18) dX4_tear_15 rfl fl_X4_22 (ob4_keeps) rfl rfl rfl rfl ?_
  refine x_iload_n (q := 19) dX4_tear_18 rfl rfl ?_
  refine x_ireturn dX4_tear_19 rfl rfl ?_
  exact ⟨by simp [h4], rfl⟩
theorem dX4_as_0 : decode cX4_as 0 = .ok (.iload_n 1, 1) := by decide +kernel
theorem dX4_as_1 : decode cX4_as 1 = .ok (.iconst 0, 1) := by decide +kernel
theorem dX4_as_2 : decode cX4_as 2 = .ok (.bipush 9, 2) := by decide +kernel
theorem dX4_as_4 : decode cX4_as 4 = .ok (.invokestatic 44, 3) := by decide +kernel
theorem dX4_as_7 : decode cX4_as 7 = .ok (.ifCond .ne 13, 3) := by decide +kernel
theorem dX4_as_10 : decode cX4_as 10 = .ok (.iload_n 2, 1) := by decide +kernel
theorem dX4_as_11 : decode cX4_as 11 = .ok (.iconst 0, 1) := by decide +kernel
theorem dX4_as_12 : decode cX4_as 12 = .ok (.bipush 6, 2) := by decide +kernel
theorem dX4_as_14 : decode cX4_as 14 = .ok (.invokestatic 44, 3) := by decide +kernel
theorem dX4_as_17 : decode cX4_as 17 = .ok (.ifCond .eq 10, 3) := by decide +kernel
theorem dX4_as_20 : decode cX4_as 20 = .ok (.aload_n 0, 1) := by decide +kernel
theorem dX4_as_21 : decode cX4_as 21 = .ok (.ldc 48, 2) := by decide +kernel
theorem dX4_as_23 : decode cX4_as 23 = .ok (.invokevirtual 49, 3) := by decide +kernel
theorem dX4_as_26 : decode cX4_as 26 = .ok (.ireturn, 1) := by decide +kernel
theorem dX4_as_27 : decode cX4_as 27 = .ok (.aload_n 0, 1) := by decide +kernel
theorem dX4_as_28 : decode cX4_as 28 = .ok (.getfield 12, 3) := by decide +kernel
theorem dX4_as_31 : decode cX4_as 31 = .ok (.getfield 177, 3) := by decide +kernel
theorem dX4_as_34 : decode cX4_as 34 = .ok (.iload_n 1, 1) := by decide +kernel
theorem dX4_as_35 : decode cX4_as 35 = .ok (.iaload, 1) := by decide +kernel
theorem dX4_as_36 : decode cX4_as 36 = .ok (.istore_n 3, 1) := by decide +kernel
theorem dX4_as_37 : decode cX4_as 37 = .ok (.aload_n 0, 1) := by decide +kernel
theorem dX4_as_38 : decode cX4_as 38 = .ok (.iload_n 3, 1) := by decide +kernel
theorem dX4_as_39 : decode cX4_as 39 = .ok (.invokevirtual 76, 3) := by decide +kernel
theorem dX4_as_42 : decode cX4_as 42 = .ok (.ifCond .eq 10, 3) := by decide +kernel
theorem dX4_as_45 : decode cX4_as 45 = .ok (.aload_n 0, 1) := by decide +kernel
theorem dX4_as_46 : decode cX4_as 46 = .ok (.ldc 180, 2) := by decide +kernel
theorem dX4_as_48 : decode cX4_as 48 = .ok (.invokevirtual 49, 3) := by decide +kernel
theorem dX4_as_51 : decode cX4_as 51 = .ok (.ireturn, 1) := by decide +kernel
theorem dX4_as_52 : decode cX4_as 52 = .ok (.aload_n 0, 1) := by decide +kernel
theorem dX4_as_53 : decode cX4_as 53 = .ok (.getfield 12, 3) := by decide +kernel
theorem dX4_as_56 : decode cX4_as 56 = .ok (.getfield 80, 3) := by decide +kernel
theorem dX4_as_59 : decode cX4_as 59 = .ok (.iload_n 3, 1) := by decide +kernel
theorem dX4_as_60 : decode cX4_as 60 = .ok (.aaload, 1) := by decide +kernel
theorem dX4_as_61 : decode cX4_as 61 = .ok (.iload_n 2, 1) := by decide +kernel
theorem dX4_as_62 : decode cX4_as 62 = .ok (.invokevirtual 181, 3) := by decide +kernel
theorem dX4_as_65 : decode cX4_as 65 = .ok (.ifCond .eq 7, 3) := by decide +kernel
theorem dX4_as_68 : decode cX4_as 68 = .ok (.iload_n 3, 1) := by decide +kernel
theorem dX4_as_69 : decode cX4_as 69 = .ok (.goto 9, 3) := by decide +kernel
theorem dX4_as_72 : decode cX4_as 72 = .ok (.aload_n 0, 1) := by decide +kernel
theorem dX4_as_73 : decode cX4_as 73 = .ok (.ldc 184, 2) := by decide +kernel
theorem dX4_as_75 : decode cX4_as 75 = .ok (.invokevirtual 49, 3) := by decide +kernel
theorem dX4_as_78 : decode cX4_as 78 = .ok (.ireturn, 1) := by decide +kernel
set_option maxRecDepth 20000 in
set_option maxHeartbeats 4000000 in
theorem c_X4_as {K : Cx} {x v : Int32} {n8 : Nat} {m : TM} (hI : Iv n8 (m.1 1)) : CT yX4_as cX4_as 4 (some .int) 2 44 K [.ref 0, .int x, .int v] (m) (some (.int (if (outI x 0 9 || outI v 0 6) = true then -1000001 else if outI (m.1 1 (68 + cl x)) 0 (m.1 1 1 - 1) = true then -1000006 else if anc 7 (m.1 1 (12 + 7 * cl (m.1 1 (68 + cl x)) + 0)) v = true then m.1 1 (68 + cl x) else -1000003))) (if (outI x 0 9 || outI v 0 6) = true then fnd m 0 else if outI (m.1 1 (68 + cl x)) 0 (m.1 1 1 - 1) = true then fnd m 5 else if anc 7 (m.1 1 (12 + 7 * cl (m.1 1 (68 + cl x)) + 0)) v = true then m else fnd m 2) := by
  refine ct_ofd (n := 1) (by decide +kernel) rfl rfl ?_
  show XX RX4 cX4_as 4 (some .int) 2 44 K 0 [some (.ref 0), some (.int x), some (.int v), none] [] (m) (fun r1 m1 => r1 = (some (.int (if (outI x 0 9 || outI v 0 6) = true then -1000001 else if outI (m.1 1 (68 + cl x)) 0 (m.1 1 1 - 1) = true then -1000006 else if anc 7 (m.1 1 (12 + 7 * cl (m.1 1 (68 + cl x)) + 0)) v = true then m.1 1 (68 + cl x) else -1000003))) ∧ m1 = if (outI x 0 9 || outI v 0 6) = true then fnd m 0 else if outI (m.1 1 (68 + cl x)) 0 (m.1 1 1 - 1) = true then fnd m 5 else if anc 7 (m.1 1 (12 + 7 * cl (m.1 1 (68 + cl x)) + 0)) v = true then m else fnd m 2)
  refine x_iload_n (q := 1) dX4_as_0 rfl rfl ?_
  refine x_iconst (q := 2) (v := 0) dX4_as_1 rfl (by decide) ?_
  refine x_bipush (q := 4) (v := 9) dX4_as_2 rfl (by decide) ?_
  refine x_callS3v (q := 7) dX4_as_4 rfl ml_X4_44 ms_X4_isOut c_X4_isOut (Nat.le_of_ble_eq_true rfl) ⟨by decide, by decide⟩ ?_
  refine x_ifB_ne (q := 10) (t := 20) dX4_as_7 rfl (by decide) (fun h7 => ?_) (fun h7 => ?_)
  · refine x_aload_n (q := 21) dX4_as_20 rfl rfl ?_
    refine x_ldc (q := 23) dX4_as_21 rfl kc_X4_48 ?_
    refine x_callV1v (q := 26) dX4_as_23 rfl ml_X4_49 mv_X4_finding rv4 rfl (c_X4_finding (w := 0) (by decide) (by decide)) (Nat.le_of_ble_eq_true rfl) ⟨by decide, by decide⟩ ?_
    refine x_ireturn dX4_as_26 rfl rfl ?_
    exact ⟨by simp [h7], by simp [h7]⟩
  refine x_iload_n (q := 11) dX4_as_10 rfl rfl ?_
  refine x_iconst (q := 12) (v := 0) dX4_as_11 rfl (by decide) ?_
  refine x_bipush (q := 14) (v := 6) dX4_as_12 rfl (by decide) ?_
  refine x_callS3v (q := 17) dX4_as_14 rfl ml_X4_44 ms_X4_isOut c_X4_isOut (Nat.le_of_ble_eq_true rfl) ⟨by decide, by decide⟩ ?_
  refine x_ifB_eq (q := 20) (t := 27) dX4_as_17 rfl (by decide) (fun h17 => ?_) (fun h17 => ?_)
  · refine x_aload_n (q := 28) dX4_as_27 rfl rfl ?_
    refine x_getR (q := 31) dX4_as_28 rfl fl_X4_12 (or4_coast) ?_
    refine x_getR (q := 34) dX4_as_31 rfl fl_X4_177 (or0_spots isC_1) ?_
    refine x_iload_n (q := 35) dX4_as_34 rfl rfl ?_
    refine x_iald (q := 36) dX4_as_35 rfl (ar_spots isC_1) (ix_out h7 (by decide)) rfl ?_
    refine x_istore_n (q := 37) dX4_as_36 rfl (by decide) rfl rfl ?_
    refine x_aload_n (q := 38) dX4_as_37 rfl rfl ?_
    refine x_iload_n (q := 39) dX4_as_38 rfl rfl ?_
    refine x_callV1v (q := 42) dX4_as_39 rfl ml_X4_76 mv_X4_isNoParcel rv4 rfl c_X4_isNoParcel (Nat.le_of_ble_eq_true rfl) ⟨by decide, by decide⟩ ?_
    refine x_ifB_eq (q := 45) (t := 52) dX4_as_42 rfl (by decide) (fun h42 => ?_) (fun h42 => ?_)
    · refine x_aload_n (q := 53) dX4_as_52 rfl rfl ?_
      refine x_getR (q := 56) dX4_as_53 rfl fl_X4_12 (or4_coast) ?_
      refine x_getR (q := 59) dX4_as_56 rfl fl_X4_80 (or0_slip isC_1) ?_
      refine x_iload_n (q := 60) dX4_as_59 rfl rfl ?_
      refine x_slip (q := 61) dX4_as_60 rfl isC_1 (par_k hI.2.1 hI.1 h42).1 ?_
      refine x_iload_n (q := 62) dX4_as_61 rfl rfl ?_
      refine x_callV1v (q := 65) dX4_as_62 rfl ml_X4_181 mv_X1_isA (rv1 isC_1 (par_k hI.2.1 hI.1 h42).1.2.2) rfl (p_X1_isA isC_1 (par_k hI.2.1 hI.1 h42).1.2.2) (Nat.le_of_ble_eq_true rfl) ⟨by decide, by decide⟩ ?_
      refine x_ifB_eq (q := 68) (t := 72) dX4_as_65 rfl (by decide) (fun h65 => ?_) (fun h65 => ?_)
      · refine x_aload_n (q := 73) dX4_as_72 rfl rfl ?_
        refine x_ldc (q := 75) dX4_as_73 rfl kc_X4_184 ?_
        refine x_callV1v (q := 78) dX4_as_75 rfl ml_X4_49 mv_X4_finding rv4 rfl (c_X4_finding (w := 2) (by decide) (by decide)) (Nat.le_of_ble_eq_true rfl) ⟨by decide, by decide⟩ ?_
        refine x_ireturn dX4_as_78 rfl rfl ?_
        exact ⟨by rw [if_neg (by rw [h7, h17]; decide), if_neg (by rw [h42]; decide), if_neg (by rw [h65]; decide)], by rw [if_neg (by rw [h7, h17]; decide), if_neg (by rw [h42]; decide), if_neg (by rw [h65]; decide)]⟩
      refine x_iload_n (q := 69) dX4_as_68 rfl rfl ?_
      refine x_goto (q := 78) dX4_as_69 (by decide) ?_
      refine x_ireturn dX4_as_78 rfl rfl ?_
      exact ⟨by rw [if_neg (by rw [h7, h17]; decide), if_neg (by rw [h42]; decide), if_pos h65], by rw [if_neg (by rw [h7, h17]; decide), if_neg (by rw [h42]; decide), if_pos h65]⟩
    refine x_aload_n (q := 46) dX4_as_45 rfl rfl ?_
    refine x_ldc (q := 48) dX4_as_46 rfl kc_X4_180 ?_
    refine x_callV1v (q := 51) dX4_as_48 rfl ml_X4_49 mv_X4_finding rv4 rfl (c_X4_finding (w := 5) (by decide) (by decide)) (Nat.le_of_ble_eq_true rfl) ⟨by decide, by decide⟩ ?_
    refine x_ireturn dX4_as_51 rfl rfl ?_
    exact ⟨by simp [h7, h17, h42], by simp [h7, h17, h42]⟩
  refine x_aload_n (q := 21) dX4_as_20 rfl rfl ?_
  refine x_ldc (q := 23) dX4_as_21 rfl kc_X4_48 ?_
  refine x_callV1v (q := 26) dX4_as_23 rfl ml_X4_49 mv_X4_finding rv4 rfl (c_X4_finding (w := 0) (by decide) (by decide)) (Nat.le_of_ble_eq_true rfl) ⟨by decide, by decide⟩ ?_
  refine x_ireturn dX4_as_26 rfl rfl ?_
  exact ⟨by simp [h7, h17], by simp [h7, h17]⟩
end
section
/-! the reference's calls, the simple ones -/
theorem in_t {v l h : Int32} (q : inI v l h = true) : outI v l h = false := by rw [inI_out] at q; simpa using q
theorem in_f {v l h : Int32} (q : inI v l h = false) : outI v l h = true := by rw [inI_out] at q; simpa using q
theorem ix_off {i : Int32} {j k n : Nat} (off : Nat) (h : IX i j k) (hn : off + k ≤ n) (hb : n < 2147483648) : IX (nI off + i) (off + j) n := by
  have e : i = nI j := by rw [← h.2.1]; exact jnI_of h.1
  have := h.2.2
  rw [e, nI_add]
  exact ix_nI (by omega) hb
theorem c_X5_nox {K : Cx} {x : Int32} {w : Nat} {m : TM} (hw : w < 7) (hx : -1000001 - nI w = x) : CT yX5_no cX5_no 2 (some .int) 0 0 K [.ref 49, .int (nI w)] m (some (.int x)) (fnm m w) := by
  subst hx
  exact c_X5_no hw
theorem tld_get {s : Nat → Int32} {k : Nat} : ∀ c, c < 7 → tld s k (nI c) = s (12 + 7 * k + c)
  | 0, _ => rfl
  | 1, _ => rfl
  | 2, _ => rfl
  | 3, _ => rfl
  | 4, _ => rfl
  | 5, _ => rfl
  | 6, _ => rfl
  | c + 7, h => absurd h (by omega)
theorem ptF_get {s : Nat → Int32} {k : Nat} {v : Int32} : ∀ c, c < 7 → ptF s k (nI c) v = upd s (12 + 7 * k + c) v
  | 0, _ => rfl
  | 1, _ => rfl
  | 2, _ => rfl
  | 3, _ => rfl
  | 4, _ => rfl
  | 5, _ => rfl
  | 6, _ => rfl
  | c + 7, h => absurd h (by omega)
def zL (s : Nat → Int32) (k : Nat) : Nat → Nat → Int32
  | 0 => s
  | j + 1 => upd (zL s k j) (12 + 7 * k + j) 0
theorem zL_new {s : Nat → Int32} {k : Nat} {x : Int32} : upd (upd (zL s k 7) (12 + 7 * k + 0) x) (12 + 7 * k + 2) 10 = newF s k x := by
  funext i
  unfold newF
  simp only [zL]
  unfold upd
  repeat' split
  all_goals first | rfl | omega
theorem zL_1 {s : Nat → Int32} {k : Nat} : ∀ j, zL s k j 1 = s 1
  | 0 => rfl
  | j + 1 => by rw [zL, upd_ne (by omega), zL_1 j]
theorem newF_1 {s : Nat → Int32} {k : Nat} {x : Int32} : newF s k x 1 = s 1 := by
  unfold newF
  rw [upd_ne (by omega), upd_ne (by omega), upd_ne (by omega), upd_ne (by omega), upd_ne (by omega), upd_ne (by omega), upd_ne (by omega)]
theorem sh1 {j : Nat} (h : j < 8) : (1 : Int32) <<< (nI j &&& 31) = nI (2 ^ j) := by
  have key : ∀ j, j < 8 → (1 : Int32) <<< (nI j &&& 31) = nI (2 ^ j) := by decide
  exact key j h
/-- a set of parcels is a small number -/
theorem thF_nI {s : Nat → Int32} {x : Int32} : ∀ j, j ≤ 8 → ∃ y, y < 2 ^ j ∧ thF s x j = nI y
  | 0, _ => ⟨0, by decide, rfl⟩
  | j + 1, hj => by
    obtain ⟨y, hy, e⟩ := thF_nI (s := s) (x := x) j (by omega)
    unfold thF
    split
    · refine ⟨y ||| 2 ^ j, ?_, by rw [e, sh1 (by omega), fa_or]⟩
      exact Nat.or_lt_two_pow (by rw [Nat.pow_succ]; omega) (Nat.pow_lt_pow_right (by decide) (by omega))
    · exact ⟨y, by rw [Nat.pow_succ]; omega, e⟩
def ab (c : Nat) : Nat := if c = 3 then 2 else if c = 4 then 3 else if c = 6 then 1 else 0
theorem ab_1 : ∀ c, c < 7 → (if nI c = 3 then (2 : Int32) else if nI c = 4 then 3 else if nI c = 6 then 1 else 0) = nI (ab c) := by decide +kernel
theorem ab_2 : ∀ c, c < 7 → c ≠ 0 → ab c < c := by decide +kernel
theorem ab_3 : ∀ c, c < 7 → ∀ d, d < 7 → c ≠ d → c ≠ 0 → anc 7 (nI c) (nI d) = anc 7 (nI (ab c)) (nI d) := by decide +kernel
theorem anc_self : ∀ c, c < 7 → anc 7 (nI c) (nI c) = true := by decide +kernel
theorem anc_0 : ∀ d, d < 7 → d ≠ 0 → anc 7 0 (nI d) = false := by decide +kernel
theorem p_X5_isSigned {K : Cx} {m : TM} {k : Nat} {t : Int32} (hk : k < 8) : CT yX5_isSigned cX5_isSigned 6 (some .boolean) 1 22 K [.ref 49, .int (nI k), .int t] m (some (.int (bI (sg (m.1 50 (12 + 7 * k + 0)) (m.1 50 (12 + 7 * k + 1)) (m.1 50 (12 + 7 * k + 2)) (m.1 50 (12 + 7 * k + 6)) (m.1 50 0) t)))) (m) := by
  have h := c_X5_isSigned (K := K) (m := m) (s := m.1 50) (t := t) hk
  rw [sr_self] at h
  exact h
theorem p_X5_movesOf {K : Cx} {m : TM} {k : Nat} (hk : k < 8) : CT yX5_movesOf cX5_movesOf 3 (some .int) 1 22 K [.ref 49, .int (nI k)] m (some (.int (mvM (m.1 50 (12 + 7 * k + 0))))) (m) := by
  have h := c_X5_movesOf (K := K) (m := m) (s := m.1 50) hk
  rw [sr_self] at h
  exact h
theorem p_X5_lastsOf {K : Cx} {m : TM} {k : Nat} (hk : k < 8) : CT yX5_lastsOf cX5_lastsOf 2 (some .int) 1 22 K [.ref 49, .int (nI k)] m (some (.int (las (m.1 50 (12 + 7 * k + 0))))) (m) := by
  have h := c_X5_lastsOf (K := K) (m := m) (s := m.1 50) hk
  rw [sr_self] at h
  exact h
theorem p_X5_paysOf {K : Cx} {m : TM} {k : Nat} (hk : k < 8) : CT yX5_paysOf cX5_paysOf 3 (some .int) 1 22 K [.ref 49, .int (nI k)] m (some (.int (pys (m.1 50 (12 + 7 * k + 0)) (m.1 50 (12 + 7 * k + 2))))) (m) := by
  have h := c_X5_paysOf (K := K) (m := m) (s := m.1 50) hk
  rw [sr_self] at h
  exact h
theorem p_X5_delaysOf {K : Cx} {m : TM} {k : Nat} (hk : k < 8) : CT yX5_delaysOf cX5_delaysOf 3 (some .int) 1 22 K [.ref 49, .int (nI k)] m (some (.int (dly (m.1 50 (12 + 7 * k + 0))))) (m) := by
  have h := c_X5_delaysOf (K := K) (m := m) (s := m.1 50) hk
  rw [sr_self] at h
  exact h
theorem p_X5_tideNow {K : Cx} {m : TM} (ht : TD (m.1 50)) : CT yX5_tideNow cX5_tideNow 1 (some .int) 0 0 K [.ref 49] m (some (.int (tdF (m.1 50)))) (m) := by
  have h := c_X5_tideNow (K := K) (m := m) (s := m.1 50) ht
  rw [sr_self] at h
  exact h
theorem p_X5_day {K : Cx} {m : TM} {n8 : Nat} (hI : Iv n8 (m.1 50)) : CT yX5_day cX5_day 3 none 3 69 K [.ref 49] m none (sr m 50 (dyC (m.1 50) n8)) := by
  have h := c_X5_day (K := K) (m := m) (s := m.1 50) hI
  rw [sr_self] at h
  exact h
theorem p_X5_goes {K : Cx} {m : TM} {n8 c : Nat} (hc : c ≤ 1000) (hI : Iv n8 (m.1 50)) : CT yX5_goes cX5_goes 3 none 4 91 K [.ref 49, .int (nI c)] m none (sr m 50 (dysC n8 c (m.1 50))) := by
  have h := c_X5_goes (K := K) (m := m) (s := m.1 50) hc hI
  rw [sr_self] at h
  exact h
theorem p_X5_those {K : Cx} {m : TM} {n8 : Nat} {x : Int32} (hn : m.1 50 1 = nI n8) (h8 : n8 ≤ 8) : CT yX5_those cX5_those 4 (some .int) 1 22 K [.ref 49, .int x] m (some (.int (thF (m.1 50) x n8))) (m) := by
  have h := c_X5_those (K := K) (m := m) (s := m.1 50) (x := x) hn h8
  rw [sr_self] at h
  exact h
theorem p_X5_weightNow {K : Cx} {m : TM} {n8 : Nat} (hn : m.1 50 1 = nI n8) (h8 : n8 ≤ 8) : CT yX5_weightNow cX5_weightNow 3 (some .int) 1 22 K [.ref 49] m (some (.int (weF (m.1 50) n8))) (m) := by
  have h := c_X5_weightNow (K := K) (m := m) (s := m.1 50) hn h8
  rw [sr_self] at h
  exact h
theorem p_X5_draw {K : Cx} {m : TM}  : CT yX5_draw cX5_draw 1 (some .int) 0 0 K [.ref 49] m (some (.int (dr (m.1 50 2)))) (sr m 50 (upd (m.1 50) 2 (nz (m.1 50 2)))) := by
  have h := c_X5_draw (K := K) (m := m) (s := m.1 50) 
  rw [sr_self] at h
  exact h
theorem dX5_tide_0 : decode cX5_tide 0 = .ok (.iload_n 1, 1) := by decide +kernel
theorem dX5_tide_1 : decode cX5_tide 1 = .ok (.invokestatic 96, 3) := by decide +kernel
theorem dX5_tide_4 : decode cX5_tide 4 = .ok (.ifCond .eq 10, 3) := by decide +kernel
theorem dX5_tide_7 : decode cX5_tide 7 = .ok (.iload_n 2, 1) := by decide +kernel
theorem dX5_tide_8 : decode cX5_tide 8 = .ok (.invokestatic 100, 3) := by decide +kernel
theorem dX5_tide_11 : decode cX5_tide 11 = .ok (.ifCond .ne 9, 3) := by decide +kernel
theorem dX5_tide_14 : decode cX5_tide 14 = .ok (.aload_n 0, 1) := by decide +kernel
theorem dX5_tide_15 : decode cX5_tide 15 = .ok (.iconst 0, 1) := by decide +kernel
theorem dX5_tide_16 : decode cX5_tide 16 = .ok (.invokevirtual 103, 3) := by decide +kernel
theorem dX5_tide_19 : decode cX5_tide 19 = .ok (.ireturn, 1) := by decide +kernel
theorem dX5_tide_20 : decode cX5_tide 20 = .ok (.aload_n 0, 1) := by decide +kernel
theorem dX5_tide_21 : decode cX5_tide 21 = .ok (.getfield 9, 3) := by decide +kernel
theorem dX5_tide_24 : decode cX5_tide 24 = .ok (.bipush 6, 2) := by decide +kernel
theorem dX5_tide_26 : decode cX5_tide 26 = .ok (.iload_n 1, 1) := by decide +kernel
theorem dX5_tide_27 : decode cX5_tide 27 = .ok (.iadd, 1) := by decide +kernel
theorem dX5_tide_28 : decode cX5_tide 28 = .ok (.iaload, 1) := by decide +kernel
theorem dX5_tide_29 : decode cX5_tide 29 = .ok (.istore_n 3, 1) := by decide +kernel
theorem dX5_tide_30 : decode cX5_tide 30 = .ok (.aload_n 0, 1) := by decide +kernel
theorem dX5_tide_31 : decode cX5_tide 31 = .ok (.getfield 9, 3) := by decide +kernel
theorem dX5_tide_34 : decode cX5_tide 34 = .ok (.bipush 6, 2) := by decide +kernel
theorem dX5_tide_36 : decode cX5_tide 36 = .ok (.iload_n 1, 1) := by decide +kernel
theorem dX5_tide_37 : decode cX5_tide 37 = .ok (.iadd, 1) := by decide +kernel
theorem dX5_tide_38 : decode cX5_tide 38 = .ok (.iload_n 2, 1) := by decide +kernel
theorem dX5_tide_39 : decode cX5_tide 39 = .ok (.iastore, 1) := by decide +kernel
theorem dX5_tide_40 : decode cX5_tide 40 = .ok (.iload_n 3, 1) := by decide +kernel
theorem dX5_tide_41 : decode cX5_tide 41 = .ok (.ireturn, 1) := by decide +kernel
set_option maxRecDepth 20000 in
set_option maxHeartbeats 4000000 in
theorem c_X5_tide {K : Cx} {i v : Int32} {m : TM} : CT yX5_tide cX5_tide 4 (some .int) 2 42 K [.ref 49, .int i, .int v] (m) (some (.int ((if (outI i 0 5 || outI v 0 20) = true then (-1000001) else m.1 50 (6 + cl i))))) ((if (outI i 0 5 || outI v 0 20) = true then fnm m 0 else sr m 50 (upd (m.1 50) (6 + cl i) v))) := by
  refine ct_ofd (n := 1) (by decide +kernel) rfl rfl ?_
  show XX RX5 cX5_tide 4 (some .int) 2 42 K 0 [some (.ref 49), some (.int i), some (.int v), none] [] (m) (fun r1 m1 => r1 = (some (.int ((if (outI i 0 5 || outI v 0 20) = true then (-1000001) else m.1 50 (6 + cl i))))) ∧ m1 = (if (outI i 0 5 || outI v 0 20) = true then fnm m 0 else sr m 50 (upd (m.1 50) (6 + cl i) v)))
  refine x_iload_n (q := 1) dX5_tide_0 rfl rfl ?_
  refine x_callS1v (q := 4) dX5_tide_1 rfl ml_X5_96 ms_X5_isTurn c_X5_isTurn (Nat.le_of_ble_eq_true rfl) ⟨by decide, by decide⟩ ?_
  refine x_ifB_eq (q := 7) (t := 14) dX5_tide_4 rfl (by decide) (fun h4 => ?_) (fun h4 => ?_)
  · replace h4 := in_f h4
    refine x_aload_n (q := 15) dX5_tide_14 rfl rfl ?_
    refine x_iconst (q := 16) (v := 0) dX5_tide_15 rfl (by decide) ?_
    refine x_callV1v (q := 19) dX5_tide_16 rfl ml_X5_103 mv_X5_no rv5 rfl (c_X5_nox (w := 0) (x := -1000001) (by decide) (by decide)) (Nat.le_of_ble_eq_true rfl) ⟨by decide, by decide⟩ ?_
    refine x_ireturn dX5_tide_19 rfl rfl ?_
    exact ⟨by simp [h4, st1_eq], by simp [h4, st1_eq]⟩
  replace h4 := in_t h4
  refine x_iload_n (q := 8) dX5_tide_7 rfl rfl ?_
  refine x_callS1v (q := 11) dX5_tide_8 rfl ml_X5_100 ms_X5_isLine c_X5_isLine (Nat.le_of_ble_eq_true rfl) ⟨by decide, by decide⟩ ?_
  refine x_ifB_ne (q := 14) (t := 20) dX5_tide_11 rfl (by decide) (fun h11 => ?_) (fun h11 => ?_)
  · replace h11 := in_t h11
    refine x_aload_n (q := 21) dX5_tide_20 rfl rfl ?_
    refine x_getR (q := 24) dX5_tide_21 rfl fl_X5_9 (or5_s) ?_
    refine x_bipush (q := 26) (v := 6) dX5_tide_24 rfl (by decide) ?_
    refine x_iload_n (q := 27) dX5_tide_26 rfl rfl ?_
    refine x_iadd (q := 28) dX5_tide_27 rfl ?_
    refine x_iald (q := 29) dX5_tide_28 rfl (ar_50) (ix_off 6 (ix_out h4 (n := 6) (by decide)) (by decide) (by decide)) (Nat.zero_add _) ?_
    refine x_istore_n (q := 30) dX5_tide_29 rfl (by decide) rfl rfl ?_
    refine x_aload_n (q := 31) dX5_tide_30 rfl rfl ?_
    refine x_getR (q := 34) dX5_tide_31 rfl fl_X5_9 (or5_s) ?_
    refine x_bipush (q := 36) (v := 6) dX5_tide_34 rfl (by decide) ?_
    refine x_iload_n (q := 37) dX5_tide_36 rfl rfl ?_
    refine x_iadd (q := 38) dX5_tide_37 rfl ?_
    refine x_iload_n (q := 39) dX5_tide_38 rfl rfl ?_
    refine x_iast (q := 40) dX5_tide_39 rfl (ar_50) (ix_off 6 (ix_out h4 (n := 6) (by decide)) (by decide) (by decide)) (Nat.zero_add _) rfl ?_
    refine x_iload_n (q := 41) dX5_tide_40 rfl rfl ?_
    refine x_ireturn dX5_tide_41 rfl rfl ?_
    exact ⟨by simp [h4, h11, st1_eq], by simp [h4, h11, st1_eq]⟩
  replace h11 := in_f h11
  refine x_aload_n (q := 15) dX5_tide_14 rfl rfl ?_
  refine x_iconst (q := 16) (v := 0) dX5_tide_15 rfl (by decide) ?_
  refine x_callV1v (q := 19) dX5_tide_16 rfl ml_X5_103 mv_X5_no rv5 rfl (c_X5_nox (w := 0) (x := -1000001) (by decide) (by decide)) (Nat.le_of_ble_eq_true rfl) ⟨by decide, by decide⟩ ?_
  refine x_ireturn dX5_tide_19 rfl rfl ?_
  exact ⟨by simp [h4, h11, st1_eq], by simp [h4, h11, st1_eq]⟩
theorem dX5_listed_0 : decode cX5_listed 0 = .ok (.iload_n 1, 1) := by decide +kernel
theorem dX5_listed_1 : decode cX5_listed 1 = .ok (.invokestatic 96, 3) := by decide +kernel
theorem dX5_listed_4 : decode cX5_listed 4 = .ok (.ifCond .eq 15, 3) := by decide +kernel
theorem dX5_listed_7 : decode cX5_listed 7 = .ok (.aload_n 0, 1) := by decide +kernel
theorem dX5_listed_8 : decode cX5_listed 8 = .ok (.getfield 9, 3) := by decide +kernel
theorem dX5_listed_11 : decode cX5_listed 11 = .ok (.bipush 6, 2) := by decide +kernel
theorem dX5_listed_13 : decode cX5_listed 13 = .ok (.iload_n 1, 1) := by decide +kernel
theorem dX5_listed_14 : decode cX5_listed 14 = .ok (.iadd, 1) := by decide +kernel
theorem dX5_listed_15 : decode cX5_listed 15 = .ok (.iaload, 1) := by decide +kernel
theorem dX5_listed_16 : decode cX5_listed 16 = .ok (.goto 8, 3) := by decide +kernel
theorem dX5_listed_19 : decode cX5_listed 19 = .ok (.aload_n 0, 1) := by decide +kernel
theorem dX5_listed_20 : decode cX5_listed 20 = .ok (.iconst 0, 1) := by decide +kernel
theorem dX5_listed_21 : decode cX5_listed 21 = .ok (.invokevirtual 103, 3) := by decide +kernel
theorem dX5_listed_24 : decode cX5_listed 24 = .ok (.ireturn, 1) := by decide +kernel
set_option maxRecDepth 20000 in
set_option maxHeartbeats 4000000 in
theorem c_X5_listed {K : Cx} {i : Int32} {m : TM} : CT yX5_listed cX5_listed 2 (some .int) 2 42 K [.ref 49, .int i] (m) (some (.int ((if (outI i 0 5) = true then (-1000001) else m.1 50 (6 + cl i))))) ((if (outI i 0 5) = true then fnm m 0 else m)) := by
  refine ct_ofd (n := 0) (by decide +kernel) rfl rfl ?_
  show XX RX5 cX5_listed 2 (some .int) 2 42 K 0 [some (.ref 49), some (.int i)] [] (m) (fun r1 m1 => r1 = (some (.int ((if (outI i 0 5) = true then (-1000001) else m.1 50 (6 + cl i))))) ∧ m1 = (if (outI i 0 5) = true then fnm m 0 else m))
  refine x_iload_n (q := 1) dX5_listed_0 rfl rfl ?_
  refine x_callS1v (q := 4) dX5_listed_1 rfl ml_X5_96 ms_X5_isTurn c_X5_isTurn (Nat.le_of_ble_eq_true rfl) ⟨by decide, by decide⟩ ?_
  refine x_ifB_eq (q := 7) (t := 19) dX5_listed_4 rfl (by decide) (fun h4 => ?_) (fun h4 => ?_)
  · replace h4 := in_f h4
    refine x_aload_n (q := 20) dX5_listed_19 rfl rfl ?_
    refine x_iconst (q := 21) (v := 0) dX5_listed_20 rfl (by decide) ?_
    refine x_callV1v (q := 24) dX5_listed_21 rfl ml_X5_103 mv_X5_no rv5 rfl (c_X5_nox (w := 0) (x := -1000001) (by decide) (by decide)) (Nat.le_of_ble_eq_true rfl) ⟨by decide, by decide⟩ ?_
    refine x_ireturn dX5_listed_24 rfl rfl ?_
    exact ⟨by simp [h4], by simp [h4]⟩
  replace h4 := in_t h4
  refine x_aload_n (q := 8) dX5_listed_7 rfl rfl ?_
  refine x_getR (q := 11) dX5_listed_8 rfl fl_X5_9 (or5_s) ?_
  refine x_bipush (q := 13) (v := 6) dX5_listed_11 rfl (by decide) ?_
  refine x_iload_n (q := 14) dX5_listed_13 rfl rfl ?_
  refine x_iadd (q := 15) dX5_listed_14 rfl ?_
  refine x_iald (q := 16) dX5_listed_15 rfl (ar_50) (ix_off 6 (ix_out h4 (n := 6) (by decide)) (by decide) (by decide)) (Nat.zero_add _) ?_
  refine x_goto (q := 24) dX5_listed_16 (by decide) ?_
  refine x_ireturn dX5_listed_24 rfl rfl ?_
  exact ⟨by simp [h4], by simp [h4]⟩
theorem out01 {x : Int32} (h : outI x 0 1 = false) (h0 : ¬ x = 0) : x = 1 := by
  have hk := (ix_out h (n := 2) (by decide))
  have e := jnI_of hk.1
  have h2 : cl x < 2 := hk.2.2
  unfold cl at h2
  have h3 : x.toNatClampNeg ≠ 0 := fun q => h0 (by rw [e, q]; rfl)
  rw [e, show x.toNatClampNeg = 1 by omega]
  rfl
theorem out01t {x : Int32} (h : outI x 0 1 = true) : ¬ x = 0 ∧ ¬ x = 1 := by
  constructor <;> (intro q; rw [q] at h; revert h; decide)
theorem dX5_set_0 : decode cX5_set 0 = .ok (.iload_n 1, 1) := by decide +kernel
theorem dX5_set_1 : decode cX5_set 1 = .ok (.iconst 0, 1) := by decide +kernel
theorem dX5_set_2 : decode cX5_set 2 = .ok (.iconst 1, 1) := by decide +kernel
theorem dX5_set_3 : decode cX5_set 3 = .ok (.invokestatic 48, 3) := by decide +kernel
theorem dX5_set_6 : decode cX5_set 6 = .ok (.ifCond .eq 23, 3) := by decide +kernel
theorem dX5_set_9 : decode cX5_set 9 = .ok (.iload_n 2, 1) := by decide +kernel
theorem dX5_set_10 : decode cX5_set 10 = .ok (.iconst 0, 1) := by decide +kernel
theorem dX5_set_11 : decode cX5_set 11 = .ok (.iload_n 1, 1) := by decide +kernel
theorem dX5_set_12 : decode cX5_set 12 = .ok (.ifCond .ne 9, 3) := by decide +kernel
theorem dX5_set_15 : decode cX5_set 15 = .ok (.sipush 9999, 3) := by decide +kernel
theorem dX5_set_18 : decode cX5_set 18 = .ok (.goto 5, 3) := by decide +kernel
theorem dX5_set_21 : decode cX5_set 21 = .ok (.bipush 9, 2) := by decide +kernel
theorem dX5_set_23 : decode cX5_set 23 = .ok (.invokestatic 48, 3) := by decide +kernel
theorem dX5_set_26 : decode cX5_set 26 = .ok (.ifCond .ne 9, 3) := by decide +kernel
theorem dX5_set_29 : decode cX5_set 29 = .ok (.aload_n 0, 1) := by decide +kernel
theorem dX5_set_30 : decode cX5_set 30 = .ok (.iconst 0, 1) := by decide +kernel
theorem dX5_set_31 : decode cX5_set 31 = .ok (.invokevirtual 103, 3) := by decide +kernel
theorem dX5_set_34 : decode cX5_set 34 = .ok (.ireturn, 1) := by decide +kernel
theorem dX5_set_35 : decode cX5_set 35 = .ok (.aload_n 0, 1) := by decide +kernel
theorem dX5_set_36 : decode cX5_set 36 = .ok (.getfield 9, 3) := by decide +kernel
theorem dX5_set_39 : decode cX5_set 39 = .ok (.iconst 4, 1) := by decide +kernel
theorem dX5_set_40 : decode cX5_set 40 = .ok (.iload_n 1, 1) := by decide +kernel
theorem dX5_set_41 : decode cX5_set 41 = .ok (.iadd, 1) := by decide +kernel
theorem dX5_set_42 : decode cX5_set 42 = .ok (.iaload, 1) := by decide +kernel
theorem dX5_set_43 : decode cX5_set 43 = .ok (.istore_n 3, 1) := by decide +kernel
theorem dX5_set_44 : decode cX5_set 44 = .ok (.aload_n 0, 1) := by decide +kernel
theorem dX5_set_45 : decode cX5_set 45 = .ok (.getfield 9, 3) := by decide +kernel
theorem dX5_set_48 : decode cX5_set 48 = .ok (.iconst 4, 1) := by decide +kernel
theorem dX5_set_49 : decode cX5_set 49 = .ok (.iload_n 1, 1) := by decide +kernel
theorem dX5_set_50 : decode cX5_set 50 = .ok (.iadd, 1) := by decide +kernel
theorem dX5_set_51 : decode cX5_set 51 = .ok (.iload_n 2, 1) := by decide +kernel
theorem dX5_set_52 : decode cX5_set 52 = .ok (.iastore, 1) := by decide +kernel
theorem dX5_set_53 : decode cX5_set 53 = .ok (.iload_n 3, 1) := by decide +kernel
theorem dX5_set_54 : decode cX5_set 54 = .ok (.ireturn, 1) := by decide +kernel
set_option maxRecDepth 20000 in
set_option maxHeartbeats 4000000 in
theorem c_X5_set {K : Cx} {x v : Int32} {m : TM} : CT yX5_set cX5_set 4 (some .int) 1 22 K [.ref 49, .int x, .int v] (m) (some (.int ((if ((decide (x = 0) && !outI v 0 9999)) = true then m.1 50 4 else (if ((decide (x = 1) && !outI v 0 9)) = true then m.1 50 5 else (-1000001)))))) ((if ((decide (x = 0) && !outI v 0 9999)) = true then sr m 50 (upd (m.1 50) 4 v) else (if ((decide (x = 1) && !outI v 0 9)) = true then sr m 50 (upd (m.1 50) 5 v) else fnm m 0))) := by
  refine ct_ofd (n := 1) (by decide +kernel) rfl rfl ?_
  show XX RX5 cX5_set 4 (some .int) 1 22 K 0 [some (.ref 49), some (.int x), some (.int v), none] [] (m) (fun r1 m1 => r1 = (some (.int ((if ((decide (x = 0) && !outI v 0 9999)) = true then m.1 50 4 else (if ((decide (x = 1) && !outI v 0 9)) = true then m.1 50 5 else (-1000001)))))) ∧ m1 = (if ((decide (x = 0) && !outI v 0 9999)) = true then sr m 50 (upd (m.1 50) 4 v) else (if ((decide (x = 1) && !outI v 0 9)) = true then sr m 50 (upd (m.1 50) 5 v) else fnm m 0)))
  refine x_iload_n (q := 1) dX5_set_0 rfl rfl ?_
  refine x_iconst (q := 2) (v := 0) dX5_set_1 rfl (by decide) ?_
  refine x_iconst (q := 3) (v := 1) dX5_set_2 rfl (by decide) ?_
  refine x_callS3v (q := 6) dX5_set_3 rfl ml_X5_48 ms_X5_in1 c_X5_in1 (Nat.le_of_ble_eq_true rfl) ⟨by decide, by decide⟩ ?_
  refine x_ifB_eq (q := 9) (t := 29) dX5_set_6 rfl (by decide) (fun h6 => ?_) (fun h6 => ?_)
  · replace h6 := in_f h6
    refine x_aload_n (q := 30) dX5_set_29 rfl rfl ?_
    refine x_iconst (q := 31) (v := 0) dX5_set_30 rfl (by decide) ?_
    refine x_callV1v (q := 34) dX5_set_31 rfl ml_X5_103 mv_X5_no rv5 rfl (c_X5_nox (w := 0) (x := -1000001) (by decide) (by decide)) (Nat.le_of_ble_eq_true rfl) ⟨by decide, by decide⟩ ?_
    refine x_ireturn dX5_set_34 rfl rfl ?_
    exact ⟨by simp [(out01t h6).1, (out01t h6).2], by simp [(out01t h6).1, (out01t h6).2]⟩
  replace h6 := in_t h6
  refine x_iload_n (q := 10) dX5_set_9 rfl rfl ?_
  refine x_iconst (q := 11) (v := 0) dX5_set_10 rfl (by decide) ?_
  refine x_iload_n (q := 12) dX5_set_11 rfl rfl ?_
  refine x_if_ne (q := 15) (t := 21) dX5_set_12 rfl (by decide) (fun h12 => ?_) (fun h12 => ?_)
  · refine x_bipush (q := 23) (v := 9) dX5_set_21 rfl (by decide) ?_
    refine x_callS3v (q := 26) dX5_set_23 rfl ml_X5_48 ms_X5_in1 c_X5_in1 (Nat.le_of_ble_eq_true rfl) ⟨by decide, by decide⟩ ?_
    refine x_ifB_ne (q := 29) (t := 35) dX5_set_26 rfl (by decide) (fun h26 => ?_) (fun h26 => ?_)
    · replace h26 := in_t h26
      refine x_aload_n (q := 36) dX5_set_35 rfl rfl ?_
      refine x_getR (q := 39) dX5_set_36 rfl fl_X5_9 (or5_s) ?_
      refine x_iconst (q := 40) (v := 4) dX5_set_39 rfl (by decide) ?_
      refine x_iload_n (q := 41) dX5_set_40 rfl rfl ?_
      refine x_iadd (q := 42) dX5_set_41 rfl ?_
      refine x_iald (q := 43) dX5_set_42 rfl (ar_50) (ix_off 4 (ix_out h6 (n := 2) (by decide)) (by decide) (by decide)) (Nat.zero_add _) ?_
      refine x_istore_n (q := 44) dX5_set_43 rfl (by decide) rfl rfl ?_
      refine x_aload_n (q := 45) dX5_set_44 rfl rfl ?_
      refine x_getR (q := 48) dX5_set_45 rfl fl_X5_9 (or5_s) ?_
      refine x_iconst (q := 49) (v := 4) dX5_set_48 rfl (by decide) ?_
      refine x_iload_n (q := 50) dX5_set_49 rfl rfl ?_
      refine x_iadd (q := 51) dX5_set_50 rfl ?_
      refine x_iload_n (q := 52) dX5_set_51 rfl rfl ?_
      refine x_iast (q := 53) dX5_set_52 rfl (ar_50) (ix_off 4 (ix_out h6 (n := 2) (by decide)) (by decide) (by decide)) (Nat.zero_add _) rfl ?_
      refine x_iload_n (q := 54) dX5_set_53 rfl rfl ?_
      refine x_ireturn dX5_set_54 rfl rfl ?_
      have e1 := out01 h6 h12
      subst e1
      exact ⟨by simp [h26, cl], by simp [h26, st1_eq, cl]⟩
    replace h26 := in_f h26
    refine x_aload_n (q := 30) dX5_set_29 rfl rfl ?_
    refine x_iconst (q := 31) (v := 0) dX5_set_30 rfl (by decide) ?_
    refine x_callV1v (q := 34) dX5_set_31 rfl ml_X5_103 mv_X5_no rv5 rfl (c_X5_nox (w := 0) (x := -1000001) (by decide) (by decide)) (Nat.le_of_ble_eq_true rfl) ⟨by decide, by decide⟩ ?_
    refine x_ireturn dX5_set_34 rfl rfl ?_
    have e1 := out01 h6 h12
    subst e1
    exact ⟨by simp [h26, cl], by simp [h26, st1_eq, cl]⟩
  refine x_sipush (q := 18) (v := 9999) dX5_set_15 rfl (by decide) ?_
  refine x_goto (q := 23) dX5_set_18 (by decide) ?_
  refine x_callS3v (q := 26) dX5_set_23 rfl ml_X5_48 ms_X5_in1 c_X5_in1 (Nat.le_of_ble_eq_true rfl) ⟨by decide, by decide⟩ ?_
  refine x_ifB_ne (q := 29) (t := 35) dX5_set_26 rfl (by decide) (fun h26 => ?_) (fun h26 => ?_)
  · replace h26 := in_t h26
    refine x_aload_n (q := 36) dX5_set_35 rfl rfl ?_
    refine x_getR (q := 39) dX5_set_36 rfl fl_X5_9 (or5_s) ?_
    refine x_iconst (q := 40) (v := 4) dX5_set_39 rfl (by decide) ?_
    refine x_iload_n (q := 41) dX5_set_40 rfl rfl ?_
    refine x_iadd (q := 42) dX5_set_41 rfl ?_
    refine x_iald (q := 43) dX5_set_42 rfl (ar_50) (ix_off 4 (ix_out h6 (n := 2) (by decide)) (by decide) (by decide)) (Nat.zero_add _) ?_
    refine x_istore_n (q := 44) dX5_set_43 rfl (by decide) rfl rfl ?_
    refine x_aload_n (q := 45) dX5_set_44 rfl rfl ?_
    refine x_getR (q := 48) dX5_set_45 rfl fl_X5_9 (or5_s) ?_
    refine x_iconst (q := 49) (v := 4) dX5_set_48 rfl (by decide) ?_
    refine x_iload_n (q := 50) dX5_set_49 rfl rfl ?_
    refine x_iadd (q := 51) dX5_set_50 rfl ?_
    refine x_iload_n (q := 52) dX5_set_51 rfl rfl ?_
    refine x_iast (q := 53) dX5_set_52 rfl (ar_50) (ix_off 4 (ix_out h6 (n := 2) (by decide)) (by decide) (by decide)) (Nat.zero_add _) rfl ?_
    refine x_iload_n (q := 54) dX5_set_53 rfl rfl ?_
    refine x_ireturn dX5_set_54 rfl rfl ?_
    subst h12
    exact ⟨by simp [h26, cl], by simp [h26, st1_eq, cl]⟩
  replace h26 := in_f h26
  refine x_aload_n (q := 30) dX5_set_29 rfl rfl ?_
  refine x_iconst (q := 31) (v := 0) dX5_set_30 rfl (by decide) ?_
  refine x_callV1v (q := 34) dX5_set_31 rfl ml_X5_103 mv_X5_no rv5 rfl (c_X5_nox (w := 0) (x := -1000001) (by decide) (by decide)) (Nat.le_of_ble_eq_true rfl) ⟨by decide, by decide⟩ ?_
  refine x_ireturn dX5_set_34 rfl rfl ?_
  subst h12
  exact ⟨by simp [h26, cl], by simp [h26, st1_eq, cl]⟩
theorem dX5_adds_0 : decode cX5_adds 0 = .ok (.aload_n 0, 1) := by decide +kernel
theorem dX5_adds_1 : decode cX5_adds 1 = .ok (.getfield 9, 3) := by decide +kernel
theorem dX5_adds_4 : decode cX5_adds 4 = .ok (.iconst 1, 1) := by decide +kernel
theorem dX5_adds_5 : decode cX5_adds 5 = .ok (.iaload, 1) := by decide +kernel
theorem dX5_adds_6 : decode cX5_adds 6 = .ok (.istore_n 2, 1) := by decide +kernel
theorem dX5_adds_7 : decode cX5_adds 7 = .ok (.iconst 0, 1) := by decide +kernel
theorem dX5_adds_8 : decode cX5_adds 8 = .ok (.istore_n 3, 1) := by decide +kernel
theorem dX5_adds_9 : decode cX5_adds 9 = .ok (.iload_n 3, 1) := by decide +kernel
theorem dX5_adds_10 : decode cX5_adds 10 = .ok (.bipush 7, 2) := by decide +kernel
theorem dX5_adds_12 : decode cX5_adds 12 = .ok (.if_icmp .ge 16, 3) := by decide +kernel
theorem dX5_adds_15 : decode cX5_adds 15 = .ok (.aload_n 0, 1) := by decide +kernel
theorem dX5_adds_16 : decode cX5_adds 16 = .ok (.iload_n 2, 1) := by decide +kernel
theorem dX5_adds_17 : decode cX5_adds 17 = .ok (.iload_n 3, 1) := by decide +kernel
theorem dX5_adds_18 : decode cX5_adds 18 = .ok (.iconst 0, 1) := by decide +kernel
theorem dX5_adds_19 : decode cX5_adds 19 = .ok (.invokevirtual 60, 3) := by decide +kernel
theorem dX5_adds_22 : decode cX5_adds 22 = .ok (.iinc 3 1, 3) := by decide +kernel
theorem dX5_adds_25 : decode cX5_adds 25 = .ok (.goto (-16), 3) := by decide +kernel
theorem dX5_adds_28 : decode cX5_adds 28 = .ok (.aload_n 0, 1) := by decide +kernel
theorem dX5_adds_29 : decode cX5_adds 29 = .ok (.iload_n 2, 1) := by decide +kernel
theorem dX5_adds_30 : decode cX5_adds 30 = .ok (.iconst 0, 1) := by decide +kernel
theorem dX5_adds_31 : decode cX5_adds 31 = .ok (.iload_n 1, 1) := by decide +kernel
theorem dX5_adds_32 : decode cX5_adds 32 = .ok (.invokevirtual 60, 3) := by decide +kernel
theorem dX5_adds_35 : decode cX5_adds 35 = .ok (.aload_n 0, 1) := by decide +kernel
theorem dX5_adds_36 : decode cX5_adds 36 = .ok (.iload_n 2, 1) := by decide +kernel
theorem dX5_adds_37 : decode cX5_adds 37 = .ok (.iconst 2, 1) := by decide +kernel
theorem dX5_adds_38 : decode cX5_adds 38 = .ok (.bipush 10, 2) := by decide +kernel
theorem dX5_adds_40 : decode cX5_adds 40 = .ok (.invokevirtual 60, 3) := by decide +kernel
theorem dX5_adds_43 : decode cX5_adds 43 = .ok (.aload_n 0, 1) := by decide +kernel
theorem dX5_adds_44 : decode cX5_adds 44 = .ok (.getfield 9, 3) := by decide +kernel
theorem dX5_adds_47 : decode cX5_adds 47 = .ok (.iconst 1, 1) := by decide +kernel
theorem dX5_adds_48 : decode cX5_adds 48 = .ok (.dup2, 1) := by decide +kernel
theorem dX5_adds_49 : decode cX5_adds 49 = .ok (.iaload, 1) := by decide +kernel
theorem dX5_adds_50 : decode cX5_adds 50 = .ok (.iconst 1, 1) := by decide +kernel
theorem dX5_adds_51 : decode cX5_adds 51 = .ok (.iadd, 1) := by decide +kernel
theorem dX5_adds_52 : decode cX5_adds 52 = .ok (.iastore, 1) := by decide +kernel
theorem dX5_adds_53 : decode cX5_adds 53 = .ok (.return_, 1) := by decide +kernel
set_option maxRecDepth 20000 in
set_option maxHeartbeats 4000000 in
theorem l_X5_adds {K : Cx} {n8 : Nat} {x : Int32} {s : Nat → Int32} {m : TM} (hn : s 1 = nI n8) (h8 : n8 < 8) : ∀ (n : Nat) (j : Nat), 7 - j < n → j ≤ 7 → XX RX5 cX5_adds 4 none 1 23 K 9 [some (.ref 49), some (.int x), some (.int (nI n8)), some (.int (nI j))] [] (sr m 50 (zL s n8 j)) (fun r1 m1 => r1 = none ∧ m1 = sr m 50 (upd (newF s n8 x) 1 (nI (n8 + 1)))) := by
  intro n
  induction n with
  | zero => intro j hlt; exact absurd hlt (Nat.not_lt_zero _)
  | succ n ih =>
    intro j hlt hj
    refine x_iload_n (q := 10) dX5_adds_9 rfl rfl ?_
    refine x_bipush (q := 12) (v := 7) dX5_adds_10 rfl (by decide) ?_
    refine x_icmp_ge (q := 15) (t := 28) dX5_adds_12 rfl (by decide) (fun h12 => ?_) (fun h12 => ?_)
    · have e : j = 7 := Nat.le_antisymm hj (lp_stop (n := 7) rfl (by omega) (by omega) h12)
      subst e
      refine x_aload_n (q := 29) dX5_adds_28 rfl rfl ?_
      refine x_iload_n (q := 30) dX5_adds_29 rfl rfl ?_
      refine x_iconst (q := 31) (v := 0) dX5_adds_30 rfl (by decide) ?_
      refine x_iload_n (q := 32) dX5_adds_31 rfl rfl ?_
      refine x_callV3n (q := 35) dX5_adds_32 rfl ml_X5_60 mv_X5_puts rv5 rfl (c_X5_putsr (f := 0) h8 (by decide)) (Nat.le_of_ble_eq_true rfl) ⟨by decide, by decide⟩ ?_
      refine x_aload_n (q := 36) dX5_adds_35 rfl rfl ?_
      refine x_iload_n (q := 37) dX5_adds_36 rfl rfl ?_
      refine x_iconst (q := 38) (v := 2) dX5_adds_37 rfl (by decide) ?_
      refine x_bipush (q := 40) (v := 10) dX5_adds_38 rfl (by decide) ?_
      refine x_callV3n (q := 43) dX5_adds_40 rfl ml_X5_60 mv_X5_puts rv5 rfl (c_X5_putsr (f := 2) h8 (by decide)) (Nat.le_of_ble_eq_true rfl) ⟨by decide, by decide⟩ ?_
      refine x_aload_n (q := 44) dX5_adds_43 rfl rfl ?_
      refine x_getR (q := 47) dX5_adds_44 rfl fl_X5_9 (or5_s) ?_
      refine x_iconst (q := 48) (v := 1) dX5_adds_47 rfl (by decide) ?_
      refine x_dup2 (q := 49) dX5_adds_48 rfl rfl rfl ?_
      refine x_ialdr (q := 50) dX5_adds_49 rfl (ar_50) (ix_nI (k := 1) (by decide) (by decide)) (Nat.zero_add _) ?_
      refine x_iconst (q := 51) (v := 1) dX5_adds_50 rfl (by decide) ?_
      refine x_iadd (q := 52) dX5_adds_51 rfl ?_
      refine x_iastr (q := 53) dX5_adds_52 rfl (ar_50) (ix_nI (k := 1) (by decide) (by decide)) (Nat.zero_add _)  ?_
      refine x_return dX5_adds_53 rfl ?_
      exact ⟨rfl, by rw [zL_new, newF_1, hn, nI_1]⟩
    have hjn : j < 7 := lp_go (n := 7) rfl (by omega) (by omega) h12
    refine x_aload_n (q := 16) dX5_adds_15 rfl rfl ?_
    refine x_iload_n (q := 17) dX5_adds_16 rfl rfl ?_
    refine x_iload_n (q := 18) dX5_adds_17 rfl rfl ?_
    refine x_iconst (q := 19) (v := 0) dX5_adds_18 rfl (by decide) ?_
    refine x_callV3n (q := 22) dX5_adds_19 rfl ml_X5_60 mv_X5_puts rv5 rfl (c_X5_putsr h8 hjn) (Nat.le_of_ble_eq_true rfl) ⟨by decide, by decide⟩ ?_
    refine x_iinc (q := 25) (v := nI (j + 1)) dX5_adds_22 rfl rfl (jnI_s j) (by decide) rfl rfl ?_
    refine x_goto (q := 9) dX5_adds_25 (by decide) ?_
    exact ih (j + 1) (by omega) (by omega)
set_option maxRecDepth 20000 in
set_option maxHeartbeats 4000000 in
theorem c_X5_adds {K : Cx} {n8 : Nat} {x : Int32} {s : Nat → Int32} {m : TM} (hn : s 1 = nI n8) (h8 : n8 < 8) : CT yX5_adds cX5_adds 4 none 1 23 K [.ref 49, .int x] (sr m 50 s) none (sr m 50 (upd (newF s n8 x) 1 (nI (n8 + 1)))) := by
  refine ct_ofd (n := 2) (by decide +kernel) rfl rfl ?_
  show XX RX5 cX5_adds 4 none 1 23 K 0 [some (.ref 49), some (.int x), none, none] [] (sr m 50 s) (fun r1 m1 => r1 = none ∧ m1 = sr m 50 (upd (newF s n8 x) 1 (nI (n8 + 1))))
  refine x_aload_n (q := 1) dX5_adds_0 rfl rfl ?_
  refine x_getR (q := 4) dX5_adds_1 rfl fl_X5_9 (or5_s) ?_
  refine x_iconst (q := 5) (v := 1) dX5_adds_4 rfl (by decide) ?_
  refine x_ialdr (q := 6) dX5_adds_5 rfl (ar_50) (ix_nI (k := 1) (by decide) (by decide)) (Nat.zero_add _) ?_
  refine x_istore_n (q := 7) dX5_adds_6 rfl (by decide) rfl rfl ?_
  refine x_iconst (q := 8) (v := 0) dX5_adds_7 rfl (by decide) ?_
  refine x_istore_n (q := 9) dX5_adds_8 rfl (by decide) rfl rfl ?_
  rw [hn]
  exact l_X5_adds hn h8 8 0 (by omega) (by omega)
theorem p_X5_adds {K : Cx} {m : TM} {n8 : Nat} {x : Int32} (hn : m.1 50 1 = nI n8) (h8 : n8 < 8) : CT yX5_adds cX5_adds 4 none 1 23 K [.ref 49, .int x] m none (sr m 50 (upd (newF (m.1 50) n8 x) 1 (nI (n8 + 1)))) := by
  have h := c_X5_adds (K := K) (m := m) (s := m.1 50) (x := x) hn h8
  rw [sr_self] at h
  exact h
theorem dX5_parcel_0 : decode cX5_parcel 0 = .ok (.iload_n 1, 1) := by decide +kernel
theorem dX5_parcel_1 : decode cX5_parcel 1 = .ok (.iconst 0, 1) := by decide +kernel
theorem dX5_parcel_2 : decode cX5_parcel 2 = .ok (.bipush 6, 2) := by decide +kernel
theorem dX5_parcel_4 : decode cX5_parcel 4 = .ok (.invokestatic 48, 3) := by decide +kernel
theorem dX5_parcel_7 : decode cX5_parcel 7 = .ok (.ifCond .eq 10, 3) := by decide +kernel
theorem dX5_parcel_10 : decode cX5_parcel 10 = .ok (.iload_n 2, 1) := by decide +kernel
theorem dX5_parcel_11 : decode cX5_parcel 11 = .ok (.invokestatic 100, 3) := by decide +kernel
theorem dX5_parcel_14 : decode cX5_parcel 14 = .ok (.ifCond .ne 9, 3) := by decide +kernel
theorem dX5_parcel_17 : decode cX5_parcel 17 = .ok (.aload_n 0, 1) := by decide +kernel
theorem dX5_parcel_18 : decode cX5_parcel 18 = .ok (.iconst 0, 1) := by decide +kernel
theorem dX5_parcel_19 : decode cX5_parcel 19 = .ok (.invokevirtual 103, 3) := by decide +kernel
theorem dX5_parcel_22 : decode cX5_parcel 22 = .ok (.ireturn, 1) := by decide +kernel
theorem dX5_parcel_23 : decode cX5_parcel 23 = .ok (.aload_n 0, 1) := by decide +kernel
theorem dX5_parcel_24 : decode cX5_parcel 24 = .ok (.getfield 9, 3) := by decide +kernel
theorem dX5_parcel_27 : decode cX5_parcel 27 = .ok (.iconst 1, 1) := by decide +kernel
theorem dX5_parcel_28 : decode cX5_parcel 28 = .ok (.iaload, 1) := by decide +kernel
theorem dX5_parcel_29 : decode cX5_parcel 29 = .ok (.bipush 8, 2) := by decide +kernel
theorem dX5_parcel_31 : decode cX5_parcel 31 = .ok (.if_icmp .ne 9, 3) := by decide +kernel
theorem dX5_parcel_34 : decode cX5_parcel 34 = .ok (.aload_n 0, 1) := by decide +kernel
theorem dX5_parcel_35 : decode cX5_parcel 35 = .ok (.iconst 1, 1) := by decide +kernel
theorem dX5_parcel_36 : decode cX5_parcel 36 = .ok (.invokevirtual 103, 3) := by decide +kernel
theorem dX5_parcel_39 : decode cX5_parcel 39 = .ok (.ireturn, 1) := by decide +kernel
theorem dX5_parcel_40 : decode cX5_parcel 40 = .ok (.aload_n 0, 1) := by decide +kernel
theorem dX5_parcel_41 : decode cX5_parcel 41 = .ok (.iload_n 1, 1) := by decide +kernel
theorem dX5_parcel_42 : decode cX5_parcel 42 = .ok (.invokevirtual 106, 3) := by decide +kernel
theorem dX5_parcel_45 : decode cX5_parcel 45 = .ok (.aload_n 0, 1) := by decide +kernel
theorem dX5_parcel_46 : decode cX5_parcel 46 = .ok (.aload_n 0, 1) := by decide +kernel
theorem dX5_parcel_47 : decode cX5_parcel 47 = .ok (.getfield 9, 3) := by decide +kernel
theorem dX5_parcel_50 : decode cX5_parcel 50 = .ok (.iconst 1, 1) := by decide +kernel
theorem dX5_parcel_51 : decode cX5_parcel 51 = .ok (.iaload, 1) := by decide +kernel
theorem dX5_parcel_52 : decode cX5_parcel 52 = .ok (.iconst 1, 1) := by decide +kernel
theorem dX5_parcel_53 : decode cX5_parcel 53 = .ok (.isub, 1) := by decide +kernel
theorem dX5_parcel_54 : decode cX5_parcel 54 = .ok (.iconst 1, 1) := by decide +kernel
theorem dX5_parcel_55 : decode cX5_parcel 55 = .ok (.iload_n 2, 1) := by decide +kernel
theorem dX5_parcel_56 : decode cX5_parcel 56 = .ok (.invokevirtual 60, 3) := by decide +kernel
theorem dX5_parcel_59 : decode cX5_parcel 59 = .ok (.aload_n 0, 1) := by decide +kernel
theorem dX5_parcel_60 : decode cX5_parcel 60 = .ok (.getfield 9, 3) := by decide +kernel
theorem dX5_parcel_63 : decode cX5_parcel 63 = .ok (.iconst 1, 1) := by decide +kernel
theorem dX5_parcel_64 : decode cX5_parcel 64 = .ok (.iaload, 1) := by decide +kernel
theorem dX5_parcel_65 : decode cX5_parcel 65 = .ok (.iconst 1, 1) := by decide +kernel
theorem dX5_parcel_66 : decode cX5_parcel 66 = .ok (.isub, 1) := by decide +kernel
theorem dX5_parcel_67 : decode cX5_parcel 67 = .ok (.ireturn, 1) := by decide +kernel
set_option maxRecDepth 20000 in
set_option maxHeartbeats 4000000 in
theorem c_X5_parcel {K : Cx} {x v : Int32} {n8 : Nat} {m : TM} (hn : m.1 50 1 = nI n8) (h8 : n8 < 8) : CT yX5_parcel cX5_parcel 3 (some .int) 2 46 K [.ref 49, .int x, .int v] (m) (some (.int ((if (outI x 0 6 || outI v 0 20) = true then (-1000001) else nI n8)))) ((if (outI x 0 6 || outI v 0 20) = true then fnm m 0 else sr m 50 (upd (upd (newF (m.1 50) n8 x) 1 (nI (n8 + 1))) (12 + 7 * n8 + 1) v))) := by
  refine ct_ofd (n := 0) (by decide +kernel) rfl rfl ?_
  show XX RX5 cX5_parcel 3 (some .int) 2 46 K 0 [some (.ref 49), some (.int x), some (.int v)] [] (m) (fun r1 m1 => r1 = (some (.int ((if (outI x 0 6 || outI v 0 20) = true then (-1000001) else nI n8)))) ∧ m1 = (if (outI x 0 6 || outI v 0 20) = true then fnm m 0 else sr m 50 (upd (upd (newF (m.1 50) n8 x) 1 (nI (n8 + 1))) (12 + 7 * n8 + 1) v)))
  refine x_iload_n (q := 1) dX5_parcel_0 rfl rfl ?_
  refine x_iconst (q := 2) (v := 0) dX5_parcel_1 rfl (by decide) ?_
  refine x_bipush (q := 4) (v := 6) dX5_parcel_2 rfl (by decide) ?_
  refine x_callS3v (q := 7) dX5_parcel_4 rfl ml_X5_48 ms_X5_in1 c_X5_in1 (Nat.le_of_ble_eq_true rfl) ⟨by decide, by decide⟩ ?_
  refine x_ifB_eq (q := 10) (t := 17) dX5_parcel_7 rfl (by decide) (fun h7 => ?_) (fun h7 => ?_)
  · replace h7 := in_f h7
    refine x_aload_n (q := 18) dX5_parcel_17 rfl rfl ?_
    refine x_iconst (q := 19) (v := 0) dX5_parcel_18 rfl (by decide) ?_
    refine x_callV1v (q := 22) dX5_parcel_19 rfl ml_X5_103 mv_X5_no rv5 rfl (c_X5_nox (w := 0) (x := -1000001) (by decide) (by decide)) (Nat.le_of_ble_eq_true rfl) ⟨by decide, by decide⟩ ?_
    refine x_ireturn dX5_parcel_22 rfl rfl ?_
    exact ⟨by simp [h7], by simp [h7]⟩
  replace h7 := in_t h7
  refine x_iload_n (q := 11) dX5_parcel_10 rfl rfl ?_
  refine x_callS1v (q := 14) dX5_parcel_11 rfl ml_X5_100 ms_X5_isLine c_X5_isLine (Nat.le_of_ble_eq_true rfl) ⟨by decide, by decide⟩ ?_
  refine x_ifB_ne (q := 17) (t := 23) dX5_parcel_14 rfl (by decide) (fun h14 => ?_) (fun h14 => ?_)
  · replace h14 := in_t h14
    refine x_aload_n (q := 24) dX5_parcel_23 rfl rfl ?_
    refine x_getR (q := 27) dX5_parcel_24 rfl fl_X5_9 (or5_s) ?_
    refine x_iconst (q := 28) (v := 1) dX5_parcel_27 rfl (by decide) ?_
    refine x_iald (q := 29) dX5_parcel_28 rfl (ar_50) (ix_nI (k := 1) (by decide) (by decide)) (Nat.zero_add _) ?_
    refine x_bipush (q := 31) (v := 8) dX5_parcel_29 rfl (by decide) ?_
    refine x_icmp_ne (q := 34) (t := 40) dX5_parcel_31 rfl (by decide) (fun h31 => ?_) (fun h31 => ?_)
    · refine x_aload_n (q := 41) dX5_parcel_40 rfl rfl ?_
      refine x_iload_n (q := 42) dX5_parcel_41 rfl rfl ?_
      refine x_callV1n (q := 45) dX5_parcel_42 rfl ml_X5_106 mv_X5_adds rv5 rfl (p_X5_adds hn h8) (Nat.le_of_ble_eq_true rfl) ⟨by decide, by decide⟩ ?_
      refine x_aload_n (q := 46) dX5_parcel_45 rfl rfl ?_
      refine x_aload_n (q := 47) dX5_parcel_46 rfl rfl ?_
      refine x_getR (q := 50) dX5_parcel_47 rfl fl_X5_9 (or5_s) ?_
      refine x_iconst (q := 51) (v := 1) dX5_parcel_50 rfl (by decide) ?_
      refine x_iald (q := 52) dX5_parcel_51 rfl (ar_50) (ix_nI (k := 1) (by decide) (by decide)) (Nat.zero_add _) ?_
      refine x_iconst (q := 53) (v := 1) dX5_parcel_52 rfl (by decide) ?_
      refine x_isub (q := 54) dX5_parcel_53 rfl ?_
      refine x_iconst (q := 55) (v := 1) dX5_parcel_54 rfl (by decide) ?_
      refine x_iload_n (q := 56) dX5_parcel_55 rfl rfl ?_
      refine x_callV3n (q := 59) dX5_parcel_56 rfl ml_X5_60 mv_X5_puts rv5 rfl (by rw [sr_at, upd_self, nI_pred]; exact c_X5_putsr (f := 1) h8 (by decide)) (Nat.le_of_ble_eq_true rfl) ⟨by decide, by decide⟩ ?_
      refine x_aload_n (q := 60) dX5_parcel_59 rfl rfl ?_
      refine x_getR (q := 63) dX5_parcel_60 rfl fl_X5_9 (or5_s) ?_
      refine x_iconst (q := 64) (v := 1) dX5_parcel_63 rfl (by decide) ?_
      refine x_iald (q := 65) dX5_parcel_64 rfl (ar_50) (ix_nI (k := 1) (by decide) (by decide)) (Nat.zero_add _) ?_
      refine x_iconst (q := 66) (v := 1) dX5_parcel_65 rfl (by decide) ?_
      refine x_isub (q := 67) dX5_parcel_66 rfl ?_
      refine x_ireturn dX5_parcel_67 rfl rfl ?_
      refine ⟨?_, ?_⟩
      · rw [sr_at, upd_ne (by omega), upd_self, nI_pred]
        simp [h7, h14]
      · simp [h7, h14]
    exact absurd (hn ▸ h31) (fun q => absurd ((jnI_inj (b := 8) (by omega) (by omega)).mp q) (by omega))
  replace h14 := in_f h14
  refine x_aload_n (q := 18) dX5_parcel_17 rfl rfl ?_
  refine x_iconst (q := 19) (v := 0) dX5_parcel_18 rfl (by decide) ?_
  refine x_callV1v (q := 22) dX5_parcel_19 rfl ml_X5_103 mv_X5_no rv5 rfl (c_X5_nox (w := 0) (x := -1000001) (by decide) (by decide)) (Nat.le_of_ble_eq_true rfl) ⟨by decide, by decide⟩ ?_
  refine x_ireturn dX5_parcel_22 rfl rfl ?_
  exact ⟨by simp [h7, h14], by simp [h7, h14]⟩
set_option maxRecDepth 20000 in
set_option maxHeartbeats 4000000 in
theorem c_X5_parcelN {K : Cx} {x v : Int32} {m : TM} (hn : m.1 50 1 = nI 8) : CT yX5_parcel cX5_parcel 3 (some .int) 2 46 K [.ref 49, .int x, .int v] (m) (some (.int ((if (outI x 0 6 || outI v 0 20) = true then (-1000001) else -1000002)))) ((if (outI x 0 6 || outI v 0 20) = true then fnm m 0 else fnm m 1)) := by
  refine ct_ofd (n := 0) (by decide +kernel) rfl rfl ?_
  show XX RX5 cX5_parcel 3 (some .int) 2 46 K 0 [some (.ref 49), some (.int x), some (.int v)] [] (m) (fun r1 m1 => r1 = (some (.int ((if (outI x 0 6 || outI v 0 20) = true then (-1000001) else -1000002)))) ∧ m1 = (if (outI x 0 6 || outI v 0 20) = true then fnm m 0 else fnm m 1))
  refine x_iload_n (q := 1) dX5_parcel_0 rfl rfl ?_
  refine x_iconst (q := 2) (v := 0) dX5_parcel_1 rfl (by decide) ?_
  refine x_bipush (q := 4) (v := 6) dX5_parcel_2 rfl (by decide) ?_
  refine x_callS3v (q := 7) dX5_parcel_4 rfl ml_X5_48 ms_X5_in1 c_X5_in1 (Nat.le_of_ble_eq_true rfl) ⟨by decide, by decide⟩ ?_
  refine x_ifB_eq (q := 10) (t := 17) dX5_parcel_7 rfl (by decide) (fun h7 => ?_) (fun h7 => ?_)
  · replace h7 := in_f h7
    refine x_aload_n (q := 18) dX5_parcel_17 rfl rfl ?_
    refine x_iconst (q := 19) (v := 0) dX5_parcel_18 rfl (by decide) ?_
    refine x_callV1v (q := 22) dX5_parcel_19 rfl ml_X5_103 mv_X5_no rv5 rfl (c_X5_nox (w := 0) (x := -1000001) (by decide) (by decide)) (Nat.le_of_ble_eq_true rfl) ⟨by decide, by decide⟩ ?_
    refine x_ireturn dX5_parcel_22 rfl rfl ?_
    exact ⟨by simp [h7], by simp [h7]⟩
  replace h7 := in_t h7
  refine x_iload_n (q := 11) dX5_parcel_10 rfl rfl ?_
  refine x_callS1v (q := 14) dX5_parcel_11 rfl ml_X5_100 ms_X5_isLine c_X5_isLine (Nat.le_of_ble_eq_true rfl) ⟨by decide, by decide⟩ ?_
  refine x_ifB_ne (q := 17) (t := 23) dX5_parcel_14 rfl (by decide) (fun h14 => ?_) (fun h14 => ?_)
  · replace h14 := in_t h14
    refine x_aload_n (q := 24) dX5_parcel_23 rfl rfl ?_
    refine x_getR (q := 27) dX5_parcel_24 rfl fl_X5_9 (or5_s) ?_
    refine x_iconst (q := 28) (v := 1) dX5_parcel_27 rfl (by decide) ?_
    refine x_iald (q := 29) dX5_parcel_28 rfl (ar_50) (ix_nI (k := 1) (by decide) (by decide)) (Nat.zero_add _) ?_
    refine x_bipush (q := 31) (v := 8) dX5_parcel_29 rfl (by decide) ?_
    refine x_icmp_ne (q := 34) (t := 40) dX5_parcel_31 rfl (by decide) (fun h31 => ?_) (fun h31 => ?_)
    · exact absurd hn h31
    refine x_aload_n (q := 35) dX5_parcel_34 rfl rfl ?_
    refine x_iconst (q := 36) (v := 1) dX5_parcel_35 rfl (by decide) ?_
    refine x_callV1v (q := 39) dX5_parcel_36 rfl ml_X5_103 mv_X5_no rv5 rfl (c_X5_nox (w := 1) (x := -1000002) (by decide) (by decide)) (Nat.le_of_ble_eq_true rfl) ⟨by decide, by decide⟩ ?_
    refine x_ireturn dX5_parcel_39 rfl rfl ?_
    exact ⟨by simp [h7, h14, h31], by simp [h7, h14, h31]⟩
  replace h14 := in_f h14
  refine x_aload_n (q := 18) dX5_parcel_17 rfl rfl ?_
  refine x_iconst (q := 19) (v := 0) dX5_parcel_18 rfl (by decide) ?_
  refine x_callV1v (q := 22) dX5_parcel_19 rfl ml_X5_103 mv_X5_no rv5 rfl (c_X5_nox (w := 0) (x := -1000001) (by decide) (by decide)) (Nat.le_of_ble_eq_true rfl) ⟨by decide, by decide⟩ ?_
  refine x_ireturn dX5_parcel_22 rfl rfl ?_
  exact ⟨by simp [h7, h14], by simp [h7, h14]⟩
theorem of_small {x : Int32} (h : outI x 0 10 = false) (h7 : ¬ x = 7) (h8 : ¬ x = 8) (h9 : ¬ x = 9) (h10 : ¬ x = 10) : ∃ c, c < 7 ∧ x = nI c := by
  have hk := (ix_out h (n := 11) (by decide))
  have e := jnI_of hk.1
  have h2 : cl x < 11 := hk.2.2
  unfold cl at h2
  refine ⟨x.toNatClampNeg, ?_, e⟩
  have a7 : x.toNatClampNeg ≠ 7 := fun q => h7 (by rw [e, q]; rfl)
  have a8 : x.toNatClampNeg ≠ 8 := fun q => h8 (by rw [e, q]; rfl)
  have a9 : x.toNatClampNeg ≠ 9 := fun q => h9 (by rw [e, q]; rfl)
  have a10 : x.toNatClampNeg ≠ 10 := fun q => h10 (by rw [e, q]; rfl)
  omega
theorem dX5_of_0 : decode cX5_of 0 = .ok (.aload_n 0, 1) := by decide +kernel
theorem dX5_of_1 : decode cX5_of 1 = .ok (.iload_n 1, 1) := by decide +kernel
theorem dX5_of_2 : decode cX5_of 2 = .ok (.invokevirtual 109, 3) := by decide +kernel
theorem dX5_of_5 : decode cX5_of 5 = .ok (.ifCond .eq 13, 3) := by decide +kernel
theorem dX5_of_8 : decode cX5_of 8 = .ok (.iload_n 2, 1) := by decide +kernel
theorem dX5_of_9 : decode cX5_of 9 = .ok (.iconst 0, 1) := by decide +kernel
theorem dX5_of_10 : decode cX5_of 10 = .ok (.bipush 10, 2) := by decide +kernel
theorem dX5_of_12 : decode cX5_of 12 = .ok (.invokestatic 48, 3) := by decide +kernel
theorem dX5_of_15 : decode cX5_of 15 = .ok (.ifCond .ne 9, 3) := by decide +kernel
theorem dX5_of_18 : decode cX5_of 18 = .ok (.aload_n 0, 1) := by decide +kernel
theorem dX5_of_19 : decode cX5_of 19 = .ok (.iconst 0, 1) := by decide +kernel
theorem dX5_of_20 : decode cX5_of 20 = .ok (.invokevirtual 103, 3) := by decide +kernel
theorem dX5_of_23 : decode cX5_of 23 = .ok (.ireturn, 1) := by decide +kernel
theorem dX5_of_24 : decode cX5_of 24 = .ok (.iload_n 2, 1) := by decide +kernel
theorem dX5_of_25 : decode cX5_of 25 = .ok (.tableswitch 55 7 10 #[31, 37, 43, 49], 31) := by decide +kernel
theorem dX5_of_56 : decode cX5_of 56 = .ok (.aload_n 0, 1) := by decide +kernel
theorem dX5_of_57 : decode cX5_of 57 = .ok (.iload_n 1, 1) := by decide +kernel
theorem dX5_of_58 : decode cX5_of 58 = .ok (.invokevirtual 75, 3) := by decide +kernel
theorem dX5_of_61 : decode cX5_of 61 = .ok (.ireturn, 1) := by decide +kernel
theorem dX5_of_62 : decode cX5_of 62 = .ok (.aload_n 0, 1) := by decide +kernel
theorem dX5_of_63 : decode cX5_of 63 = .ok (.iload_n 1, 1) := by decide +kernel
theorem dX5_of_64 : decode cX5_of 64 = .ok (.invokevirtual 78, 3) := by decide +kernel
theorem dX5_of_67 : decode cX5_of 67 = .ok (.ireturn, 1) := by decide +kernel
theorem dX5_of_68 : decode cX5_of 68 = .ok (.aload_n 0, 1) := by decide +kernel
theorem dX5_of_69 : decode cX5_of 69 = .ok (.iload_n 1, 1) := by decide +kernel
theorem dX5_of_70 : decode cX5_of 70 = .ok (.invokevirtual 65, 3) := by decide +kernel
theorem dX5_of_73 : decode cX5_of 73 = .ok (.ireturn, 1) := by decide +kernel
theorem dX5_of_74 : decode cX5_of 74 = .ok (.aload_n 0, 1) := by decide +kernel
theorem dX5_of_75 : decode cX5_of 75 = .ok (.iload_n 1, 1) := by decide +kernel
theorem dX5_of_76 : decode cX5_of 76 = .ok (.invokevirtual 72, 3) := by decide +kernel
theorem dX5_of_79 : decode cX5_of 79 = .ok (.ireturn, 1) := by decide +kernel
theorem dX5_of_80 : decode cX5_of 80 = .ok (.aload_n 0, 1) := by decide +kernel
theorem dX5_of_81 : decode cX5_of 81 = .ok (.iload_n 1, 1) := by decide +kernel
theorem dX5_of_82 : decode cX5_of 82 = .ok (.iload_n 2, 1) := by decide +kernel
theorem dX5_of_83 : decode cX5_of 83 = .ok (.invokevirtual 52, 3) := by decide +kernel
theorem dX5_of_86 : decode cX5_of 86 = .ok (.ireturn, 1) := by decide +kernel
set_option maxRecDepth 20000 in
set_option maxHeartbeats 4000000 in
theorem c_X5_of {K : Cx} {p x : Int32} {n8 : Nat} {m : TM} (hI : Iv n8 (m.1 50)) : CT yX5_of cX5_of 3 (some .int) 2 44 K [.ref 49, .int p, .int x] (m) (some (.int ((if (outI p 0 (m.1 50 1 - 1) || outI x 0 10) = true then (-1000001) else tld (m.1 50) (cl p) x)))) ((if (outI p 0 (m.1 50 1 - 1) || outI x 0 10) = true then fnm m 0 else m)) := by
  refine ct_ofd (n := 0) (by decide +kernel) rfl rfl ?_
  show XX RX5 cX5_of 3 (some .int) 2 44 K 0 [some (.ref 49), some (.int p), some (.int x)] [] (m) (fun r1 m1 => r1 = (some (.int ((if (outI p 0 (m.1 50 1 - 1) || outI x 0 10) = true then (-1000001) else tld (m.1 50) (cl p) x)))) ∧ m1 = (if (outI p 0 (m.1 50 1 - 1) || outI x 0 10) = true then fnm m 0 else m))
  refine x_aload_n (q := 1) dX5_of_0 rfl rfl ?_
  refine x_iload_n (q := 2) dX5_of_1 rfl rfl ?_
  refine x_callV1v (q := 5) dX5_of_2 rfl ml_X5_109 mv_X5_isParcel rv5 rfl c_X5_isParcel (Nat.le_of_ble_eq_true rfl) ⟨by decide, by decide⟩ ?_
  refine x_ifB_eq (q := 8) (t := 18) dX5_of_5 rfl (by decide) (fun h5 => ?_) (fun h5 => ?_)
  · replace h5 := in_f h5
    refine x_aload_n (q := 19) dX5_of_18 rfl rfl ?_
    refine x_iconst (q := 20) (v := 0) dX5_of_19 rfl (by decide) ?_
    refine x_callV1v (q := 23) dX5_of_20 rfl ml_X5_103 mv_X5_no rv5 rfl (c_X5_nox (w := 0) (x := -1000001) (by decide) (by decide)) (Nat.le_of_ble_eq_true rfl) ⟨by decide, by decide⟩ ?_
    refine x_ireturn dX5_of_23 rfl rfl ?_
    exact ⟨by simp [h5], by simp [h5]⟩
  replace h5 := in_t h5
  refine x_iload_n (q := 9) dX5_of_8 rfl rfl ?_
  refine x_iconst (q := 10) (v := 0) dX5_of_9 rfl (by decide) ?_
  refine x_bipush (q := 12) (v := 10) dX5_of_10 rfl (by decide) ?_
  refine x_callS3v (q := 15) dX5_of_12 rfl ml_X5_48 ms_X5_in1 c_X5_in1 (Nat.le_of_ble_eq_true rfl) ⟨by decide, by decide⟩ ?_
  refine x_ifB_ne (q := 18) (t := 24) dX5_of_15 rfl (by decide) (fun h15 => ?_) (fun h15 => ?_)
  · replace h15 := in_t h15
    obtain ⟨k, hk, rfl⟩ : ∃ k, k < n8 ∧ p = nI k := ⟨cl p, (par_k hI.2.1 hI.1 h5).2, par_nI hI.2.1 hI.1 h5⟩
    have hk8 : k < 8 := by have := hI.1; omega
    have ek : cl (nI k) = k := jnI_clamp (by omega)
    refine x_iload_n (q := 25) dX5_of_24 rfl rfl ?_
    by_cases h25_7 : x = 7
    · refine x_tswC (q := 56) (k := 7) dX5_of_25 h25_7 (by decide) (by decide) rfl (by decide) ?_
      refine x_aload_n (q := 57) dX5_of_56 rfl rfl ?_
      refine x_iload_n (q := 58) dX5_of_57 rfl rfl ?_
      refine x_callV1v (q := 61) dX5_of_58 rfl ml_X5_75 mv_X5_movesOf rv5 rfl (p_X5_movesOf hk8) (Nat.le_of_ble_eq_true rfl) ⟨by decide, by decide⟩ ?_
      refine x_ireturn dX5_of_61 rfl rfl ?_
      refine ⟨?_, by simp [h5, h15]⟩
      rw [if_neg (by rw [h5, h15]; decide), ek]
      obtain ⟨c, hc, ec⟩ := (hI.2.2.2.2.1 k hk).2
      rw [ec, mv_eq hc, h25_7, ← ec]
      rfl
    by_cases h25_8 : x = 8
    · refine x_tswC (q := 62) (k := 8) dX5_of_25 h25_8 (by decide) (by decide) rfl (by decide) ?_
      refine x_aload_n (q := 63) dX5_of_62 rfl rfl ?_
      refine x_iload_n (q := 64) dX5_of_63 rfl rfl ?_
      refine x_callV1v (q := 67) dX5_of_64 rfl ml_X5_78 mv_X5_lastsOf rv5 rfl (p_X5_lastsOf hk8) (Nat.le_of_ble_eq_true rfl) ⟨by decide, by decide⟩ ?_
      refine x_ireturn dX5_of_67 rfl rfl ?_
      refine ⟨?_, by simp [h5, h15]⟩
      rw [if_neg (by rw [h5, h15]; decide), ek]
      rw [h25_8]
      rfl
    by_cases h25_9 : x = 9
    · refine x_tswC (q := 68) (k := 9) dX5_of_25 h25_9 (by decide) (by decide) rfl (by decide) ?_
      refine x_aload_n (q := 69) dX5_of_68 rfl rfl ?_
      refine x_iload_n (q := 70) dX5_of_69 rfl rfl ?_
      refine x_callV1v (q := 73) dX5_of_70 rfl ml_X5_65 mv_X5_paysOf rv5 rfl (p_X5_paysOf hk8) (Nat.le_of_ble_eq_true rfl) ⟨by decide, by decide⟩ ?_
      refine x_ireturn dX5_of_73 rfl rfl ?_
      refine ⟨?_, by simp [h5, h15]⟩
      rw [if_neg (by rw [h5, h15]; decide), ek]
      rw [h25_9]
      rfl
    by_cases h25_10 : x = 10
    · refine x_tswC (q := 74) (k := 10) dX5_of_25 h25_10 (by decide) (by decide) rfl (by decide) ?_
      refine x_aload_n (q := 75) dX5_of_74 rfl rfl ?_
      refine x_iload_n (q := 76) dX5_of_75 rfl rfl ?_
      refine x_callV1v (q := 79) dX5_of_76 rfl ml_X5_72 mv_X5_delaysOf rv5 rfl (p_X5_delaysOf hk8) (Nat.le_of_ble_eq_true rfl) ⟨by decide, by decide⟩ ?_
      refine x_ireturn dX5_of_79 rfl rfl ?_
      refine ⟨?_, by simp [h5, h15]⟩
      rw [if_neg (by rw [h5, h15]; decide), ek]
      rw [h25_10]
      rfl
    refine x_tswD (q := 80) dX5_of_25 (by have n7 := lv_neT h25_7 (a := 7) (by decide); have n8 := lv_neT h25_8 (a := 8) (by decide); have n9 := lv_neT h25_9 (a := 9) (by decide); have n10 := lv_neT h25_10 (a := 10) (by decide); omega) (by decide) ?_
    obtain ⟨c, hc, rfl⟩ := of_small h15 h25_7 h25_8 h25_9 h25_10
    refine x_aload_n (q := 81) dX5_of_80 rfl rfl ?_
    refine x_iload_n (q := 82) dX5_of_81 rfl rfl ?_
    refine x_iload_n (q := 83) dX5_of_82 rfl rfl ?_
    refine x_callV2v (q := 86) dX5_of_83 rfl ml_X5_52 mv_X5_get rv5 rfl (c_X5_get hk8 hc) (Nat.le_of_ble_eq_true rfl) ⟨by decide, by decide⟩ ?_
    refine x_ireturn dX5_of_86 rfl rfl ?_
    refine ⟨?_, by simp [h5, h15]⟩
    rw [if_neg (by rw [h5, h15]; decide), ek]
    rw [tld_get c hc]
  replace h15 := in_f h15
  refine x_aload_n (q := 19) dX5_of_18 rfl rfl ?_
  refine x_iconst (q := 20) (v := 0) dX5_of_19 rfl (by decide) ?_
  refine x_callV1v (q := 23) dX5_of_20 rfl ml_X5_103 mv_X5_no rv5 rfl (c_X5_nox (w := 0) (x := -1000001) (by decide) (by decide)) (Nat.le_of_ble_eq_true rfl) ⟨by decide, by decide⟩ ?_
  refine x_ireturn dX5_of_23 rfl rfl ?_
  exact ⟨by simp [h5, h15], by simp [h5, h15]⟩
theorem out6 {x : Int32} (h : outI x 0 6 = false) : ∃ c, c < 7 ∧ x = nI c := by
  have hk := (ix_out h (n := 7) (by decide))
  exact ⟨x.toNatClampNeg, hk.2.2, jnI_of hk.1⟩
theorem lst_2 {x : Int32} (h : x = 2) : lst x = 1 := if_pos h
theorem lst_n {x : Int32} (h : ¬ x = 2) : lst x = 0 := if_neg h
theorem dX5_change_0 : decode cX5_change 0 = .ok (.aload_n 0, 1) := by decide +kernel
theorem dX5_change_1 : decode cX5_change 1 = .ok (.iload_n 1, 1) := by decide +kernel
theorem dX5_change_2 : decode cX5_change 2 = .ok (.invokevirtual 109, 3) := by decide +kernel
theorem dX5_change_5 : decode cX5_change 5 = .ok (.ifCond .eq 34, 3) := by decide +kernel
theorem dX5_change_8 : decode cX5_change 8 = .ok (.iload_n 2, 1) := by decide +kernel
theorem dX5_change_9 : decode cX5_change 9 = .ok (.iconst 0, 1) := by decide +kernel
theorem dX5_change_10 : decode cX5_change 10 = .ok (.bipush 6, 2) := by decide +kernel
theorem dX5_change_12 : decode cX5_change 12 = .ok (.invokestatic 48, 3) := by decide +kernel
theorem dX5_change_15 : decode cX5_change 15 = .ok (.ifCond .eq 24, 3) := by decide +kernel
theorem dX5_change_18 : decode cX5_change 18 = .ok (.iload_n 3, 1) := by decide +kernel
theorem dX5_change_19 : decode cX5_change 19 = .ok (.iload_n 2, 1) := by decide +kernel
theorem dX5_change_20 : decode cX5_change 20 = .ok (.iconst 2, 1) := by decide +kernel
theorem dX5_change_21 : decode cX5_change 21 = .ok (.if_icmp .ne 7, 3) := by decide +kernel
theorem dX5_change_24 : decode cX5_change 24 = .ok (.iconst 1, 1) := by decide +kernel
theorem dX5_change_25 : decode cX5_change 25 = .ok (.goto 4, 3) := by decide +kernel
theorem dX5_change_28 : decode cX5_change 28 = .ok (.iconst 0, 1) := by decide +kernel
theorem dX5_change_29 : decode cX5_change 29 = .ok (.iload_n 2, 1) := by decide +kernel
theorem dX5_change_30 : decode cX5_change 30 = .ok (.invokestatic 112, 3) := by decide +kernel
theorem dX5_change_33 : decode cX5_change 33 = .ok (.invokestatic 48, 3) := by decide +kernel
theorem dX5_change_36 : decode cX5_change 36 = .ok (.ifCond .ne 9, 3) := by decide +kernel
theorem dX5_change_39 : decode cX5_change 39 = .ok (.aload_n 0, 1) := by decide +kernel
theorem dX5_change_40 : decode cX5_change 40 = .ok (.iconst 0, 1) := by decide +kernel
theorem dX5_change_41 : decode cX5_change 41 = .ok (.invokevirtual 103, 3) := by decide +kernel
theorem dX5_change_44 : decode cX5_change 44 = .ok (.ireturn, 1) := by decide +kernel
theorem dX5_change_45 : decode cX5_change 45 = .ok (.aload_n 0, 1) := by decide +kernel
theorem dX5_change_46 : decode cX5_change 46 = .ok (.iload_n 1, 1) := by decide +kernel
theorem dX5_change_47 : decode cX5_change 47 = .ok (.iload_n 2, 1) := by decide +kernel
theorem dX5_change_48 : decode cX5_change 48 = .ok (.invokevirtual 52, 3) := by decide +kernel
theorem dX5_change_51 : decode cX5_change 51 = .ok (.istore 4, 2) := by decide +kernel
theorem dX5_change_53 : decode cX5_change 53 = .ok (.aload_n 0, 1) := by decide +kernel
theorem dX5_change_54 : decode cX5_change 54 = .ok (.iload_n 1, 1) := by decide +kernel
theorem dX5_change_55 : decode cX5_change 55 = .ok (.iload_n 2, 1) := by decide +kernel
theorem dX5_change_56 : decode cX5_change 56 = .ok (.iload_n 3, 1) := by decide +kernel
theorem dX5_change_57 : decode cX5_change 57 = .ok (.invokevirtual 60, 3) := by decide +kernel
theorem dX5_change_60 : decode cX5_change 60 = .ok (.iload 4, 2) := by decide +kernel
theorem dX5_change_62 : decode cX5_change 62 = .ok (.ireturn, 1) := by decide +kernel
set_option maxRecDepth 20000 in
set_option maxHeartbeats 4000000 in
theorem c_X5_change {K : Cx} {p x v : Int32} {n8 : Nat} {m : TM} (hI : Iv n8 (m.1 50)) : CT yX5_change cX5_change 5 (some .int) 2 43 K [.ref 49, .int p, .int x, .int v] (m) (some (.int ((if (outI p 0 (m.1 50 1 - 1) || outI x 0 6 || outI v (lst x) (mst x)) = true then (-1000001) else tld (m.1 50) (cl p) x)))) ((if (outI p 0 (m.1 50 1 - 1) || outI x 0 6 || outI v (lst x) (mst x)) = true then fnm m 0 else sr m 50 (ptF (m.1 50) (cl p) x v))) := by
  refine ct_ofd (n := 1) (by decide +kernel) rfl rfl ?_
  show XX RX5 cX5_change 5 (some .int) 2 43 K 0 [some (.ref 49), some (.int p), some (.int x), some (.int v), none] [] (m) (fun r1 m1 => r1 = (some (.int ((if (outI p 0 (m.1 50 1 - 1) || outI x 0 6 || outI v (lst x) (mst x)) = true then (-1000001) else tld (m.1 50) (cl p) x)))) ∧ m1 = (if (outI p 0 (m.1 50 1 - 1) || outI x 0 6 || outI v (lst x) (mst x)) = true then fnm m 0 else sr m 50 (ptF (m.1 50) (cl p) x v)))
  refine x_aload_n (q := 1) dX5_change_0 rfl rfl ?_
  refine x_iload_n (q := 2) dX5_change_1 rfl rfl ?_
  refine x_callV1v (q := 5) dX5_change_2 rfl ml_X5_109 mv_X5_isParcel rv5 rfl c_X5_isParcel (Nat.le_of_ble_eq_true rfl) ⟨by decide, by decide⟩ ?_
  refine x_ifB_eq (q := 8) (t := 39) dX5_change_5 rfl (by decide) (fun h5 => ?_) (fun h5 => ?_)
  · replace h5 := in_f h5
    refine x_aload_n (q := 40) dX5_change_39 rfl rfl ?_
    refine x_iconst (q := 41) (v := 0) dX5_change_40 rfl (by decide) ?_
    refine x_callV1v (q := 44) dX5_change_41 rfl ml_X5_103 mv_X5_no rv5 rfl (c_X5_nox (w := 0) (x := -1000001) (by decide) (by decide)) (Nat.le_of_ble_eq_true rfl) ⟨by decide, by decide⟩ ?_
    refine x_ireturn dX5_change_44 rfl rfl ?_
    exact ⟨by simp [h5], by simp [h5]⟩
  replace h5 := in_t h5
  refine x_iload_n (q := 9) dX5_change_8 rfl rfl ?_
  refine x_iconst (q := 10) (v := 0) dX5_change_9 rfl (by decide) ?_
  refine x_bipush (q := 12) (v := 6) dX5_change_10 rfl (by decide) ?_
  refine x_callS3v (q := 15) dX5_change_12 rfl ml_X5_48 ms_X5_in1 c_X5_in1 (Nat.le_of_ble_eq_true rfl) ⟨by decide, by decide⟩ ?_
  refine x_ifB_eq (q := 18) (t := 39) dX5_change_15 rfl (by decide) (fun h15 => ?_) (fun h15 => ?_)
  · replace h15 := in_f h15
    refine x_aload_n (q := 40) dX5_change_39 rfl rfl ?_
    refine x_iconst (q := 41) (v := 0) dX5_change_40 rfl (by decide) ?_
    refine x_callV1v (q := 44) dX5_change_41 rfl ml_X5_103 mv_X5_no rv5 rfl (c_X5_nox (w := 0) (x := -1000001) (by decide) (by decide)) (Nat.le_of_ble_eq_true rfl) ⟨by decide, by decide⟩ ?_
    refine x_ireturn dX5_change_44 rfl rfl ?_
    exact ⟨by simp [h5, h15], by simp [h5, h15]⟩
  replace h15 := in_t h15
  refine x_iload_n (q := 19) dX5_change_18 rfl rfl ?_
  refine x_iload_n (q := 20) dX5_change_19 rfl rfl ?_
  refine x_iconst (q := 21) (v := 2) dX5_change_20 rfl (by decide) ?_
  refine x_icmp_ne (q := 24) (t := 28) dX5_change_21 rfl (by decide) (fun h21 => ?_) (fun h21 => ?_)
  · refine x_iconst (q := 29) (v := 0) dX5_change_28 rfl (by decide) ?_
    refine x_iload_n (q := 30) dX5_change_29 rfl rfl ?_
    refine x_callS1v (q := 33) dX5_change_30 rfl ml_X5_112 ms_X5_mostOf c_X5_mostOf (Nat.le_of_ble_eq_true rfl) ⟨by decide, by decide⟩ ?_
    refine x_callS3v (q := 36) dX5_change_33 rfl ml_X5_48 ms_X5_in1 c_X5_in1 (Nat.le_of_ble_eq_true rfl) ⟨by decide, by decide⟩ ?_
    refine x_ifB_ne (q := 39) (t := 45) dX5_change_36 rfl (by decide) (fun h36 => ?_) (fun h36 => ?_)
    · replace h36 := in_t h36
      obtain ⟨k, hk, rfl⟩ : ∃ k, k < n8 ∧ p = nI k := ⟨cl p, (par_k hI.2.1 hI.1 h5).2, par_nI hI.2.1 hI.1 h5⟩
      have hk8 : k < 8 := by have := hI.1; omega
      have ek : cl (nI k) = k := jnI_clamp (by omega)
      obtain ⟨c, hc, rfl⟩ := out6 h15
      refine x_aload_n (q := 46) dX5_change_45 rfl rfl ?_
      refine x_iload_n (q := 47) dX5_change_46 rfl rfl ?_
      refine x_iload_n (q := 48) dX5_change_47 rfl rfl ?_
      refine x_callV2v (q := 51) dX5_change_48 rfl ml_X5_52 mv_X5_get rv5 rfl (c_X5_get hk8 hc) (Nat.le_of_ble_eq_true rfl) ⟨by decide, by decide⟩ ?_
      refine x_istore (q := 53) dX5_change_51 rfl (by decide) rfl rfl ?_
      refine x_aload_n (q := 54) dX5_change_53 rfl rfl ?_
      refine x_iload_n (q := 55) dX5_change_54 rfl rfl ?_
      refine x_iload_n (q := 56) dX5_change_55 rfl rfl ?_
      refine x_iload_n (q := 57) dX5_change_56 rfl rfl ?_
      refine x_callV3n (q := 60) dX5_change_57 rfl ml_X5_60 mv_X5_puts rv5 rfl (c_X5_puts hk8 hc) (Nat.le_of_ble_eq_true rfl) ⟨by decide, by decide⟩ ?_
      refine x_iload (q := 62) dX5_change_60 rfl rfl ?_
      refine x_ireturn dX5_change_62 rfl rfl ?_
      have hl : lst (nI c) = 0 := lst_n h21
      refine ⟨?_, ?_⟩
      · rw [if_neg (by rw [h5, h15, hl, h36]; decide), ek, tld_get c hc]
      · rw [if_neg (by rw [h5, h15, hl, h36]; decide), ek, ptF_get c hc, st1_eq]
    replace h36 := in_f h36
    refine x_aload_n (q := 40) dX5_change_39 rfl rfl ?_
    refine x_iconst (q := 41) (v := 0) dX5_change_40 rfl (by decide) ?_
    refine x_callV1v (q := 44) dX5_change_41 rfl ml_X5_103 mv_X5_no rv5 rfl (c_X5_nox (w := 0) (x := -1000001) (by decide) (by decide)) (Nat.le_of_ble_eq_true rfl) ⟨by decide, by decide⟩ ?_
    refine x_ireturn dX5_change_44 rfl rfl ?_
    exact ⟨by simp [h5, h15, h36, lst_n h21], by simp [h5, h15, h36, lst_n h21]⟩
  refine x_iconst (q := 25) (v := 1) dX5_change_24 rfl (by decide) ?_
  refine x_goto (q := 29) dX5_change_25 (by decide) ?_
  refine x_iload_n (q := 30) dX5_change_29 rfl rfl ?_
  refine x_callS1v (q := 33) dX5_change_30 rfl ml_X5_112 ms_X5_mostOf c_X5_mostOf (Nat.le_of_ble_eq_true rfl) ⟨by decide, by decide⟩ ?_
  refine x_callS3v (q := 36) dX5_change_33 rfl ml_X5_48 ms_X5_in1 c_X5_in1 (Nat.le_of_ble_eq_true rfl) ⟨by decide, by decide⟩ ?_
  refine x_ifB_ne (q := 39) (t := 45) dX5_change_36 rfl (by decide) (fun h36 => ?_) (fun h36 => ?_)
  · replace h36 := in_t h36
    obtain ⟨k, hk, rfl⟩ : ∃ k, k < n8 ∧ p = nI k := ⟨cl p, (par_k hI.2.1 hI.1 h5).2, par_nI hI.2.1 hI.1 h5⟩
    have hk8 : k < 8 := by have := hI.1; omega
    have ek : cl (nI k) = k := jnI_clamp (by omega)
    obtain ⟨c, hc, rfl⟩ := out6 h15
    refine x_aload_n (q := 46) dX5_change_45 rfl rfl ?_
    refine x_iload_n (q := 47) dX5_change_46 rfl rfl ?_
    refine x_iload_n (q := 48) dX5_change_47 rfl rfl ?_
    refine x_callV2v (q := 51) dX5_change_48 rfl ml_X5_52 mv_X5_get rv5 rfl (c_X5_get hk8 hc) (Nat.le_of_ble_eq_true rfl) ⟨by decide, by decide⟩ ?_
    refine x_istore (q := 53) dX5_change_51 rfl (by decide) rfl rfl ?_
    refine x_aload_n (q := 54) dX5_change_53 rfl rfl ?_
    refine x_iload_n (q := 55) dX5_change_54 rfl rfl ?_
    refine x_iload_n (q := 56) dX5_change_55 rfl rfl ?_
    refine x_iload_n (q := 57) dX5_change_56 rfl rfl ?_
    refine x_callV3n (q := 60) dX5_change_57 rfl ml_X5_60 mv_X5_puts rv5 rfl (c_X5_puts hk8 hc) (Nat.le_of_ble_eq_true rfl) ⟨by decide, by decide⟩ ?_
    refine x_iload (q := 62) dX5_change_60 rfl rfl ?_
    refine x_ireturn dX5_change_62 rfl rfl ?_
    have hl : lst (nI c) = 1 := lst_2 h21
    refine ⟨?_, ?_⟩
    · rw [if_neg (by rw [h5, h15, hl, h36]; decide), ek, tld_get c hc]
    · rw [if_neg (by rw [h5, h15, hl, h36]; decide), ek, ptF_get c hc, st1_eq]
  replace h36 := in_f h36
  refine x_aload_n (q := 40) dX5_change_39 rfl rfl ?_
  refine x_iconst (q := 41) (v := 0) dX5_change_40 rfl (by decide) ?_
  refine x_callV1v (q := 44) dX5_change_41 rfl ml_X5_103 mv_X5_no rv5 rfl (c_X5_nox (w := 0) (x := -1000001) (by decide) (by decide)) (Nat.le_of_ble_eq_true rfl) ⟨by decide, by decide⟩ ?_
  refine x_ireturn dX5_change_44 rfl rfl ?_
  exact ⟨by simp [h5, h15, h36, lst_2 h21], by simp [h5, h15, h36, lst_2 h21]⟩
theorem dX5_signs_0 : decode cX5_signs 0 = .ok (.aload_n 0, 1) := by decide +kernel
theorem dX5_signs_1 : decode cX5_signs 1 = .ok (.iload_n 1, 1) := by decide +kernel
theorem dX5_signs_2 : decode cX5_signs 2 = .ok (.invokevirtual 109, 3) := by decide +kernel
theorem dX5_signs_5 : decode cX5_signs 5 = .ok (.ifCond .eq 13, 3) := by decide +kernel
theorem dX5_signs_8 : decode cX5_signs 8 = .ok (.iload_n 2, 1) := by decide +kernel
theorem dX5_signs_9 : decode cX5_signs 9 = .ok (.iconst 0, 1) := by decide +kernel
theorem dX5_signs_10 : decode cX5_signs 10 = .ok (.bipush 29, 2) := by decide +kernel
theorem dX5_signs_12 : decode cX5_signs 12 = .ok (.invokestatic 48, 3) := by decide +kernel
theorem dX5_signs_15 : decode cX5_signs 15 = .ok (.ifCond .ne 11, 3) := by decide +kernel
theorem dX5_signs_18 : decode cX5_signs 18 = .ok (.aload_n 0, 1) := by decide +kernel
theorem dX5_signs_19 : decode cX5_signs 19 = .ok (.iconst 0, 1) := by decide +kernel
theorem dX5_signs_20 : decode cX5_signs 20 = .ok (.invokevirtual 103, 3) := by decide +kernel
theorem dX5_signs_23 : decode cX5_signs 23 = .ok (.goto 17, 3) := by decide +kernel
theorem dX5_signs_26 : decode cX5_signs 26 = .ok (.aload_n 0, 1) := by decide +kernel
theorem dX5_signs_27 : decode cX5_signs 27 = .ok (.iload_n 1, 1) := by decide +kernel
theorem dX5_signs_28 : decode cX5_signs 28 = .ok (.iload_n 2, 1) := by decide +kernel
theorem dX5_signs_29 : decode cX5_signs 29 = .ok (.invokevirtual 56, 3) := by decide +kernel
theorem dX5_signs_32 : decode cX5_signs 32 = .ok (.ifCond .eq 7, 3) := by decide +kernel
theorem dX5_signs_35 : decode cX5_signs 35 = .ok (.iconst 1, 1) := by decide +kernel
theorem dX5_signs_36 : decode cX5_signs 36 = .ok (.goto 4, 3) := by decide +kernel
theorem dX5_signs_39 : decode cX5_signs 39 = .ok (.iconst 0, 1) := by decide +kernel
theorem dX5_signs_40 : decode cX5_signs 40 = .ok (.ireturn, 1) := by decide +kernel
set_option maxRecDepth 20000 in
set_option maxHeartbeats 4000000 in
theorem c_X5_signs {K : Cx} {p t : Int32} {n8 : Nat} {m : TM} (hI : Iv n8 (m.1 50)) : CT yX5_signs cX5_signs 3 (some .int) 2 47 K [.ref 49, .int p, .int t] (m) (some (.int ((if (outI p 0 (m.1 50 1 - 1) || outI t 0 29) = true then (-1000001) else bI (sg (m.1 50 (12 + 7 * cl p + 0)) (m.1 50 (12 + 7 * cl p + 1)) (m.1 50 (12 + 7 * cl p + 2)) (m.1 50 (12 + 7 * cl p + 6)) (m.1 50 0) t))))) ((if (outI p 0 (m.1 50 1 - 1) || outI t 0 29) = true then fnm m 0 else m)) := by
  refine ct_ofd (n := 0) (by decide +kernel) rfl rfl ?_
  show XX RX5 cX5_signs 3 (some .int) 2 47 K 0 [some (.ref 49), some (.int p), some (.int t)] [] (m) (fun r1 m1 => r1 = (some (.int ((if (outI p 0 (m.1 50 1 - 1) || outI t 0 29) = true then (-1000001) else bI (sg (m.1 50 (12 + 7 * cl p + 0)) (m.1 50 (12 + 7 * cl p + 1)) (m.1 50 (12 + 7 * cl p + 2)) (m.1 50 (12 + 7 * cl p + 6)) (m.1 50 0) t))))) ∧ m1 = (if (outI p 0 (m.1 50 1 - 1) || outI t 0 29) = true then fnm m 0 else m))
  refine x_aload_n (q := 1) dX5_signs_0 rfl rfl ?_
  refine x_iload_n (q := 2) dX5_signs_1 rfl rfl ?_
  refine x_callV1v (q := 5) dX5_signs_2 rfl ml_X5_109 mv_X5_isParcel rv5 rfl c_X5_isParcel (Nat.le_of_ble_eq_true rfl) ⟨by decide, by decide⟩ ?_
  refine x_ifB_eq (q := 8) (t := 18) dX5_signs_5 rfl (by decide) (fun h5 => ?_) (fun h5 => ?_)
  · replace h5 := in_f h5
    refine x_aload_n (q := 19) dX5_signs_18 rfl rfl ?_
    refine x_iconst (q := 20) (v := 0) dX5_signs_19 rfl (by decide) ?_
    refine x_callV1v (q := 23) dX5_signs_20 rfl ml_X5_103 mv_X5_no rv5 rfl (c_X5_nox (w := 0) (x := -1000001) (by decide) (by decide)) (Nat.le_of_ble_eq_true rfl) ⟨by decide, by decide⟩ ?_
    refine x_goto (q := 40) dX5_signs_23 (by decide) ?_
    refine x_ireturn dX5_signs_40 rfl rfl ?_
    exact ⟨by simp [h5], by simp [h5]⟩
  replace h5 := in_t h5
  refine x_iload_n (q := 9) dX5_signs_8 rfl rfl ?_
  refine x_iconst (q := 10) (v := 0) dX5_signs_9 rfl (by decide) ?_
  refine x_bipush (q := 12) (v := 29) dX5_signs_10 rfl (by decide) ?_
  refine x_callS3v (q := 15) dX5_signs_12 rfl ml_X5_48 ms_X5_in1 c_X5_in1 (Nat.le_of_ble_eq_true rfl) ⟨by decide, by decide⟩ ?_
  refine x_ifB_ne (q := 18) (t := 26) dX5_signs_15 rfl (by decide) (fun h15 => ?_) (fun h15 => ?_)
  · replace h15 := in_t h15
    obtain ⟨k, hk, rfl⟩ : ∃ k, k < n8 ∧ p = nI k := ⟨cl p, (par_k hI.2.1 hI.1 h5).2, par_nI hI.2.1 hI.1 h5⟩
    have hk8 : k < 8 := by have := hI.1; omega
    have ek : cl (nI k) = k := jnI_clamp (by omega)
    refine x_aload_n (q := 27) dX5_signs_26 rfl rfl ?_
    refine x_iload_n (q := 28) dX5_signs_27 rfl rfl ?_
    refine x_iload_n (q := 29) dX5_signs_28 rfl rfl ?_
    refine x_callV2v (q := 32) dX5_signs_29 rfl ml_X5_56 mv_X5_isSigned rv5 rfl (p_X5_isSigned hk8) (Nat.le_of_ble_eq_true rfl) ⟨by decide, by decide⟩ ?_
    refine x_ifB_eq (q := 35) (t := 39) dX5_signs_32 rfl (by decide) (fun h32 => ?_) (fun h32 => ?_)
    · refine x_iconst (q := 40) (v := 0) dX5_signs_39 rfl (by decide) ?_
      refine x_ireturn dX5_signs_40 rfl rfl ?_
      exact ⟨by rw [if_neg (by rw [h5, h15]; decide), ek, h32]; rfl, by simp [h5, h15]⟩
    refine x_iconst (q := 36) (v := 1) dX5_signs_35 rfl (by decide) ?_
    refine x_goto (q := 40) dX5_signs_36 (by decide) ?_
    refine x_ireturn dX5_signs_40 rfl rfl ?_
    exact ⟨by rw [if_neg (by rw [h5, h15]; decide), ek, h32]; rfl, by simp [h5, h15]⟩
  replace h15 := in_f h15
  refine x_aload_n (q := 19) dX5_signs_18 rfl rfl ?_
  refine x_iconst (q := 20) (v := 0) dX5_signs_19 rfl (by decide) ?_
  refine x_callV1v (q := 23) dX5_signs_20 rfl ml_X5_103 mv_X5_no rv5 rfl (c_X5_nox (w := 0) (x := -1000001) (by decide) (by decide)) (Nat.le_of_ble_eq_true rfl) ⟨by decide, by decide⟩ ?_
  refine x_goto (q := 40) dX5_signs_23 (by decide) ?_
  refine x_ireturn dX5_signs_40 rfl rfl ?_
  exact ⟨by simp [h5, h15], by simp [h5, h15]⟩
theorem dX5_onLine_0 : decode cX5_onLine 0 = .ok (.iload_n 1, 1) := by decide +kernel
theorem dX5_onLine_1 : decode cX5_onLine 1 = .ok (.invokestatic 100, 3) := by decide +kernel
theorem dX5_onLine_4 : decode cX5_onLine 4 = .ok (.ifCond .ne 9, 3) := by decide +kernel
theorem dX5_onLine_7 : decode cX5_onLine 7 = .ok (.aload_n 0, 1) := by decide +kernel
theorem dX5_onLine_8 : decode cX5_onLine 8 = .ok (.iconst 0, 1) := by decide +kernel
theorem dX5_onLine_9 : decode cX5_onLine 9 = .ok (.invokevirtual 103, 3) := by decide +kernel
theorem dX5_onLine_12 : decode cX5_onLine 12 = .ok (.ireturn, 1) := by decide +kernel
theorem dX5_onLine_13 : decode cX5_onLine 13 = .ok (.iconst 0, 1) := by decide +kernel
theorem dX5_onLine_14 : decode cX5_onLine 14 = .ok (.istore_n 2, 1) := by decide +kernel
theorem dX5_onLine_15 : decode cX5_onLine 15 = .ok (.iconst 0, 1) := by decide +kernel
theorem dX5_onLine_16 : decode cX5_onLine 16 = .ok (.istore_n 3, 1) := by decide +kernel
theorem dX5_onLine_17 : decode cX5_onLine 17 = .ok (.iload_n 3, 1) := by decide +kernel
theorem dX5_onLine_18 : decode cX5_onLine 18 = .ok (.aload_n 0, 1) := by decide +kernel
theorem dX5_onLine_19 : decode cX5_onLine 19 = .ok (.getfield 9, 3) := by decide +kernel
theorem dX5_onLine_22 : decode cX5_onLine 22 = .ok (.iconst 1, 1) := by decide +kernel
theorem dX5_onLine_23 : decode cX5_onLine 23 = .ok (.iaload, 1) := by decide +kernel
theorem dX5_onLine_24 : decode cX5_onLine 24 = .ok (.if_icmp .ge 38, 3) := by decide +kernel
theorem dX5_onLine_27 : decode cX5_onLine 27 = .ok (.iload_n 2, 1) := by decide +kernel
theorem dX5_onLine_28 : decode cX5_onLine 28 = .ok (.aload_n 0, 1) := by decide +kernel
theorem dX5_onLine_29 : decode cX5_onLine 29 = .ok (.iload_n 3, 1) := by decide +kernel
theorem dX5_onLine_30 : decode cX5_onLine 30 = .ok (.iconst 4, 1) := by decide +kernel
theorem dX5_onLine_31 : decode cX5_onLine 31 = .ok (.invokevirtual 52, 3) := by decide +kernel
theorem dX5_onLine_34 : decode cX5_onLine 34 = .ok (.ifCond .ne 19, 3) := by decide +kernel
theorem dX5_onLine_37 : decode cX5_onLine 37 = .ok (.aload_n 0, 1) := by decide +kernel
theorem dX5_onLine_38 : decode cX5_onLine 38 = .ok (.iload_n 3, 1) := by decide +kernel
theorem dX5_onLine_39 : decode cX5_onLine 39 = .ok (.iconst 1, 1) := by decide +kernel
theorem dX5_onLine_40 : decode cX5_onLine 40 = .ok (.invokevirtual 52, 3) := by decide +kernel
theorem dX5_onLine_43 : decode cX5_onLine 43 = .ok (.iload_n 1, 1) := by decide +kernel
theorem dX5_onLine_44 : decode cX5_onLine 44 = .ok (.if_icmp .ne 9, 3) := by decide +kernel
theorem dX5_onLine_47 : decode cX5_onLine 47 = .ok (.iconst 1, 1) := by decide +kernel
theorem dX5_onLine_48 : decode cX5_onLine 48 = .ok (.iload_n 3, 1) := by decide +kernel
theorem dX5_onLine_49 : decode cX5_onLine 49 = .ok (.ishl, 1) := by decide +kernel
theorem dX5_onLine_50 : decode cX5_onLine 50 = .ok (.goto 4, 3) := by decide +kernel
theorem dX5_onLine_53 : decode cX5_onLine 53 = .ok (.iconst 0, 1) := by decide +kernel
theorem dX5_onLine_54 : decode cX5_onLine 54 = .ok (.ior, 1) := by decide +kernel
theorem dX5_onLine_55 : decode cX5_onLine 55 = .ok (.istore_n 2, 1) := by decide +kernel
theorem dX5_onLine_56 : decode cX5_onLine 56 = .ok (.iinc 3 1, 3) := by decide +kernel
theorem dX5_onLine_59 : decode cX5_onLine 59 = .ok (.goto (-42), 3) := by decide +kernel
theorem dX5_onLine_62 : decode cX5_onLine 62 = .ok (.iload_n 2, 1) := by decide +kernel
theorem dX5_onLine_63 : decode cX5_onLine 63 = .ok (.ireturn, 1) := by decide +kernel
set_option maxRecDepth 20000 in
set_option maxHeartbeats 4000000 in
theorem l_X5_onLine {K : Cx} {n8 : Nat} {x : Int32} {s : Nat → Int32} {m : TM} (hn : s 1 = nI n8) (h8 : n8 ≤ 8) : ∀ (n : Nat) (j : Nat), n8 - j < n → j ≤ n8 → XX RX5 cX5_onLine 4 (some .int) 2 42 K 17 [some (.ref 49), some (.int x), some (.int (lyF s x j)), some (.int (nI j))] [] (sr m 50 s) (fun r1 m1 => r1 = (some (.int (lyF s x n8))) ∧ m1 = sr m 50 s) := by
  intro n
  induction n with
  | zero => intro j hlt; exact absurd hlt (Nat.not_lt_zero _)
  | succ n ih =>
    intro j hlt hj
    refine x_iload_n (q := 18) dX5_onLine_17 rfl rfl ?_
    refine x_aload_n (q := 19) dX5_onLine_18 rfl rfl ?_
    refine x_getR (q := 22) dX5_onLine_19 rfl fl_X5_9 (or5_s) ?_
    refine x_iconst (q := 23) (v := 1) dX5_onLine_22 rfl (by decide) ?_
    refine x_ialdr (q := 24) dX5_onLine_23 rfl (ar_50) (ix_nI (k := 1) (by decide) (by decide)) (Nat.zero_add _) ?_
    refine x_icmp_ge (q := 27) (t := 62) dX5_onLine_24 rfl (by decide) (fun h24 => ?_) (fun h24 => ?_)
    · refine x_iload_n (q := 63) dX5_onLine_62 rfl rfl ?_
      refine x_ireturn dX5_onLine_63 rfl rfl ?_
      have e : j = n8 := Nat.le_antisymm hj (lp_stop hn (by omega) (by omega) h24)
      subst e
      exact ⟨rfl, rfl⟩
    have hjn : j < n8 := lp_go hn (by omega) (by omega) h24
    have hk : j < 8 := by omega
    refine x_iload_n (q := 28) dX5_onLine_27 rfl rfl ?_
    refine x_aload_n (q := 29) dX5_onLine_28 rfl rfl ?_
    refine x_iload_n (q := 30) dX5_onLine_29 rfl rfl ?_
    refine x_iconst (q := 31) (v := 4) dX5_onLine_30 rfl (by decide) ?_
    refine x_callV2v (q := 34) dX5_onLine_31 rfl ml_X5_52 mv_X5_get rv5 rfl (c_X5_getr (f := 4) hk (by decide)) (Nat.le_of_ble_eq_true rfl) ⟨by decide, by decide⟩ ?_
    refine x_if_ne (q := 37) (t := 53) dX5_onLine_34 rfl (by decide) (fun h34 => ?_) (fun h34 => ?_)
    · refine x_iconst (q := 54) (v := 0) dX5_onLine_53 rfl (by decide) ?_
      refine x_ior (q := 55) dX5_onLine_54 rfl ?_
      refine x_istore_n (q := 56) dX5_onLine_55 rfl (by decide) rfl rfl ?_
      refine x_iinc (q := 59) (v := nI (j + 1)) dX5_onLine_56 rfl rfl (jnI_s j) (by decide) rfl rfl ?_
      refine x_goto (q := 17) dX5_onLine_59 (by decide) ?_
      have key := ih (j + 1) (by omega) (by omega)
      simp only [lyF, h34, if_true, if_false, and_self, and_true, and_false, true_and, false_and] at key
      rw [or0]
      exact key
    refine x_aload_n (q := 38) dX5_onLine_37 rfl rfl ?_
    refine x_iload_n (q := 39) dX5_onLine_38 rfl rfl ?_
    refine x_iconst (q := 40) (v := 1) dX5_onLine_39 rfl (by decide) ?_
    refine x_callV2v (q := 43) dX5_onLine_40 rfl ml_X5_52 mv_X5_get rv5 rfl (c_X5_getr (f := 1) hk (by decide)) (Nat.le_of_ble_eq_true rfl) ⟨by decide, by decide⟩ ?_
    refine x_iload_n (q := 44) dX5_onLine_43 rfl rfl ?_
    refine x_icmp_ne (q := 47) (t := 53) dX5_onLine_44 rfl (by decide) (fun h44 => ?_) (fun h44 => ?_)
    · refine x_iconst (q := 54) (v := 0) dX5_onLine_53 rfl (by decide) ?_
      refine x_ior (q := 55) dX5_onLine_54 rfl ?_
      refine x_istore_n (q := 56) dX5_onLine_55 rfl (by decide) rfl rfl ?_
      refine x_iinc (q := 59) (v := nI (j + 1)) dX5_onLine_56 rfl rfl (jnI_s j) (by decide) rfl rfl ?_
      refine x_goto (q := 17) dX5_onLine_59 (by decide) ?_
      have key := ih (j + 1) (by omega) (by omega)
      simp only [lyF, h34, h44, if_true, if_false, and_self, and_true, and_false, true_and, false_and] at key
      rw [or0]
      exact key
    refine x_iconst (q := 48) (v := 1) dX5_onLine_47 rfl (by decide) ?_
    refine x_iload_n (q := 49) dX5_onLine_48 rfl rfl ?_
    refine x_ishl (q := 50) dX5_onLine_49 rfl ?_
    refine x_goto (q := 54) dX5_onLine_50 (by decide) ?_
    refine x_ior (q := 55) dX5_onLine_54 rfl ?_
    refine x_istore_n (q := 56) dX5_onLine_55 rfl (by decide) rfl rfl ?_
    refine x_iinc (q := 59) (v := nI (j + 1)) dX5_onLine_56 rfl rfl (jnI_s j) (by decide) rfl rfl ?_
    refine x_goto (q := 17) dX5_onLine_59 (by decide) ?_
    have key := ih (j + 1) (by omega) (by omega)
    simp only [lyF, h34, h44, if_true, if_false, and_self, and_true, and_false, true_and, false_and] at key
    exact key
set_option maxRecDepth 20000 in
set_option maxHeartbeats 4000000 in
theorem c_X5_onLine {K : Cx} {x : Int32} {n8 : Nat} {m : TM} (hI : Iv n8 (m.1 50)) : CT yX5_onLine cX5_onLine 4 (some .int) 2 42 K [.ref 49, .int x] (m) (some (.int ((if (outI x 0 20) = true then (-1000001) else lyF (m.1 50) x n8)))) ((if (outI x 0 20) = true then fnm m 0 else m)) := by
  refine ct_ofd (n := 2) (by decide +kernel) rfl rfl ?_
  show XX RX5 cX5_onLine 4 (some .int) 2 42 K 0 [some (.ref 49), some (.int x), none, none] [] (m) (fun r1 m1 => r1 = (some (.int ((if (outI x 0 20) = true then (-1000001) else lyF (m.1 50) x n8)))) ∧ m1 = (if (outI x 0 20) = true then fnm m 0 else m))
  refine x_iload_n (q := 1) dX5_onLine_0 rfl rfl ?_
  refine x_callS1v (q := 4) dX5_onLine_1 rfl ml_X5_100 ms_X5_isLine c_X5_isLine (Nat.le_of_ble_eq_true rfl) ⟨by decide, by decide⟩ ?_
  refine x_ifB_ne (q := 7) (t := 13) dX5_onLine_4 rfl (by decide) (fun h4 => ?_) (fun h4 => ?_)
  · replace h4 := in_t h4
    refine x_iconst (q := 14) (v := 0) dX5_onLine_13 rfl (by decide) ?_
    refine x_istore_n (q := 15) dX5_onLine_14 rfl (by decide) rfl rfl ?_
    refine x_iconst (q := 16) (v := 0) dX5_onLine_15 rfl (by decide) ?_
    refine x_istore_n (q := 17) dX5_onLine_16 rfl (by decide) rfl rfl ?_
    rw [if_neg (by rw [h4]; decide), if_neg (by rw [h4]; decide)]
    have h := l_X5_onLine (K := K) (m := m) (s := m.1 50) (x := x) hI.2.1 hI.1 (n8 + 1) 0 (by omega) (by omega)
    rw [sr_self] at h
    exact h
  replace h4 := in_f h4
  refine x_aload_n (q := 8) dX5_onLine_7 rfl rfl ?_
  refine x_iconst (q := 9) (v := 0) dX5_onLine_8 rfl (by decide) ?_
  refine x_callV1v (q := 12) dX5_onLine_9 rfl ml_X5_103 mv_X5_no rv5 rfl (c_X5_nox (w := 0) (x := -1000001) (by decide) (by decide)) (Nat.le_of_ble_eq_true rfl) ⟨by decide, by decide⟩ ?_
  refine x_ireturn dX5_onLine_12 rfl rfl ?_
  exact ⟨by simp [h4], by simp [h4]⟩
theorem dX5_now_0 : decode cX5_now 0 = .ok (.iload_n 1, 1) := by decide +kernel
theorem dX5_now_1 : decode cX5_now 1 = .ok (.tableswitch 86 0 7 #[47, 54, 61, 68, 68, 68, 76, 81], 47) := by decide +kernel
theorem dX5_now_48 : decode cX5_now 48 = .ok (.aload_n 0, 1) := by decide +kernel
theorem dX5_now_49 : decode cX5_now 49 = .ok (.getfield 9, 3) := by decide +kernel
theorem dX5_now_52 : decode cX5_now 52 = .ok (.iconst 0, 1) := by decide +kernel
theorem dX5_now_53 : decode cX5_now 53 = .ok (.iaload, 1) := by decide +kernel
theorem dX5_now_54 : decode cX5_now 54 = .ok (.ireturn, 1) := by decide +kernel
theorem dX5_now_55 : decode cX5_now 55 = .ok (.aload_n 0, 1) := by decide +kernel
theorem dX5_now_56 : decode cX5_now 56 = .ok (.getfield 9, 3) := by decide +kernel
theorem dX5_now_59 : decode cX5_now 59 = .ok (.iconst 3, 1) := by decide +kernel
theorem dX5_now_60 : decode cX5_now 60 = .ok (.iaload, 1) := by decide +kernel
theorem dX5_now_61 : decode cX5_now 61 = .ok (.ireturn, 1) := by decide +kernel
theorem dX5_now_62 : decode cX5_now 62 = .ok (.aload_n 0, 1) := by decide +kernel
theorem dX5_now_63 : decode cX5_now 63 = .ok (.getfield 9, 3) := by decide +kernel
theorem dX5_now_66 : decode cX5_now 66 = .ok (.iconst 4, 1) := by decide +kernel
theorem dX5_now_67 : decode cX5_now 67 = .ok (.iaload, 1) := by decide +kernel
theorem dX5_now_68 : decode cX5_now 68 = .ok (.ireturn, 1) := by decide +kernel
theorem dX5_now_69 : decode cX5_now 69 = .ok (.aload_n 0, 1) := by decide +kernel
theorem dX5_now_70 : decode cX5_now 70 = .ok (.iload_n 1, 1) := by decide +kernel
theorem dX5_now_71 : decode cX5_now 71 = .ok (.iconst 3, 1) := by decide +kernel
theorem dX5_now_72 : decode cX5_now 72 = .ok (.isub, 1) := by decide +kernel
theorem dX5_now_73 : decode cX5_now 73 = .ok (.invokevirtual 118, 3) := by decide +kernel
theorem dX5_now_76 : decode cX5_now 76 = .ok (.ireturn, 1) := by decide +kernel
theorem dX5_now_77 : decode cX5_now 77 = .ok (.aload_n 0, 1) := by decide +kernel
theorem dX5_now_78 : decode cX5_now 78 = .ok (.invokevirtual 81, 3) := by decide +kernel
theorem dX5_now_81 : decode cX5_now 81 = .ok (.ireturn, 1) := by decide +kernel
theorem dX5_now_82 : decode cX5_now 82 = .ok (.aload_n 0, 1) := by decide +kernel
theorem dX5_now_83 : decode cX5_now 83 = .ok (.invokevirtual 121, 3) := by decide +kernel
theorem dX5_now_86 : decode cX5_now 86 = .ok (.ireturn, 1) := by decide +kernel
theorem dX5_now_87 : decode cX5_now 87 = .ok (.aload_n 0, 1) := by decide +kernel
theorem dX5_now_88 : decode cX5_now 88 = .ok (.iconst 0, 1) := by decide +kernel
theorem dX5_now_89 : decode cX5_now 89 = .ok (.invokevirtual 103, 3) := by decide +kernel
theorem dX5_now_92 : decode cX5_now 92 = .ok (.ireturn, 1) := by decide +kernel
set_option maxRecDepth 20000 in
set_option maxHeartbeats 4000000 in
theorem c_X5_now {K : Cx} {x : Int32} {n8 : Nat} {m : TM} (hI : Iv n8 (m.1 50)) : CT yX5_now cX5_now 2 (some .int) 2 45 K [.ref 49, .int x] (m) (some (.int (if x = 0 then m.1 50 0 else if x = 1 then m.1 50 3 else if x = 2 then m.1 50 4 else if x = 3 then thF (m.1 50) 0 n8 else if x = 4 then thF (m.1 50) 1 n8 else if x = 5 then thF (m.1 50) 2 n8 else if x = 6 then tdF (m.1 50) else if x = 7 then weF (m.1 50) n8 else -1000001))) (if outI x 0 7 = true then fnm m 0 else m) := by
  refine ct_ofd (n := 0) (by decide +kernel) rfl rfl ?_
  show XX RX5 cX5_now 2 (some .int) 2 45 K 0 [some (.ref 49), some (.int x)] [] (m) (fun r1 m1 => r1 = (some (.int (if x = 0 then m.1 50 0 else if x = 1 then m.1 50 3 else if x = 2 then m.1 50 4 else if x = 3 then thF (m.1 50) 0 n8 else if x = 4 then thF (m.1 50) 1 n8 else if x = 5 then thF (m.1 50) 2 n8 else if x = 6 then tdF (m.1 50) else if x = 7 then weF (m.1 50) n8 else -1000001))) ∧ m1 = if outI x 0 7 = true then fnm m 0 else m)
  refine x_iload_n (q := 1) dX5_now_0 rfl rfl ?_
  by_cases h1_0 : x = 0
  · refine x_tswC (q := 48) (k := 0) dX5_now_1 h1_0 (by decide) (by decide) rfl (by decide) ?_
    refine x_aload_n (q := 49) dX5_now_48 rfl rfl ?_
    refine x_getR (q := 52) dX5_now_49 rfl fl_X5_9 (or5_s) ?_
    refine x_iconst (q := 53) (v := 0) dX5_now_52 rfl (by decide) ?_
    refine x_iald (q := 54) dX5_now_53 rfl (ar_50) (ix_nI (k := 0) (by decide) (by decide)) (Nat.zero_add _) ?_
    refine x_ireturn dX5_now_54 rfl rfl ?_
    exact ⟨by simp [h1_0], by rw [h1_0]; rfl⟩
  by_cases h1_1 : x = 1
  · refine x_tswC (q := 55) (k := 1) dX5_now_1 h1_1 (by decide) (by decide) rfl (by decide) ?_
    refine x_aload_n (q := 56) dX5_now_55 rfl rfl ?_
    refine x_getR (q := 59) dX5_now_56 rfl fl_X5_9 (or5_s) ?_
    refine x_iconst (q := 60) (v := 3) dX5_now_59 rfl (by decide) ?_
    refine x_iald (q := 61) dX5_now_60 rfl (ar_50) (ix_nI (k := 3) (by decide) (by decide)) (Nat.zero_add _) ?_
    refine x_ireturn dX5_now_61 rfl rfl ?_
    exact ⟨by simp [h1_0, h1_1], by rw [h1_1]; rfl⟩
  by_cases h1_2 : x = 2
  · refine x_tswC (q := 62) (k := 2) dX5_now_1 h1_2 (by decide) (by decide) rfl (by decide) ?_
    refine x_aload_n (q := 63) dX5_now_62 rfl rfl ?_
    refine x_getR (q := 66) dX5_now_63 rfl fl_X5_9 (or5_s) ?_
    refine x_iconst (q := 67) (v := 4) dX5_now_66 rfl (by decide) ?_
    refine x_iald (q := 68) dX5_now_67 rfl (ar_50) (ix_nI (k := 4) (by decide) (by decide)) (Nat.zero_add _) ?_
    refine x_ireturn dX5_now_68 rfl rfl ?_
    exact ⟨by simp [h1_0, h1_1, h1_2], by rw [h1_2]; rfl⟩
  by_cases h1_3 : x = 3
  · refine x_tswC (q := 69) (k := 3) dX5_now_1 h1_3 (by decide) (by decide) rfl (by decide) ?_
    refine x_aload_n (q := 70) dX5_now_69 rfl rfl ?_
    refine x_iload_n (q := 71) dX5_now_70 rfl rfl ?_
    refine x_iconst (q := 72) (v := 3) dX5_now_71 rfl (by decide) ?_
    refine x_isub (q := 73) dX5_now_72 rfl ?_
    refine x_callV1v (q := 76) dX5_now_73 rfl ml_X5_118 mv_X5_those rv5 rfl (p_X5_those hI.2.1 hI.1) (Nat.le_of_ble_eq_true rfl) ⟨by decide, by decide⟩ ?_
    refine x_ireturn dX5_now_76 rfl rfl ?_
    exact ⟨by rw [h1_3]; rfl, by rw [h1_3]; rfl⟩
  by_cases h1_4 : x = 4
  · refine x_tswC (q := 69) (k := 4) dX5_now_1 h1_4 (by decide) (by decide) rfl (by decide) ?_
    refine x_aload_n (q := 70) dX5_now_69 rfl rfl ?_
    refine x_iload_n (q := 71) dX5_now_70 rfl rfl ?_
    refine x_iconst (q := 72) (v := 3) dX5_now_71 rfl (by decide) ?_
    refine x_isub (q := 73) dX5_now_72 rfl ?_
    refine x_callV1v (q := 76) dX5_now_73 rfl ml_X5_118 mv_X5_those rv5 rfl (p_X5_those hI.2.1 hI.1) (Nat.le_of_ble_eq_true rfl) ⟨by decide, by decide⟩ ?_
    refine x_ireturn dX5_now_76 rfl rfl ?_
    exact ⟨by rw [h1_4]; rfl, by rw [h1_4]; rfl⟩
  by_cases h1_5 : x = 5
  · refine x_tswC (q := 69) (k := 5) dX5_now_1 h1_5 (by decide) (by decide) rfl (by decide) ?_
    refine x_aload_n (q := 70) dX5_now_69 rfl rfl ?_
    refine x_iload_n (q := 71) dX5_now_70 rfl rfl ?_
    refine x_iconst (q := 72) (v := 3) dX5_now_71 rfl (by decide) ?_
    refine x_isub (q := 73) dX5_now_72 rfl ?_
    refine x_callV1v (q := 76) dX5_now_73 rfl ml_X5_118 mv_X5_those rv5 rfl (p_X5_those hI.2.1 hI.1) (Nat.le_of_ble_eq_true rfl) ⟨by decide, by decide⟩ ?_
    refine x_ireturn dX5_now_76 rfl rfl ?_
    exact ⟨by rw [h1_5]; rfl, by rw [h1_5]; rfl⟩
  by_cases h1_6 : x = 6
  · refine x_tswC (q := 77) (k := 6) dX5_now_1 h1_6 (by decide) (by decide) rfl (by decide) ?_
    refine x_aload_n (q := 78) dX5_now_77 rfl rfl ?_
    refine x_callV0v (q := 81) dX5_now_78 rfl ml_X5_81 mv_X5_tideNow rv5 rfl (p_X5_tideNow hI.td) (Nat.le_of_ble_eq_true rfl) ⟨by decide, by decide⟩ ?_
    refine x_ireturn dX5_now_81 rfl rfl ?_
    exact ⟨by simp [h1_0, h1_1, h1_2, h1_3, h1_4, h1_5, h1_6], by rw [h1_6]; rfl⟩
  by_cases h1_7 : x = 7
  · refine x_tswC (q := 82) (k := 7) dX5_now_1 h1_7 (by decide) (by decide) rfl (by decide) ?_
    refine x_aload_n (q := 83) dX5_now_82 rfl rfl ?_
    refine x_callV0v (q := 86) dX5_now_83 rfl ml_X5_121 mv_X5_weightNow rv5 rfl (p_X5_weightNow hI.2.1 hI.1) (Nat.le_of_ble_eq_true rfl) ⟨by decide, by decide⟩ ?_
    refine x_ireturn dX5_now_86 rfl rfl ?_
    exact ⟨by simp [h1_0, h1_1, h1_2, h1_3, h1_4, h1_5, h1_6, h1_7], by rw [h1_7]; rfl⟩
  refine x_tswD (q := 87) dX5_now_1 (by have n0 := lv_neT h1_0 (a := 0) (by decide); have n1 := lv_neT h1_1 (a := 1) (by decide); have n2 := lv_neT h1_2 (a := 2) (by decide); have n3 := lv_neT h1_3 (a := 3) (by decide); have n4 := lv_neT h1_4 (a := 4) (by decide); have n5 := lv_neT h1_5 (a := 5) (by decide); have n6 := lv_neT h1_6 (a := 6) (by decide); have n7 := lv_neT h1_7 (a := 7) (by decide); omega) (by decide) ?_
  refine x_aload_n (q := 88) dX5_now_87 rfl rfl ?_
  refine x_iconst (q := 89) (v := 0) dX5_now_88 rfl (by decide) ?_
  refine x_callV1v (q := 92) dX5_now_89 rfl ml_X5_103 mv_X5_no rv5 rfl (c_X5_nox (w := 0) (x := -1000001) (by decide) (by decide)) (Nat.le_of_ble_eq_true rfl) ⟨by decide, by decide⟩ ?_
  refine x_ireturn dX5_now_92 rfl rfl ?_
  exact ⟨by simp [h1_0, h1_1, h1_2, h1_3, h1_4, h1_5, h1_6, h1_7], by rw [if_pos (sw_out h1_0 h1_1 h1_2 h1_3 h1_4 h1_5 h1_6 h1_7)]⟩
theorem dX5_seed_0 : decode cX5_seed 0 = .ok (.aload_n 0, 1) := by decide +kernel
theorem dX5_seed_1 : decode cX5_seed 1 = .ok (.getfield 9, 3) := by decide +kernel
theorem dX5_seed_4 : decode cX5_seed 4 = .ok (.iconst 2, 1) := by decide +kernel
theorem dX5_seed_5 : decode cX5_seed 5 = .ok (.iaload, 1) := by decide +kernel
theorem dX5_seed_6 : decode cX5_seed 6 = .ok (.istore_n 2, 1) := by decide +kernel
theorem dX5_seed_7 : decode cX5_seed 7 = .ok (.aload_n 0, 1) := by decide +kernel
theorem dX5_seed_8 : decode cX5_seed 8 = .ok (.getfield 9, 3) := by decide +kernel
theorem dX5_seed_11 : decode cX5_seed 11 = .ok (.iconst 2, 1) := by decide +kernel
theorem dX5_seed_12 : decode cX5_seed 12 = .ok (.iload_n 1, 1) := by decide +kernel
theorem dX5_seed_13 : decode cX5_seed 13 = .ok (.iastore, 1) := by decide +kernel
theorem dX5_seed_14 : decode cX5_seed 14 = .ok (.iload_n 2, 1) := by decide +kernel
theorem dX5_seed_15 : decode cX5_seed 15 = .ok (.ireturn, 1) := by decide +kernel
set_option maxRecDepth 20000 in
set_option maxHeartbeats 4000000 in
theorem c_X5_seed {K : Cx} {v : Int32} {m : TM} : CT yX5_seed cX5_seed 3 (some .int) 0 0 K [.ref 49, .int v] (m) (some (.int (m.1 50 2))) (sr m 50 (upd (m.1 50) 2 v)) := by
  refine ct_ofd (n := 1) (by decide +kernel) rfl rfl ?_
  show XX RX5 cX5_seed 3 (some .int) 0 0 K 0 [some (.ref 49), some (.int v), none] [] (m) (fun r1 m1 => r1 = (some (.int (m.1 50 2))) ∧ m1 = sr m 50 (upd (m.1 50) 2 v))
  refine x_aload_n (q := 1) dX5_seed_0 rfl rfl ?_
  refine x_getR (q := 4) dX5_seed_1 rfl fl_X5_9 (or5_s) ?_
  refine x_iconst (q := 5) (v := 2) dX5_seed_4 rfl (by decide) ?_
  refine x_iald (q := 6) dX5_seed_5 rfl (ar_50) (ix_nI (k := 2) (by decide) (by decide)) (Nat.zero_add _) ?_
  refine x_istore_n (q := 7) dX5_seed_6 rfl (by decide) rfl rfl ?_
  refine x_aload_n (q := 8) dX5_seed_7 rfl rfl ?_
  refine x_getR (q := 11) dX5_seed_8 rfl fl_X5_9 (or5_s) ?_
  refine x_iconst (q := 12) (v := 2) dX5_seed_11 rfl (by decide) ?_
  refine x_iload_n (q := 13) dX5_seed_12 rfl rfl ?_
  refine x_iast (q := 14) dX5_seed_13 rfl (ar_50) (ix_nI (k := 2) (by decide) (by decide)) (Nat.zero_add _) rfl ?_
  refine x_iload_n (q := 15) dX5_seed_14 rfl rfl ?_
  refine x_ireturn dX5_seed_15 rfl rfl ?_
  exact ⟨rfl, st1_eq⟩
theorem dX5_wipe_0 : decode cX5_wipe 0 = .ok (.aload_n 0, 1) := by decide +kernel
theorem dX5_wipe_1 : decode cX5_wipe 1 = .ok (.getfield 177, 3) := by decide +kernel
theorem dX5_wipe_4 : decode cX5_wipe 4 = .ok (.istore_n 1, 1) := by decide +kernel
theorem dX5_wipe_5 : decode cX5_wipe 5 = .ok (.aload_n 0, 1) := by decide +kernel
theorem dX5_wipe_6 : decode cX5_wipe 6 = .ok (.iconst 0, 1) := by decide +kernel
theorem dX5_wipe_7 : decode cX5_wipe 7 = .ok (.putfield 177, 3) := by decide +kernel
theorem dX5_wipe_10 : decode cX5_wipe 10 = .ok (.iload_n 1, 1) := by decide +kernel
theorem dX5_wipe_11 : decode cX5_wipe 11 = .ok (.ireturn, 1) := by decide +kernel
set_option maxRecDepth 20000 in
set_option maxHeartbeats 4000000 in
theorem c_X5_wipe {K : Cx} {m : TM} : CT yX5_wipe cX5_wipe 2 (some .int) 0 0 K [.ref 49] (m) (some (.int (m.1 49 6))) (st1 m 49 6 0) := by
  refine ct_ofd (n := 1) (by decide +kernel) rfl rfl ?_
  show XX RX5 cX5_wipe 2 (some .int) 0 0 K 0 [some (.ref 49), none] [] (m) (fun r1 m1 => r1 = (some (.int (m.1 49 6))) ∧ m1 = st1 m 49 6 0)
  refine x_aload_n (q := 1) dX5_wipe_0 rfl rfl ?_
  refine x_getI (q := 4) dX5_wipe_1 rfl fl_X5_177 (ob5_taped) ?_
  refine x_istore_n (q := 5) dX5_wipe_4 rfl (by decide) rfl rfl ?_
  refine x_aload_n (q := 6) dX5_wipe_5 rfl rfl ?_
  refine x_iconst (q := 7) (v := 0) dX5_wipe_6 rfl (by decide) ?_
  refine x_putI (q := 10) dX5_wipe_7 rfl fl_X5_177 (ob5_taped) rfl rfl rfl rfl ?_
  refine x_iload_n (q := 11) dX5_wipe_10 rfl rfl ?_
  refine x_ireturn dX5_wipe_11 rfl rfl ?_
  exact ⟨rfl, rfl⟩
theorem dX5_hold_0 : decode cX5_hold 0 = .ok (.iload_n 1, 1) := by decide +kernel
theorem dX5_hold_1 : decode cX5_hold 1 = .ok (.invokestatic 229, 3) := by decide +kernel
theorem dX5_hold_4 : decode cX5_hold 4 = .ok (.ifCond .eq 16, 3) := by decide +kernel
theorem dX5_hold_7 : decode cX5_hold 7 = .ok (.iload_n 2, 1) := by decide +kernel
theorem dX5_hold_8 : decode cX5_hold 8 = .ok (.iconst (-1), 1) := by decide +kernel
theorem dX5_hold_9 : decode cX5_hold 9 = .ok (.if_icmp .eq 17, 3) := by decide +kernel
theorem dX5_hold_12 : decode cX5_hold 12 = .ok (.aload_n 0, 1) := by decide +kernel
theorem dX5_hold_13 : decode cX5_hold 13 = .ok (.iload_n 2, 1) := by decide +kernel
theorem dX5_hold_14 : decode cX5_hold 14 = .ok (.invokevirtual 109, 3) := by decide +kernel
theorem dX5_hold_17 : decode cX5_hold 17 = .ok (.ifCond .ne 9, 3) := by decide +kernel
theorem dX5_hold_20 : decode cX5_hold 20 = .ok (.aload_n 0, 1) := by decide +kernel
theorem dX5_hold_21 : decode cX5_hold 21 = .ok (.iconst 0, 1) := by decide +kernel
theorem dX5_hold_22 : decode cX5_hold 22 = .ok (.invokevirtual 103, 3) := by decide +kernel
theorem dX5_hold_25 : decode cX5_hold 25 = .ok (.ireturn, 1) := by decide +kernel
theorem dX5_hold_26 : decode cX5_hold 26 = .ok (.aload_n 0, 1) := by decide +kernel
theorem dX5_hold_27 : decode cX5_hold 27 = .ok (.getfield 9, 3) := by decide +kernel
theorem dX5_hold_30 : decode cX5_hold 30 = .ok (.bipush 68, 2) := by decide +kernel
theorem dX5_hold_32 : decode cX5_hold 32 = .ok (.iload_n 1, 1) := by decide +kernel
theorem dX5_hold_33 : decode cX5_hold 33 = .ok (.iadd, 1) := by decide +kernel
theorem dX5_hold_34 : decode cX5_hold 34 = .ok (.iload_n 2, 1) := by decide +kernel
theorem dX5_hold_35 : decode cX5_hold 35 = .ok (.iastore, 1) := by decide +kernel
theorem dX5_hold_36 : decode cX5_hold 36 = .ok (.iconst 1, 1) := by decide +kernel
theorem dX5_hold_37 : decode cX5_hold 37 = .ok (.ireturn, 1) := by decide +kernel
set_option maxRecDepth 20000 in
set_option maxHeartbeats 4000000 in
theorem c_X5_hold {K : Cx} {x p : Int32} {m : TM} : CT yX5_hold cX5_hold 3 (some .int) 2 43 K [.ref 49, .int x, .int p] (m) (some (.int ((if (outI x 0 9 || (!decide (p = -1) && outI p 0 (m.1 50 1 - 1))) = true then (-1000001) else 1)))) ((if (outI x 0 9 || (!decide (p = -1) && outI p 0 (m.1 50 1 - 1))) = true then fnm m 0 else sr m 50 (upd (m.1 50) (68 + cl x) p))) := by
  refine ct_ofd (n := 0) (by decide +kernel) rfl rfl ?_
  show XX RX5 cX5_hold 3 (some .int) 2 43 K 0 [some (.ref 49), some (.int x), some (.int p)] [] (m) (fun r1 m1 => r1 = (some (.int ((if (outI x 0 9 || (!decide (p = -1) && outI p 0 (m.1 50 1 - 1))) = true then (-1000001) else 1)))) ∧ m1 = (if (outI x 0 9 || (!decide (p = -1) && outI p 0 (m.1 50 1 - 1))) = true then fnm m 0 else sr m 50 (upd (m.1 50) (68 + cl x) p)))
  refine x_iload_n (q := 1) dX5_hold_0 rfl rfl ?_
  refine x_callS1v (q := 4) dX5_hold_1 rfl ml_X5_229 ms_X5_isSpot c_X5_isSpot (Nat.le_of_ble_eq_true rfl) ⟨by decide, by decide⟩ ?_
  refine x_ifB_eq (q := 7) (t := 20) dX5_hold_4 rfl (by decide) (fun h4 => ?_) (fun h4 => ?_)
  · replace h4 := in_f h4
    refine x_aload_n (q := 21) dX5_hold_20 rfl rfl ?_
    refine x_iconst (q := 22) (v := 0) dX5_hold_21 rfl (by decide) ?_
    refine x_callV1v (q := 25) dX5_hold_22 rfl ml_X5_103 mv_X5_no rv5 rfl (c_X5_nox (w := 0) (x := -1000001) (by decide) (by decide)) (Nat.le_of_ble_eq_true rfl) ⟨by decide, by decide⟩ ?_
    refine x_ireturn dX5_hold_25 rfl rfl ?_
    exact ⟨by simp [h4, st1_eq], by simp [h4, st1_eq]⟩
  replace h4 := in_t h4
  refine x_iload_n (q := 8) dX5_hold_7 rfl rfl ?_
  refine x_iconst (q := 9) (v := (-1)) dX5_hold_8 rfl (by decide) ?_
  refine x_icmp_eq (q := 12) (t := 26) dX5_hold_9 rfl (by decide) (fun h9 => ?_) (fun h9 => ?_)
  · refine x_aload_n (q := 27) dX5_hold_26 rfl rfl ?_
    refine x_getR (q := 30) dX5_hold_27 rfl fl_X5_9 (or5_s) ?_
    refine x_bipush (q := 32) (v := 68) dX5_hold_30 rfl (by decide) ?_
    refine x_iload_n (q := 33) dX5_hold_32 rfl rfl ?_
    refine x_iadd (q := 34) dX5_hold_33 rfl ?_
    refine x_iload_n (q := 35) dX5_hold_34 rfl rfl ?_
    refine x_iast (q := 36) dX5_hold_35 rfl (ar_50) (ix_off 68 (ix_out h4 (n := 10) (by decide)) (by decide) (by decide)) (Nat.zero_add _) rfl ?_
    refine x_iconst (q := 37) (v := 1) dX5_hold_36 rfl (by decide) ?_
    refine x_ireturn dX5_hold_37 rfl rfl ?_
    exact ⟨by simp [h4, h9, st1_eq], by simp [h4, h9, st1_eq]⟩
  refine x_aload_n (q := 13) dX5_hold_12 rfl rfl ?_
  refine x_iload_n (q := 14) dX5_hold_13 rfl rfl ?_
  refine x_callV1v (q := 17) dX5_hold_14 rfl ml_X5_109 mv_X5_isParcel rv5 rfl c_X5_isParcel (Nat.le_of_ble_eq_true rfl) ⟨by decide, by decide⟩ ?_
  refine x_ifB_ne (q := 20) (t := 26) dX5_hold_17 rfl (by decide) (fun h17 => ?_) (fun h17 => ?_)
  · replace h17 := in_t h17
    refine x_aload_n (q := 27) dX5_hold_26 rfl rfl ?_
    refine x_getR (q := 30) dX5_hold_27 rfl fl_X5_9 (or5_s) ?_
    refine x_bipush (q := 32) (v := 68) dX5_hold_30 rfl (by decide) ?_
    refine x_iload_n (q := 33) dX5_hold_32 rfl rfl ?_
    refine x_iadd (q := 34) dX5_hold_33 rfl ?_
    refine x_iload_n (q := 35) dX5_hold_34 rfl rfl ?_
    refine x_iast (q := 36) dX5_hold_35 rfl (ar_50) (ix_off 68 (ix_out h4 (n := 10) (by decide)) (by decide) (by decide)) (Nat.zero_add _) rfl ?_
    refine x_iconst (q := 37) (v := 1) dX5_hold_36 rfl (by decide) ?_
    refine x_ireturn dX5_hold_37 rfl rfl ?_
    exact ⟨by simp [h4, h9, h17, st1_eq], by simp [h4, h9, h17, st1_eq]⟩
  replace h17 := in_f h17
  refine x_aload_n (q := 21) dX5_hold_20 rfl rfl ?_
  refine x_iconst (q := 22) (v := 0) dX5_hold_21 rfl (by decide) ?_
  refine x_callV1v (q := 25) dX5_hold_22 rfl ml_X5_103 mv_X5_no rv5 rfl (c_X5_nox (w := 0) (x := -1000001) (by decide) (by decide)) (Nat.le_of_ble_eq_true rfl) ⟨by decide, by decide⟩ ?_
  refine x_ireturn dX5_hold_25 rfl rfl ?_
  exact ⟨by simp [h4, h9, h17, st1_eq], by simp [h4, h9, h17, st1_eq]⟩
theorem dX5_tear_0 : decode cX5_tear 0 = .ok (.aload_n 0, 1) := by decide +kernel
theorem dX5_tear_1 : decode cX5_tear 1 = .ok (.getfield 235, 3) := by decide +kernel
theorem dX5_tear_4 : decode cX5_tear 4 = .ok (.ifCond .eq 7, 3) := by decide +kernel
theorem dX5_tear_7 : decode cX5_tear 7 = .ok (.iconst 1, 1) := by decide +kernel
theorem dX5_tear_8 : decode cX5_tear 8 = .ok (.goto 4, 3) := by decide +kernel
theorem dX5_tear_11 : decode cX5_tear 11 = .ok (.iconst 0, 1) := by decide +kernel
theorem dX5_tear_12 : decode cX5_tear 12 = .ok (.istore_n 1, 1) := by decide +kernel
theorem dX5_tear_13 : decode cX5_tear 13 = .ok (.aload_n 0, 1) := by decide +kernel
theorem dX5_tear_14 : decode cX5_tear 14 = .ok (.iconst 0, 1) := by decide +kernel
theorem dX5_tear_15 : decode cX5_tear 15 = .ok (.putfield 235, 3) := by decide +kernel
theorem dX5_tear_18 : decode cX5_tear 18 = .ok (.iload_n 1, 1) := by decide +kernel
theorem dX5_tear_19 : decode cX5_tear 19 = .ok (.ireturn, 1) := by decide +kernel
set_option maxRecDepth 20000 in
set_option maxHeartbeats 4000000 in
theorem c_X5_tear {K : Cx} {m : TM} : CT yX5_tear cX5_tear 2 (some .int) 0 0 K [.ref 49] (m) (some (.int (if m.1 49 3 = 0 then 0 else 1))) (st1 m 49 3 0) := by
  refine ct_ofd (n := 1) (by decide +kernel) rfl rfl ?_
  show XX RX5 cX5_tear 2 (some .int) 0 0 K 0 [some (.ref 49), none] [] (m) (fun r1 m1 => r1 = (some (.int (if m.1 49 3 = 0 then 0 else 1))) ∧ m1 = st1 m 49 3 0)
  refine x_aload_n (q := 1) dX5_tear_0 rfl rfl ?_
  refine x_getI (q := 4) dX5_tear_1 rfl fl_X5_235 (ob5_isKept) ?_
  refine x_if_eq (q := 7) (t := 11) dX5_tear_4 rfl (by decide) (fun h4 => ?_) (fun h4 => ?_)
  · refine x_iconst (q := 12) (v := 0) dX5_tear_11 rfl (by decide) ?_
    refine x_istore_n (q := 13) dX5_tear_12 rfl (by decide) rfl rfl ?_
    refine x_aload_n (q := 14) dX5_tear_13 rfl rfl ?_
    refine x_iconst (q := 15) (v := 0) dX5_tear_14 rfl (by decide) ?_
    refine x_putI (q := 18) dX5_tear_15 rfl fl_X5_235 (ob5_isKept) rfl rfl rfl rfl ?_
    refine x_iload_n (q := 19) dX5_tear_18 rfl rfl ?_
    refine x_ireturn dX5_tear_19 rfl rfl ?_
    exact ⟨by simp [h4], rfl⟩
  refine x_iconst (q := 8) (v := 1) dX5_tear_7 rfl (by decide) ?_
  refine x_goto (q := 12) dX5_tear_8 (by decide) ?_
  refine x_istore_n (q := 13) dX5_tear_12 rfl (by decide) rfl rfl ?_
  refine x_aload_n (q := 14) dX5_tear_13 rfl rfl ?_
  refine x_iconst (q := 15) (v := 0) dX5_tear_14 rfl (by decide) ?_
  refine x_putI (q := 18) dX5_tear_15 rfl fl_X5_235 (ob5_isKept) rfl rfl rfl rfl ?_
  refine x_iload_n (q := 19) dX5_tear_18 rfl rfl ?_
  refine x_ireturn dX5_tear_19 rfl rfl ?_
  exact ⟨by simp [h4], rfl⟩
theorem dX5_image_0 : decode cX5_image 0 = .ok (.iconst 0, 1) := by decide +kernel
theorem dX5_image_1 : decode cX5_image 1 = .ok (.istore_n 1, 1) := by decide +kernel
theorem dX5_image_2 : decode cX5_image 2 = .ok (.iload_n 1, 1) := by decide +kernel
theorem dX5_image_3 : decode cX5_image 3 = .ok (.bipush 78, 2) := by decide +kernel
theorem dX5_image_5 : decode cX5_image 5 = .ok (.if_icmp .ge 21, 3) := by decide +kernel
theorem dX5_image_8 : decode cX5_image 8 = .ok (.aload_n 0, 1) := by decide +kernel
theorem dX5_image_9 : decode cX5_image 9 = .ok (.getfield 13, 3) := by decide +kernel
theorem dX5_image_12 : decode cX5_image 12 = .ok (.iload_n 1, 1) := by decide +kernel
theorem dX5_image_13 : decode cX5_image 13 = .ok (.aload_n 0, 1) := by decide +kernel
theorem dX5_image_14 : decode cX5_image 14 = .ok (.getfield 9, 3) := by decide +kernel
theorem dX5_image_17 : decode cX5_image 17 = .ok (.iload_n 1, 1) := by decide +kernel
theorem dX5_image_18 : decode cX5_image 18 = .ok (.iaload, 1) := by decide +kernel
theorem dX5_image_19 : decode cX5_image 19 = .ok (.iastore, 1) := by decide +kernel
theorem dX5_image_20 : decode cX5_image 20 = .ok (.iinc 1 1, 3) := by decide +kernel
theorem dX5_image_23 : decode cX5_image 23 = .ok (.goto (-21), 3) := by decide +kernel
theorem dX5_image_26 : decode cX5_image 26 = .ok (.aload_n 0, 1) := by decide +kernel
theorem dX5_image_27 : decode cX5_image 27 = .ok (.iconst 1, 1) := by decide +kernel
theorem dX5_image_28 : decode cX5_image 28 = .ok (.putfield 235, 3) := by decide +kernel
theorem dX5_image_31 : decode cX5_image 31 = .ok (.iconst 1, 1) := by decide +kernel
theorem dX5_image_32 : decode cX5_image 32 = .ok (.ireturn, 1) := by decide +kernel
set_option maxRecDepth 20000 in
set_option maxHeartbeats 4000000 in
theorem l_X5_image {K : Cx} {m : TM} : ∀ (n : Nat) (j : Nat), 78 - j < n → j ≤ 78 → XX RX5 cX5_image 2 (some .int) 0 0 K 2 [some (.ref 49), some (.int (nI j))] [] (sr m 51 (cpR (m.1 51) (m.1 50) 0 0 j)) (fun r1 m1 => r1 = (some (.int (1))) ∧ m1 = st1 (sr m 51 (m.1 50)) 49 3 1) := by
  intro n
  induction n with
  | zero => intro j hlt; exact absurd hlt (Nat.not_lt_zero _)
  | succ n ih =>
    intro j hlt hj
    refine x_iload_n (q := 3) dX5_image_2 rfl rfl ?_
    refine x_bipush (q := 5) (v := 78) dX5_image_3 rfl (by decide) ?_
    refine x_icmp_ge (q := 8) (t := 26) dX5_image_5 rfl (by decide) (fun h5 => ?_) (fun h5 => ?_)
    · have e : j = 78 := Nat.le_antisymm hj (lp_stop (n := 78) rfl (by omega) (by omega) h5)
      subst e
      refine x_ag (m' := sr m 51 (m.1 50)) (ag_row fun i hi => ?_) ?_
      · show cpR _ _ 0 0 78 i = _
        unfold cpR
        rw [if_pos ⟨Nat.zero_le _, by have : rsz 51 = 78 := rfl; omega⟩, Nat.zero_add, Nat.sub_zero]
      refine x_aload_n (q := 27) dX5_image_26 rfl rfl ?_
      refine x_iconst (q := 28) (v := 1) dX5_image_27 rfl (by decide) ?_
      refine x_putI (q := 31) dX5_image_28 rfl fl_X5_235 (ob5_isKept) rfl rfl rfl rfl ?_
      refine x_iconst (q := 32) (v := 1) dX5_image_31 rfl (by decide) ?_
      refine x_ireturn dX5_image_32 rfl rfl ?_
      exact ⟨rfl, rfl⟩
    have hjn : j < 78 := lp_go (n := 78) rfl (by omega) (by omega) h5
    refine x_aload_n (q := 9) dX5_image_8 rfl rfl ?_
    refine x_getR (q := 12) dX5_image_9 rfl fl_X5_13 (or5_kept) ?_
    refine x_iload_n (q := 13) dX5_image_12 rfl rfl ?_
    refine x_aload_n (q := 14) dX5_image_13 rfl rfl ?_
    refine x_getR (q := 17) dX5_image_14 rfl fl_X5_9 (or5_s) ?_
    refine x_iload_n (q := 18) dX5_image_17 rfl rfl ?_
    refine x_iald (q := 19) dX5_image_18 rfl (ar_50) (ix_nI hjn (by decide)) (Nat.zero_add _) ?_
    refine x_iastr (q := 20) dX5_image_19 rfl (ar_51) (ix_nI hjn (by decide)) (Nat.zero_add _)  ?_
    refine x_iinc (q := 23) (v := nI (j + 1)) dX5_image_20 rfl rfl (jnI_s j) (by decide) rfl rfl ?_
    refine x_goto (q := 2) dX5_image_23 (by decide) ?_
    have e : upd (cpR (m.1 51) (m.1 50) 0 0 j) j ((sr m 51 (cpR (m.1 51) (m.1 50) 0 0 j)).1 50 j) = cpR (m.1 51) (m.1 50) 0 0 (j + 1) := by
      rw [sr_ne (by decide)]
      funext i
      unfold upd cpR
      by_cases h1 : i = j
      · subst h1
        rw [if_pos rfl, if_pos (by omega), Nat.zero_add, Nat.sub_zero]
      · rw [if_neg h1]
        by_cases h2 : i < j
        · rw [if_pos (by omega), if_pos (by omega)]
        · rw [if_neg (by omega), if_neg (by omega)]
    rw [e]
    exact ih (j + 1) (by omega) (by omega)
set_option maxRecDepth 20000 in
set_option maxHeartbeats 4000000 in
theorem c_X5_image {K : Cx} {m : TM} : CT yX5_image cX5_image 2 (some .int) 0 0 K [.ref 49] (m) (some (.int (1))) (st1 (sr m 51 (m.1 50)) 49 3 1) := by
  refine ct_ofd (n := 1) (by decide +kernel) rfl rfl ?_
  show XX RX5 cX5_image 2 (some .int) 0 0 K 0 [some (.ref 49), none] [] (m) (fun r1 m1 => r1 = (some (.int (1))) ∧ m1 = st1 (sr m 51 (m.1 50)) 49 3 1)
  refine x_iconst (q := 1) (v := 0) dX5_image_0 rfl (by decide) ?_
  refine x_istore_n (q := 2) dX5_image_1 rfl (by decide) rfl rfl ?_
  have e : cpR (m.1 51) (m.1 50) 0 0 0 = m.1 51 := by
    funext i
    unfold cpR
    rw [if_neg (by omega)]
  have h := l_X5_image (K := K) (m := m) 79 0 (by omega) (by omega)
  rw [e, sr_self] at h
  exact h
theorem dX5_undo_0 : decode cX5_undo 0 = .ok (.aload_n 0, 1) := by decide +kernel
theorem dX5_undo_1 : decode cX5_undo 1 = .ok (.getfield 235, 3) := by decide +kernel
theorem dX5_undo_4 : decode cX5_undo 4 = .ok (.ifCond .ne 9, 3) := by decide +kernel
theorem dX5_undo_7 : decode cX5_undo 7 = .ok (.aload_n 0, 1) := by decide +kernel
theorem dX5_undo_8 : decode cX5_undo 8 = .ok (.iconst 3, 1) := by decide +kernel
theorem dX5_undo_9 : decode cX5_undo 9 = .ok (.invokevirtual 103, 3) := by decide +kernel
theorem dX5_undo_12 : decode cX5_undo 12 = .ok (.ireturn, 1) := by decide +kernel
theorem dX5_undo_13 : decode cX5_undo 13 = .ok (.iconst 0, 1) := by decide +kernel
theorem dX5_undo_14 : decode cX5_undo 14 = .ok (.istore_n 1, 1) := by decide +kernel
theorem dX5_undo_15 : decode cX5_undo 15 = .ok (.iload_n 1, 1) := by decide +kernel
theorem dX5_undo_16 : decode cX5_undo 16 = .ok (.bipush 78, 2) := by decide +kernel
theorem dX5_undo_18 : decode cX5_undo 18 = .ok (.if_icmp .ge 21, 3) := by decide +kernel
theorem dX5_undo_21 : decode cX5_undo 21 = .ok (.aload_n 0, 1) := by decide +kernel
theorem dX5_undo_22 : decode cX5_undo 22 = .ok (.getfield 9, 3) := by decide +kernel
theorem dX5_undo_25 : decode cX5_undo 25 = .ok (.iload_n 1, 1) := by decide +kernel
theorem dX5_undo_26 : decode cX5_undo 26 = .ok (.aload_n 0, 1) := by decide +kernel
theorem dX5_undo_27 : decode cX5_undo 27 = .ok (.getfield 13, 3) := by decide +kernel
theorem dX5_undo_30 : decode cX5_undo 30 = .ok (.iload_n 1, 1) := by decide +kernel
theorem dX5_undo_31 : decode cX5_undo 31 = .ok (.iaload, 1) := by decide +kernel
theorem dX5_undo_32 : decode cX5_undo 32 = .ok (.iastore, 1) := by decide +kernel
theorem dX5_undo_33 : decode cX5_undo 33 = .ok (.iinc 1 1, 3) := by decide +kernel
theorem dX5_undo_36 : decode cX5_undo 36 = .ok (.goto (-21), 3) := by decide +kernel
theorem dX5_undo_39 : decode cX5_undo 39 = .ok (.aload_n 0, 1) := by decide +kernel
theorem dX5_undo_40 : decode cX5_undo 40 = .ok (.getfield 9, 3) := by decide +kernel
theorem dX5_undo_43 : decode cX5_undo 43 = .ok (.iconst 0, 1) := by decide +kernel
theorem dX5_undo_44 : decode cX5_undo 44 = .ok (.iaload, 1) := by decide +kernel
theorem dX5_undo_45 : decode cX5_undo 45 = .ok (.ireturn, 1) := by decide +kernel
set_option maxRecDepth 20000 in
set_option maxHeartbeats 4000000 in
theorem l_X5_undo {K : Cx} {m : TM} : ∀ (n : Nat) (j : Nat), 78 - j < n → j ≤ 78 → XX RX5 cX5_undo 2 (some .int) 1 21 K 15 [some (.ref 49), some (.int (nI j))] [] (sr m 50 (cpR (m.1 50) (m.1 51) 0 0 j)) (fun r1 m1 => r1 = (some (.int (m.1 51 0))) ∧ m1 = sr m 50 (m.1 51)) := by
  intro n
  induction n with
  | zero => intro j hlt; exact absurd hlt (Nat.not_lt_zero _)
  | succ n ih =>
    intro j hlt hj
    refine x_iload_n (q := 16) dX5_undo_15 rfl rfl ?_
    refine x_bipush (q := 18) (v := 78) dX5_undo_16 rfl (by decide) ?_
    refine x_icmp_ge (q := 21) (t := 39) dX5_undo_18 rfl (by decide) (fun h18 => ?_) (fun h18 => ?_)
    · have e : j = 78 := Nat.le_antisymm hj (lp_stop (n := 78) rfl (by omega) (by omega) h18)
      subst e
      refine x_ag (m' := sr m 50 (m.1 51)) (ag_row fun i hi => ?_) ?_
      · show cpR _ _ 0 0 78 i = _
        unfold cpR
        rw [if_pos ⟨Nat.zero_le _, by have : rsz 50 = 78 := rfl; omega⟩, Nat.zero_add, Nat.sub_zero]
      refine x_aload_n (q := 40) dX5_undo_39 rfl rfl ?_
      refine x_getR (q := 43) dX5_undo_40 rfl fl_X5_9 (or5_s) ?_
      refine x_iconst (q := 44) (v := 0) dX5_undo_43 rfl (by decide) ?_
      refine x_ialdr (q := 45) dX5_undo_44 rfl (ar_50) (ix_nI (k := 0) (by decide) (by decide)) (Nat.zero_add _) ?_
      refine x_ireturn dX5_undo_45 rfl rfl ?_
      exact ⟨rfl, rfl⟩
    have hjn : j < 78 := lp_go (n := 78) rfl (by omega) (by omega) h18
    refine x_aload_n (q := 22) dX5_undo_21 rfl rfl ?_
    refine x_getR (q := 25) dX5_undo_22 rfl fl_X5_9 (or5_s) ?_
    refine x_iload_n (q := 26) dX5_undo_25 rfl rfl ?_
    refine x_aload_n (q := 27) dX5_undo_26 rfl rfl ?_
    refine x_getR (q := 30) dX5_undo_27 rfl fl_X5_13 (or5_kept) ?_
    refine x_iload_n (q := 31) dX5_undo_30 rfl rfl ?_
    refine x_iald (q := 32) dX5_undo_31 rfl (ar_51) (ix_nI hjn (by decide)) (Nat.zero_add _) ?_
    refine x_iastr (q := 33) dX5_undo_32 rfl (ar_50) (ix_nI hjn (by decide)) (Nat.zero_add _)  ?_
    refine x_iinc (q := 36) (v := nI (j + 1)) dX5_undo_33 rfl rfl (jnI_s j) (by decide) rfl rfl ?_
    refine x_goto (q := 15) dX5_undo_36 (by decide) ?_
    have e : upd (cpR (m.1 50) (m.1 51) 0 0 j) j ((sr m 50 (cpR (m.1 50) (m.1 51) 0 0 j)).1 51 j) = cpR (m.1 50) (m.1 51) 0 0 (j + 1) := by
      rw [sr_ne (by decide)]
      funext i
      unfold upd cpR
      by_cases h1 : i = j
      · subst h1
        rw [if_pos rfl, if_pos (by omega), Nat.zero_add, Nat.sub_zero]
      · rw [if_neg h1]
        by_cases h2 : i < j
        · rw [if_pos (by omega), if_pos (by omega)]
        · rw [if_neg (by omega), if_neg (by omega)]
    rw [e]
    exact ih (j + 1) (by omega) (by omega)
set_option maxRecDepth 20000 in
set_option maxHeartbeats 4000000 in
theorem c_X5_undo {K : Cx} {m : TM} (h0 : ¬ m.1 49 3 = 0) : CT yX5_undo cX5_undo 2 (some .int) 1 21 K [.ref 49] (m) (some (.int (m.1 51 0))) (sr m 50 (m.1 51)) := by
  refine ct_ofd (n := 1) (by decide +kernel) rfl rfl ?_
  show XX RX5 cX5_undo 2 (some .int) 1 21 K 0 [some (.ref 49), none] [] (m) (fun r1 m1 => r1 = (some (.int (m.1 51 0))) ∧ m1 = sr m 50 (m.1 51))
  refine x_aload_n (q := 1) dX5_undo_0 rfl rfl ?_
  refine x_getI (q := 4) dX5_undo_1 rfl fl_X5_235 (ob5_isKept) ?_
  refine x_if_ne (q := 7) (t := 13) dX5_undo_4 rfl (by decide) (fun h4 => ?_) (fun h4 => ?_)
  · refine x_iconst (q := 14) (v := 0) dX5_undo_13 rfl (by decide) ?_
    refine x_istore_n (q := 15) dX5_undo_14 rfl (by decide) rfl rfl ?_
    have e : cpR (m.1 50) (m.1 51) 0 0 0 = m.1 50 := by
      funext i
      unfold cpR
      rw [if_neg (by omega)]
    have h := l_X5_undo (K := K) (m := m) 79 0 (by omega) (by omega)
    rw [e, sr_self] at h
    exact h
  exact absurd h4 h0
set_option maxRecDepth 20000 in
set_option maxHeartbeats 4000000 in
theorem c_X5_undoN {K : Cx} {m : TM} (h0 : m.1 49 3 = 0) : CT yX5_undo cX5_undo 2 (some .int) 1 21 K [.ref 49] (m) (some (.int (-1000004))) (fnm m 3) := by
  refine ct_ofd (n := 1) (by decide +kernel) rfl rfl ?_
  show XX RX5 cX5_undo 2 (some .int) 1 21 K 0 [some (.ref 49), none] [] (m) (fun r1 m1 => r1 = (some (.int (-1000004))) ∧ m1 = fnm m 3)
  refine x_aload_n (q := 1) dX5_undo_0 rfl rfl ?_
  refine x_getI (q := 4) dX5_undo_1 rfl fl_X5_235 (ob5_isKept) ?_
  refine x_if_ne (q := 7) (t := 13) dX5_undo_4 rfl (by decide) (fun h4 => ?_) (fun h4 => ?_)
  · exact absurd h0 h4
  refine x_aload_n (q := 8) dX5_undo_7 rfl rfl ?_
  refine x_iconst (q := 9) (v := 3) dX5_undo_8 rfl (by decide) ?_
  refine x_callV1v (q := 12) dX5_undo_9 rfl ml_X5_103 mv_X5_no rv5 rfl (c_X5_nox (w := 3) (x := -1000004) (by decide) (by decide)) (Nat.le_of_ble_eq_true rfl) ⟨by decide, by decide⟩ ?_
  refine x_ireturn dX5_undo_12 rfl rfl ?_
  exact ⟨rfl, rfl⟩
theorem dX5_as_0 : decode cX5_as 0 = .ok (.iload_n 1, 1) := by decide +kernel
theorem dX5_as_1 : decode cX5_as 1 = .ok (.invokestatic 229, 3) := by decide +kernel
theorem dX5_as_4 : decode cX5_as 4 = .ok (.ifCond .eq 13, 3) := by decide +kernel
theorem dX5_as_7 : decode cX5_as 7 = .ok (.iload_n 2, 1) := by decide +kernel
theorem dX5_as_8 : decode cX5_as 8 = .ok (.iconst 0, 1) := by decide +kernel
theorem dX5_as_9 : decode cX5_as 9 = .ok (.bipush 6, 2) := by decide +kernel
theorem dX5_as_11 : decode cX5_as 11 = .ok (.invokestatic 48, 3) := by decide +kernel
theorem dX5_as_14 : decode cX5_as 14 = .ok (.ifCond .ne 9, 3) := by decide +kernel
theorem dX5_as_17 : decode cX5_as 17 = .ok (.aload_n 0, 1) := by decide +kernel
theorem dX5_as_18 : decode cX5_as 18 = .ok (.iconst 0, 1) := by decide +kernel
theorem dX5_as_19 : decode cX5_as 19 = .ok (.invokevirtual 103, 3) := by decide +kernel
theorem dX5_as_22 : decode cX5_as 22 = .ok (.ireturn, 1) := by decide +kernel
theorem dX5_as_23 : decode cX5_as 23 = .ok (.aload_n 0, 1) := by decide +kernel
theorem dX5_as_24 : decode cX5_as 24 = .ok (.getfield 9, 3) := by decide +kernel
theorem dX5_as_27 : decode cX5_as 27 = .ok (.bipush 68, 2) := by decide +kernel
theorem dX5_as_29 : decode cX5_as 29 = .ok (.iload_n 1, 1) := by decide +kernel
theorem dX5_as_30 : decode cX5_as 30 = .ok (.iadd, 1) := by decide +kernel
theorem dX5_as_31 : decode cX5_as 31 = .ok (.iaload, 1) := by decide +kernel
theorem dX5_as_32 : decode cX5_as 32 = .ok (.istore_n 3, 1) := by decide +kernel
theorem dX5_as_33 : decode cX5_as 33 = .ok (.iload_n 3, 1) := by decide +kernel
theorem dX5_as_34 : decode cX5_as 34 = .ok (.ifCond .ge 9, 3) := by decide +kernel
theorem dX5_as_37 : decode cX5_as 37 = .ok (.aload_n 0, 1) := by decide +kernel
theorem dX5_as_38 : decode cX5_as 38 = .ok (.iconst 5, 1) := by decide +kernel
theorem dX5_as_39 : decode cX5_as 39 = .ok (.invokevirtual 103, 3) := by decide +kernel
theorem dX5_as_42 : decode cX5_as 42 = .ok (.ireturn, 1) := by decide +kernel
theorem dX5_as_43 : decode cX5_as 43 = .ok (.aload_n 0, 1) := by decide +kernel
theorem dX5_as_44 : decode cX5_as 44 = .ok (.iload_n 3, 1) := by decide +kernel
theorem dX5_as_45 : decode cX5_as 45 = .ok (.iconst 0, 1) := by decide +kernel
theorem dX5_as_46 : decode cX5_as 46 = .ok (.invokevirtual 52, 3) := by decide +kernel
theorem dX5_as_49 : decode cX5_as 49 = .ok (.istore 4, 2) := by decide +kernel
theorem dX5_as_51 : decode cX5_as 51 = .ok (.iload 4, 2) := by decide +kernel
theorem dX5_as_53 : decode cX5_as 53 = .ok (.iload_n 2, 1) := by decide +kernel
theorem dX5_as_54 : decode cX5_as 54 = .ok (.if_icmp .eq 18, 3) := by decide +kernel
theorem dX5_as_57 : decode cX5_as 57 = .ok (.iload 4, 2) := by decide +kernel
theorem dX5_as_59 : decode cX5_as 59 = .ok (.ifCond .eq 13, 3) := by decide +kernel
theorem dX5_as_62 : decode cX5_as 62 = .ok (.iload 4, 2) := by decide +kernel
theorem dX5_as_64 : decode cX5_as 64 = .ok (.invokestatic 232, 3) := by decide +kernel
theorem dX5_as_67 : decode cX5_as 67 = .ok (.istore 4, 2) := by decide +kernel
theorem dX5_as_69 : decode cX5_as 69 = .ok (.goto (-18), 3) := by decide +kernel
theorem dX5_as_72 : decode cX5_as 72 = .ok (.iload 4, 2) := by decide +kernel
theorem dX5_as_74 : decode cX5_as 74 = .ok (.iload_n 2, 1) := by decide +kernel
theorem dX5_as_75 : decode cX5_as 75 = .ok (.if_icmp .ne 7, 3) := by decide +kernel
theorem dX5_as_78 : decode cX5_as 78 = .ok (.iload_n 3, 1) := by decide +kernel
theorem dX5_as_79 : decode cX5_as 79 = .ok (.goto 8, 3) := by decide +kernel
theorem dX5_as_82 : decode cX5_as 82 = .ok (.aload_n 0, 1) := by decide +kernel
theorem dX5_as_83 : decode cX5_as 83 = .ok (.iconst 2, 1) := by decide +kernel
theorem dX5_as_84 : decode cX5_as 84 = .ok (.invokevirtual 103, 3) := by decide +kernel
theorem dX5_as_87 : decode cX5_as 87 = .ok (.ireturn, 1) := by decide +kernel
set_option maxRecDepth 20000 in
set_option maxHeartbeats 4000000 in
theorem l_X5_as {K : Cx} {k d : Nat} {x : Int32} {m : TM} (hd : d < 7) : ∀ (n : Nat) (c : Nat), c < n → c < 7 → XX RX5 cX5_as 5 (some .int) 2 42 K 51 [some (.ref 49), some (.int x), some (.int (nI d)), some (.int (nI k)), some (.int (nI c))] [] (m) (fun r1 m1 => r1 = (some (.int (if anc 7 (nI c) (nI d) = true then nI k else -1000003))) ∧ m1 = if anc 7 (nI c) (nI d) = true then m else fnm m 2) := by
  intro n
  induction n with
  | zero => intro c hlt; exact absurd hlt (Nat.not_lt_zero _)
  | succ n ih =>
    intro c hlt hc
    refine x_iload (q := 53) dX5_as_51 rfl rfl ?_
    refine x_iload_n (q := 54) dX5_as_53 rfl rfl ?_
    refine x_icmp_eq (q := 57) (t := 72) dX5_as_54 rfl (by decide) (fun h54 => ?_) (fun h54 => ?_)
    · refine x_iload (q := 74) dX5_as_72 rfl rfl ?_
      refine x_iload_n (q := 75) dX5_as_74 rfl rfl ?_
      refine x_icmp_ne (q := 78) (t := 82) dX5_as_75 rfl (by decide) (fun h75 => ?_) (fun h75 => ?_)
      · refine x_aload_n (q := 83) dX5_as_82 rfl rfl ?_
        refine x_iconst (q := 84) (v := 2) dX5_as_83 rfl (by decide) ?_
        refine x_callV1v (q := 87) dX5_as_84 rfl ml_X5_103 mv_X5_no rv5 rfl (c_X5_nox (w := 2) (x := -1000003) (by decide) (by decide)) (Nat.le_of_ble_eq_true rfl) ⟨by decide, by decide⟩ ?_
        refine x_ireturn dX5_as_87 rfl rfl ?_
        exact absurd h54 h75
      refine x_iload_n (q := 79) dX5_as_78 rfl rfl ?_
      refine x_goto (q := 87) dX5_as_79 (by decide) ?_
      refine x_ireturn dX5_as_87 rfl rfl ?_
      have e : c = d := (jnI_inj (by omega) (by omega)).mp h54
      subst e
      rw [if_pos (anc_self c hc), if_pos (anc_self c hc)]
      exact ⟨rfl, rfl⟩
    refine x_iload (q := 59) dX5_as_57 rfl rfl ?_
    refine x_if_eq (q := 62) (t := 72) dX5_as_59 rfl (by decide) (fun h59 => ?_) (fun h59 => ?_)
    · refine x_iload (q := 74) dX5_as_72 rfl rfl ?_
      refine x_iload_n (q := 75) dX5_as_74 rfl rfl ?_
      refine x_icmp_ne (q := 78) (t := 82) dX5_as_75 rfl (by decide) (fun h75 => ?_) (fun h75 => ?_)
      · refine x_aload_n (q := 83) dX5_as_82 rfl rfl ?_
        refine x_iconst (q := 84) (v := 2) dX5_as_83 rfl (by decide) ?_
        refine x_callV1v (q := 87) dX5_as_84 rfl ml_X5_103 mv_X5_no rv5 rfl (c_X5_nox (w := 2) (x := -1000003) (by decide) (by decide)) (Nat.le_of_ble_eq_true rfl) ⟨by decide, by decide⟩ ?_
        refine x_ireturn dX5_as_87 rfl rfl ?_
        have hd0 : d ≠ 0 := fun q => h75 (by rw [h59, q]; rfl)
        rw [h59, anc_0 d hd hd0]
        exact ⟨rfl, rfl⟩
      refine x_iload_n (q := 79) dX5_as_78 rfl rfl ?_
      refine x_goto (q := 87) dX5_as_79 (by decide) ?_
      refine x_ireturn dX5_as_87 rfl rfl ?_
      exact absurd h75 h54
    refine x_iload (q := 64) dX5_as_62 rfl rfl ?_
    refine x_callS1v (q := 67) dX5_as_64 rfl ml_X5_232 ms_X5_above c_X5_above (Nat.le_of_ble_eq_true rfl) ⟨by decide, by decide⟩ ?_
    refine x_istore (q := 69) dX5_as_67 rfl (by decide) rfl rfl ?_
    refine x_goto (q := 51) dX5_as_69 (by decide) ?_
    have hcd : c ≠ d := fun q => h54 (by rw [q])
    have hc0 : c ≠ 0 := fun q => h59 (by rw [q]; rfl)
    have a1 := ab_1 c hc
    have a2 := ab_2 c hc hc0
    have a3 := ab_3 c hc d hd hcd hc0
    rw [a1, a3]
    exact ih (ab c) (by omega) (by omega)
set_option maxRecDepth 20000 in
set_option maxHeartbeats 4000000 in
theorem c_X5_as {K : Cx} {x v : Int32} {n8 : Nat} {m : TM} (hI : Iv n8 (m.1 50)) : CT yX5_as cX5_as 5 (some .int) 2 42 K [.ref 49, .int x, .int v] (m) (some (.int (if (outI x 0 9 || outI v 0 6) = true then -1000001 else if outI (m.1 50 (68 + cl x)) 0 (m.1 50 1 - 1) = true then -1000006 else if anc 7 (m.1 50 (12 + 7 * cl (m.1 50 (68 + cl x)) + 0)) v = true then m.1 50 (68 + cl x) else -1000003))) (if (outI x 0 9 || outI v 0 6) = true then fnm m 0 else if outI (m.1 50 (68 + cl x)) 0 (m.1 50 1 - 1) = true then fnm m 5 else if anc 7 (m.1 50 (12 + 7 * cl (m.1 50 (68 + cl x)) + 0)) v = true then m else fnm m 2) := by
  refine ct_ofd (n := 2) (by decide +kernel) rfl rfl ?_
  show XX RX5 cX5_as 5 (some .int) 2 42 K 0 [some (.ref 49), some (.int x), some (.int v), none, none] [] (m) (fun r1 m1 => r1 = (some (.int (if (outI x 0 9 || outI v 0 6) = true then -1000001 else if outI (m.1 50 (68 + cl x)) 0 (m.1 50 1 - 1) = true then -1000006 else if anc 7 (m.1 50 (12 + 7 * cl (m.1 50 (68 + cl x)) + 0)) v = true then m.1 50 (68 + cl x) else -1000003))) ∧ m1 = if (outI x 0 9 || outI v 0 6) = true then fnm m 0 else if outI (m.1 50 (68 + cl x)) 0 (m.1 50 1 - 1) = true then fnm m 5 else if anc 7 (m.1 50 (12 + 7 * cl (m.1 50 (68 + cl x)) + 0)) v = true then m else fnm m 2)
  refine x_iload_n (q := 1) dX5_as_0 rfl rfl ?_
  refine x_callS1v (q := 4) dX5_as_1 rfl ml_X5_229 ms_X5_isSpot c_X5_isSpot (Nat.le_of_ble_eq_true rfl) ⟨by decide, by decide⟩ ?_
  refine x_ifB_eq (q := 7) (t := 17) dX5_as_4 rfl (by decide) (fun h4 => ?_) (fun h4 => ?_)
  · replace h4 := in_f h4
    refine x_aload_n (q := 18) dX5_as_17 rfl rfl ?_
    refine x_iconst (q := 19) (v := 0) dX5_as_18 rfl (by decide) ?_
    refine x_callV1v (q := 22) dX5_as_19 rfl ml_X5_103 mv_X5_no rv5 rfl (c_X5_nox (w := 0) (x := -1000001) (by decide) (by decide)) (Nat.le_of_ble_eq_true rfl) ⟨by decide, by decide⟩ ?_
    refine x_ireturn dX5_as_22 rfl rfl ?_
    exact ⟨by simp [h4], by simp [h4]⟩
  replace h4 := in_t h4
  refine x_iload_n (q := 8) dX5_as_7 rfl rfl ?_
  refine x_iconst (q := 9) (v := 0) dX5_as_8 rfl (by decide) ?_
  refine x_bipush (q := 11) (v := 6) dX5_as_9 rfl (by decide) ?_
  refine x_callS3v (q := 14) dX5_as_11 rfl ml_X5_48 ms_X5_in1 c_X5_in1 (Nat.le_of_ble_eq_true rfl) ⟨by decide, by decide⟩ ?_
  refine x_ifB_ne (q := 17) (t := 23) dX5_as_14 rfl (by decide) (fun h14 => ?_) (fun h14 => ?_)
  · replace h14 := in_t h14
    refine x_aload_n (q := 24) dX5_as_23 rfl rfl ?_
    refine x_getR (q := 27) dX5_as_24 rfl fl_X5_9 (or5_s) ?_
    refine x_bipush (q := 29) (v := 68) dX5_as_27 rfl (by decide) ?_
    refine x_iload_n (q := 30) dX5_as_29 rfl rfl ?_
    refine x_iadd (q := 31) dX5_as_30 rfl ?_
    refine x_iald (q := 32) dX5_as_31 rfl (ar_50) (ix_off 68 (ix_out h4 (n := 10) (by decide)) (by decide) (by decide)) (Nat.zero_add _) ?_
    refine x_istore_n (q := 33) dX5_as_32 rfl (by decide) rfl rfl ?_
    have hsp0 := hI.2.2.2.2.2 (cl x) (ix_out h4 (n := 10) (by decide)).2.2
    refine x_iload_n (q := 34) dX5_as_33 rfl rfl ?_
    refine x_if_ge (q := 37) (t := 43) dX5_as_34 rfl (by decide) (fun h34 => ?_) (fun h34 => ?_)
    · obtain ⟨k, hk, hsp⟩ : ∃ k, k < n8 ∧ m.1 50 (68 + cl x) = nI k := by
        rcases hsp0 with q | q
        · exact absurd h34 (by rw [q]; decide)
        · exact q
      have hk8 : k < 8 := by have := hI.1; omega
      obtain ⟨c, hc, ec⟩ := (hI.2.2.2.2.1 k hk).2
      obtain ⟨d, hd, rfl⟩ := out6 h14
      refine x_aload_n (q := 44) dX5_as_43 rfl rfl ?_
      refine x_iload_n (q := 45) dX5_as_44 rfl rfl ?_
      refine x_iconst (q := 46) (v := 0) dX5_as_45 rfl (by decide) ?_
      refine x_callV2v (q := 49) dX5_as_46 rfl ml_X5_52 mv_X5_get rv5 rfl (by rw [hsp]; exact c_X5_get (f := 0) hk8 (by decide)) (Nat.le_of_ble_eq_true rfl) ⟨by decide, by decide⟩ ?_
      refine x_istore (q := 51) dX5_as_49 rfl (by decide) rfl rfl ?_
      have ek : cl (nI k) = k := jnI_clamp (by omega)
      have q2 : outI (m.1 50 (68 + cl x)) 0 (m.1 50 1 - 1) = false := by
        rw [hsp, hI.2.1]
        obtain ⟨n, hn⟩ : ∃ n, n8 = n + 1 := ⟨n8 - 1, by omega⟩
        rw [hn, nI_pred]
        unfold outI
        have := hI.1
        rw [Bool.or_eq_false_iff, decide_eq_false_iff_not, decide_eq_false_iff_not]
        exact ⟨jnI_nneg (by omega), fun q => absurd ((jnI_lt (by omega) (by omega)).mp q) (by omega)⟩
      simp only [h4, h14, q2, Bool.or_self, Bool.false_eq_true, if_false]
      rw [hsp, ek, ec]
      exact l_X5_as hd (c + 1) c (by omega) (by omega)
    refine x_aload_n (q := 38) dX5_as_37 rfl rfl ?_
    refine x_iconst (q := 39) (v := 5) dX5_as_38 rfl (by decide) ?_
    refine x_callV1v (q := 42) dX5_as_39 rfl ml_X5_103 mv_X5_no rv5 rfl (c_X5_nox (w := 5) (x := -1000006) (by decide) (by decide)) (Nat.le_of_ble_eq_true rfl) ⟨by decide, by decide⟩ ?_
    refine x_ireturn dX5_as_42 rfl rfl ?_
    have q : m.1 50 (68 + cl x) = -1 := by
      rcases hsp0 with q | ⟨k, hk, q⟩
      · exact q
      · exact absurd (by rw [q]; exact nI_pos' (by have := hI.1; omega)) h34
    have q2 : outI (m.1 50 (68 + cl x)) 0 (m.1 50 1 - 1) = true := by
      rw [q]
      unfold outI
      rw [decide_eq_true (show (-1 : Int32) < 0 by decide)]
      rfl
    exact ⟨by rw [if_neg (by rw [h4, h14]; decide), if_pos q2], by rw [if_neg (by rw [h4, h14]; decide), if_pos q2]⟩
  replace h14 := in_f h14
  refine x_aload_n (q := 18) dX5_as_17 rfl rfl ?_
  refine x_iconst (q := 19) (v := 0) dX5_as_18 rfl (by decide) ?_
  refine x_callV1v (q := 22) dX5_as_19 rfl ml_X5_103 mv_X5_no rv5 rfl (c_X5_nox (w := 0) (x := -1000001) (by decide) (by decide)) (Nat.le_of_ble_eq_true rfl) ⟨by decide, by decide⟩ ?_
  refine x_ireturn dX5_as_22 rfl rfl ?_
  exact ⟨by simp [h4, h14], by simp [h4, h14]⟩
end
section
/-! days, draws, counts -/
theorem out_rng {x : Int32} {a b : Nat} (ha : a < 2147483648) (hb : b < 2147483648) (h : outI x (nI a) (nI b) = false) : ∃ c, a ≤ c ∧ c ≤ b ∧ x = nI c := by
  unfold outI at h
  rw [Bool.or_eq_false_iff] at h
  have h1 := of_decide_eq_false h.1
  have h2 := of_decide_eq_false h.2
  have h0 : ¬ x < 0 := by
    intro q
    apply h1
    rw [Int32.lt_iff_toInt_lt] at q ⊢
    rw [jnI_toInt ha]
    have z0 : (0 : Int32).toInt = 0 := by decide
    rw [z0] at q
    omega
  have e := jnI_of h0
  have e2 := toInt_clamp h0
  rw [Int32.lt_iff_toInt_lt, jnI_toInt ha] at h1
  rw [Int32.lt_iff_toInt_lt, jnI_toInt hb] at h2
  exact ⟨x.toNatClampNeg, by omega, by omega, e⟩
theorem Iv.upd_lo {n i : Nat} {s : Nat → Int32} {v : Int32} (h : Iv n s) (hi : i < 12) (h0 : i ≠ 0) (h1 : i ≠ 1) (h4 : i ≠ 4) : Iv n (upd s i v) := by
  obtain ⟨h8, e1, hd, hl, hp, hs⟩ := h
  refine ⟨h8, by rw [upd_ne (Ne.symm h1), e1], by rw [upd_ne (Ne.symm h0)]; exact hd, by rw [upd_ne (Ne.symm h4)]; exact hl, fun k hk => ?_, fun j hj => ?_⟩
  · rw [upd_ne (by omega), upd_ne (by omega)]
    exact hp k hk
  · rw [upd_ne (by omega)]
    exact hs j hj
theorem dr_nI (z : Int32) : ∃ q, q < 16777216 ∧ dr z = nI q := by
  have hb : (nz z).toBitVec.toNat >>> 8 < 16777216 := by
    rw [Nat.shiftRight_eq_div_pow]
    have := (nz z).toBitVec.isLt
    omega
  refine ⟨(nz z).toBitVec.toNat >>> 8, hb, ?_⟩
  unfold dr nI
  apply Int32.toBitVec_inj.1
  apply BitVec.eq_of_toNat_eq
  simp
  rw [Nat.mod_eq_of_lt (by omega)]
def rm21 (x : Int32) : Int32 := x - x / 21 * 21
theorem ix_dr (z : Int32) : IX (rm6 (dr z)) (cl (rm6 (dr z))) 6 := by
  obtain ⟨q, hq, e⟩ := dr_nI z
  rw [e, rm6_nI (by omega)]
  have h6 : q % 6 < 6 := Nat.mod_lt _ (by decide)
  have e2 : cl (nI (q % 6)) = q % 6 := jnI_clamp (by omega)
  rw [e2]
  exact ix_nI h6 (by decide)
/-- a swell: two draws, then a day -/
def sw1 (u : Nat → Int32) : Nat → Int32 := upd (upd (upd u 2 (nz (u 2))) 2 (nz (nz (u 2)))) (6 + cl (rm6 (dr (u 2)))) (rm21 (dr (nz (u 2))))
def swF (n8 : Nat) : Nat → (Nat → Int32) → Nat → Int32
  | 0, u => u
  | c + 1, u => swF n8 c (dyC (sw1 u) n8)
theorem Iv.sw1 {n : Nat} {u : Nat → Int32} (h : Iv n u) : Iv n (sw1 u) := by
  have hx := (ix_dr (u 2)).2.2
  exact ((h.upd_lo (by decide) (by decide) (by decide) (by decide)).upd_lo (by decide) (by decide) (by decide) (by decide)).upd_lo (by omega) (by omega) (by omega) (by omega)
theorem Iv.sw {n : Nat} : ∀ (c : Nat) {u : Nat → Int32}, Iv n u → Iv n (swF n c u)
  | 0, _, h => h
  | c + 1, _, h => Iv.sw c h.sw1.day
theorem sw1_eqv {n : Nat} {s u : Nat → Int32} (h : Eqv n s u) : Eqv n (sw1 s) (sw1 u) := by
  unfold sw1
  rw [h.lo (i := 2) (by decide)]
  exact eqv_upd (eqv_upd (eqv_upd h))
theorem swF_eqv {n : Nat} : ∀ (c : Nat) {s u : Nat → Int32}, Eqv n s u → Iv n s → Eqv n (swF n c s) (swF n c u)
  | 0, _, _, h, _ => h
  | c + 1, _, _, h, hI => swF_eqv c ((sw1_eqv h).day hI.sw1) hI.sw1.day
def us (x k : Int32) : Int32 := (x.toUInt32 >>> (k.toUInt32 &&& Int32.toUInt32 31)).toInt32
def bc1 (x : Int32) : Int32 := x - (us x 1 &&& 1431655765)
def bc2 (y : Int32) : Int32 := (y &&& 858993459) + (us y 2 &&& 858993459)
def bc3 (y : Int32) : Int32 := (y + us y 4) &&& 252645135
def bc4 (y : Int32) : Int32 := y + us y 8
def bc5 (y : Int32) : Int32 := y + us y 16
def bcnt (x : Int32) : Int32 := bc5 (bc4 (bc3 (bc2 (bc1 x)))) &&& 63
theorem bcnt_bt : ∀ y, y < 256 → bcnt (nI y) = nI (bt 9 y) := by decide +kernel
def spM (s : Nat → Int32) : Nat → Int32
  | 0 => 0
  | j + 1 => if s (68 + j) < 0 then spM s j else spM s j + 1
theorem spM_spF {n : Nat} {s : Nat → Int32} (h : Iv n s) : ∀ j, j ≤ 10 → spM s j = spF s j
  | 0, _ => rfl
  | j + 1, hj => by
    have e := spM_spF h j (by omega)
    unfold spM spF
    rcases h.2.2.2.2.2 j (by omega) with q | ⟨k, hk, q⟩
    · rw [q, if_pos (by decide), if_pos rfl, e]
    · have h8 := h.1
      rw [q, if_neg (jnI_nneg (by omega)), if_neg, e]
      intro z
      have := congrArg Int32.toInt z
      rw [jnI_toInt (by omega), show (-1 : Int32).toInt = -1 by decide] at this
      omega
theorem spF_congr {n : Nat} {s u : Nat → Int32} (h : Eqv n s u) : ∀ j, j ≤ 10 → spF s j = spF u j
  | 0, _ => rfl
  | j + 1, hj => by unfold spF; rw [h.sp (by omega), spF_congr h j (by omega)]
def suF (r : Nat → Int32) : Nat → Int32
  | 0 => 0
  | j + 1 => suF r j + r j
def suM (r : Nat → Int32) (x : Int32) : Nat → Int32
  | 0 => 0
  | j + 1 => if x = -1 ∨ x = nI j then suM r x j + r j else suM r x j
theorem suM_all (r : Nat → Int32) : ∀ j, suM r (-1) j = suF r j
  | 0 => rfl
  | j + 1 => by unfold suM suF; rw [if_pos (Or.inl rfl), suM_all r j]
theorem suM_out {r : Nat → Int32} {c : Nat} (hc : c < 7) : ∀ j, j ≤ 7 → suM r (nI c) j = if c < j then r c else 0
  | 0, _ => rfl
  | j + 1, hj => by
    have e := suM_out (r := r) hc j (by omega)
    unfold suM
    have hm : ¬ nI c = -1 := by
      intro z
      have := congrArg Int32.toInt z
      rw [jnI_toInt (by omega), show (-1 : Int32).toInt = -1 by decide] at this
      omega
    by_cases h : c = j
    · subst h
      rw [if_pos (Or.inr rfl), e, if_neg (by omega), if_pos (by omega)]
      apply Int32.toBitVec_inj.1; simp
    · rw [if_neg (by rintro (q | q); exact hm q; exact h ((jnI_inj (by omega) (by omega)).mp q)), e]
      by_cases h2 : c < j
      · rw [if_pos h2, if_pos (by omega)]
      · rw [if_neg h2, if_neg (by omega)]
theorem suF_congr {r u : Nat → Int32} : ∀ j, j ≤ 7 → (∀ i, i < 7 → r i = u i) → suF r j = suF u j
  | 0, _, _ => rfl
  | j + 1, hj, h => by unfold suF; rw [suF_congr j (by omega) h, h j (by omega)]
theorem dX4_go_0 : decode cX4_go 0 = .ok (.iload_n 1, 1) := by decide +kernel
theorem dX4_go_1 : decode cX4_go 1 = .ok (.iconst 1, 1) := by decide +kernel
theorem dX4_go_2 : decode cX4_go 2 = .ok (.bipush 60, 2) := by decide +kernel
theorem dX4_go_4 : decode cX4_go 4 = .ok (.invokestatic 44, 3) := by decide +kernel
theorem dX4_go_7 : decode cX4_go 7 = .ok (.ifCond .eq 10, 3) := by decide +kernel
theorem dX4_go_10 : decode cX4_go 10 = .ok (.aload_n 0, 1) := by decide +kernel
theorem dX4_go_11 : decode cX4_go 11 = .ok (.ldc 48, 2) := by decide +kernel
theorem dX4_go_13 : decode cX4_go 13 = .ok (.invokevirtual 49, 3) := by decide +kernel
theorem dX4_go_16 : decode cX4_go 16 = .ok (.ireturn, 1) := by decide +kernel
theorem dX4_go_17 : decode cX4_go 17 = .ok (.aload_n 0, 1) := by decide +kernel
theorem dX4_go_18 : decode cX4_go 18 = .ok (.getfield 12, 3) := by decide +kernel
theorem dX4_go_21 : decode cX4_go 21 = .ok (.getfield 97, 3) := by decide +kernel
theorem dX4_go_24 : decode cX4_go 24 = .ok (.ldc 107, 2) := by decide +kernel
theorem dX4_go_26 : decode cX4_go 26 = .ok (.iload_n 1, 1) := by decide +kernel
theorem dX4_go_27 : decode cX4_go 27 = .ok (.isub, 1) := by decide +kernel
theorem dX4_go_28 : decode cX4_go 28 = .ok (.if_icmp .le 10, 3) := by decide +kernel
theorem dX4_go_31 : decode cX4_go 31 = .ok (.aload_n 0, 1) := by decide +kernel
theorem dX4_go_32 : decode cX4_go 32 = .ok (.ldc 108, 2) := by decide +kernel
theorem dX4_go_34 : decode cX4_go 34 = .ok (.invokevirtual 49, 3) := by decide +kernel
theorem dX4_go_37 : decode cX4_go 37 = .ok (.ireturn, 1) := by decide +kernel
theorem dX4_go_38 : decode cX4_go 38 = .ok (.aload_n 0, 1) := by decide +kernel
theorem dX4_go_39 : decode cX4_go 39 = .ok (.getfield 12, 3) := by decide +kernel
theorem dX4_go_42 : decode cX4_go 42 = .ok (.iload_n 1, 1) := by decide +kernel
theorem dX4_go_43 : decode cX4_go 43 = .ok (.invokevirtual 109, 3) := by decide +kernel
theorem dX4_go_46 : decode cX4_go 46 = .ok (.aload_n 0, 1) := by decide +kernel
theorem dX4_go_47 : decode cX4_go 47 = .ok (.getfield 12, 3) := by decide +kernel
theorem dX4_go_50 : decode cX4_go 50 = .ok (.iconst 1, 1) := by decide +kernel
theorem dX4_go_51 : decode cX4_go 51 = .ok (.invokevirtual 113, 3) := by decide +kernel
theorem dX4_go_54 : decode cX4_go 54 = .ok (.ireturn, 1) := by decide +kernel
set_option maxRecDepth 20000 in
set_option maxHeartbeats 4000000 in
theorem c_X4_go {K : Cx} {x : Int32} {n8 : Nat} {m : TM} (hI : Iv n8 (m.1 1)) : CT yX4_go cX4_go 2 (some .int) 5 109 K [.ref 0, .int x] (m) (some (.int ((if (outI x 1 60) = true then -1000001 else (if m.1 1 0 ≤ 99999 - x then thF (dysC n8 (cl x) (m.1 1)) 1 n8 else -1000005))))) ((if (outI x 1 60) = true then fnd m 0 else (if m.1 1 0 ≤ 99999 - x then sr m 1 (dysC n8 (cl x) (m.1 1)) else fnd m 4))) := by
  refine ct_ofd (n := 0) (by decide +kernel) rfl rfl ?_
  show XX RX4 cX4_go 2 (some .int) 5 109 K 0 [some (.ref 0), some (.int x)] [] (m) (fun r1 m1 => r1 = (some (.int ((if (outI x 1 60) = true then -1000001 else (if m.1 1 0 ≤ 99999 - x then thF (dysC n8 (cl x) (m.1 1)) 1 n8 else -1000005))))) ∧ m1 = (if (outI x 1 60) = true then fnd m 0 else (if m.1 1 0 ≤ 99999 - x then sr m 1 (dysC n8 (cl x) (m.1 1)) else fnd m 4)))
  refine x_iload_n (q := 1) dX4_go_0 rfl rfl ?_
  refine x_iconst (q := 2) (v := 1) dX4_go_1 rfl (by decide) ?_
  refine x_bipush (q := 4) (v := 60) dX4_go_2 rfl (by decide) ?_
  refine x_callS3v (q := 7) dX4_go_4 rfl ml_X4_44 ms_X4_isOut c_X4_isOut (Nat.le_of_ble_eq_true rfl) ⟨by decide, by decide⟩ ?_
  refine x_ifB_eq (q := 10) (t := 17) dX4_go_7 rfl (by decide) (fun h7 => ?_) (fun h7 => ?_)
  · refine x_aload_n (q := 18) dX4_go_17 rfl rfl ?_
    refine x_getR (q := 21) dX4_go_18 rfl fl_X4_12 (or4_coast) ?_
    refine x_getI (q := 24) dX4_go_21 rfl fl_X4_97 (ob0_day isC_1) ?_
    refine x_ldc (q := 26) dX4_go_24 rfl kc_X4_107 ?_
    refine x_iload_n (q := 27) dX4_go_26 rfl rfl ?_
    refine x_isub (q := 28) dX4_go_27 rfl ?_
    refine x_icmp_le (q := 31) (t := 38) dX4_go_28 rfl (by decide) (fun h28 => ?_) (fun h28 => ?_)
    · obtain ⟨c, hc1, hc2, rfl⟩ := out_rng (a := 1) (b := 60) (by decide) (by decide) h7
      have ec : cl (nI c) = c := jnI_clamp (by omega)
      refine x_aload_n (q := 39) dX4_go_38 rfl rfl ?_
      refine x_getR (q := 42) dX4_go_39 rfl fl_X4_12 (or4_coast) ?_
      refine x_iload_n (q := 43) dX4_go_42 rfl rfl ?_
      refine x_callV1n (q := 46) dX4_go_43 rfl ml_X4_109 mv_X0_passDays (rv0 isC_1) rfl (p_X0_passDays isC_1 (by omega) hI) (Nat.le_of_ble_eq_true rfl) ⟨by decide, by decide⟩ ?_
      refine x_aload_n (q := 47) dX4_go_46 rfl rfl ?_
      refine x_getR (q := 50) dX4_go_47 rfl fl_X4_12 (or4_coast) ?_
      refine x_iconst (q := 51) (v := 1) dX4_go_50 rfl (by decide) ?_
      refine x_callV1v (q := 54) dX4_go_51 rfl ml_X4_113 mv_X0_allThatAre (rv0 isC_1) rfl (c_X0_allThatAre isC_1 (hI.days c).2.1 hI.1) (Nat.le_of_ble_eq_true rfl) ⟨by decide, by decide⟩ ?_
      refine x_ireturn dX4_go_54 rfl rfl ?_
      exact ⟨by rw [if_neg (by rw [h7]; decide), if_pos h28, ec], by rw [if_neg (by rw [h7]; decide), if_pos h28, ec]⟩
    refine x_aload_n (q := 32) dX4_go_31 rfl rfl ?_
    refine x_ldc (q := 34) dX4_go_32 rfl kc_X4_108 ?_
    refine x_callV1v (q := 37) dX4_go_34 rfl ml_X4_49 mv_X4_finding rv4 rfl (c_X4_finding (w := 4) (by decide) (by decide)) (Nat.le_of_ble_eq_true rfl) ⟨by decide, by decide⟩ ?_
    refine x_ireturn dX4_go_37 rfl rfl ?_
    exact ⟨by simp [h7, h28], by simp [h7, h28]⟩
  refine x_aload_n (q := 11) dX4_go_10 rfl rfl ?_
  refine x_ldc (q := 13) dX4_go_11 rfl kc_X4_48 ?_
  refine x_callV1v (q := 16) dX4_go_13 rfl ml_X4_49 mv_X4_finding rv4 rfl (c_X4_finding (w := 0) (by decide) (by decide)) (Nat.le_of_ble_eq_true rfl) ⟨by decide, by decide⟩ ?_
  refine x_ireturn dX4_go_16 rfl rfl ?_
  exact ⟨by simp [h7], by simp [h7]⟩
theorem dX5_go_0 : decode cX5_go 0 = .ok (.iload_n 1, 1) := by decide +kernel
theorem dX5_go_1 : decode cX5_go 1 = .ok (.iconst 1, 1) := by decide +kernel
theorem dX5_go_2 : decode cX5_go 2 = .ok (.bipush 60, 2) := by decide +kernel
theorem dX5_go_4 : decode cX5_go 4 = .ok (.invokestatic 48, 3) := by decide +kernel
theorem dX5_go_7 : decode cX5_go 7 = .ok (.ifCond .ne 9, 3) := by decide +kernel
theorem dX5_go_10 : decode cX5_go 10 = .ok (.aload_n 0, 1) := by decide +kernel
theorem dX5_go_11 : decode cX5_go 11 = .ok (.iconst 0, 1) := by decide +kernel
theorem dX5_go_12 : decode cX5_go 12 = .ok (.invokevirtual 103, 3) := by decide +kernel
theorem dX5_go_15 : decode cX5_go 15 = .ok (.ireturn, 1) := by decide +kernel
theorem dX5_go_16 : decode cX5_go 16 = .ok (.aload_n 0, 1) := by decide +kernel
theorem dX5_go_17 : decode cX5_go 17 = .ok (.getfield 9, 3) := by decide +kernel
theorem dX5_go_20 : decode cX5_go 20 = .ok (.iconst 0, 1) := by decide +kernel
theorem dX5_go_21 : decode cX5_go 21 = .ok (.iaload, 1) := by decide +kernel
theorem dX5_go_22 : decode cX5_go 22 = .ok (.iload_n 1, 1) := by decide +kernel
theorem dX5_go_23 : decode cX5_go 23 = .ok (.iadd, 1) := by decide +kernel
theorem dX5_go_24 : decode cX5_go 24 = .ok (.ldc 64, 2) := by decide +kernel
theorem dX5_go_26 : decode cX5_go 26 = .ok (.if_icmp .le 9, 3) := by decide +kernel
theorem dX5_go_29 : decode cX5_go 29 = .ok (.aload_n 0, 1) := by decide +kernel
theorem dX5_go_30 : decode cX5_go 30 = .ok (.iconst 4, 1) := by decide +kernel
theorem dX5_go_31 : decode cX5_go 31 = .ok (.invokevirtual 103, 3) := by decide +kernel
theorem dX5_go_34 : decode cX5_go 34 = .ok (.ireturn, 1) := by decide +kernel
theorem dX5_go_35 : decode cX5_go 35 = .ok (.aload_n 0, 1) := by decide +kernel
theorem dX5_go_36 : decode cX5_go 36 = .ok (.iload_n 1, 1) := by decide +kernel
theorem dX5_go_37 : decode cX5_go 37 = .ok (.invokevirtual 115, 3) := by decide +kernel
theorem dX5_go_40 : decode cX5_go 40 = .ok (.aload_n 0, 1) := by decide +kernel
theorem dX5_go_41 : decode cX5_go 41 = .ok (.iconst 1, 1) := by decide +kernel
theorem dX5_go_42 : decode cX5_go 42 = .ok (.invokevirtual 118, 3) := by decide +kernel
theorem dX5_go_45 : decode cX5_go 45 = .ok (.ireturn, 1) := by decide +kernel
set_option maxRecDepth 20000 in
set_option maxHeartbeats 4000000 in
theorem c_X5_go {K : Cx} {x : Int32} {n8 : Nat} {m : TM} (hI : Iv n8 (m.1 50)) : CT yX5_go cX5_go 2 (some .int) 5 113 K [.ref 49, .int x] (m) (some (.int ((if (outI x 1 60) = true then -1000001 else (if m.1 50 0 + x ≤ 99999 then thF (dysC n8 (cl x) (m.1 50)) 1 n8 else -1000005))))) ((if (outI x 1 60) = true then fnm m 0 else (if m.1 50 0 + x ≤ 99999 then sr m 50 (dysC n8 (cl x) (m.1 50)) else fnm m 4))) := by
  refine ct_ofd (n := 0) (by decide +kernel) rfl rfl ?_
  show XX RX5 cX5_go 2 (some .int) 5 113 K 0 [some (.ref 49), some (.int x)] [] (m) (fun r1 m1 => r1 = (some (.int ((if (outI x 1 60) = true then -1000001 else (if m.1 50 0 + x ≤ 99999 then thF (dysC n8 (cl x) (m.1 50)) 1 n8 else -1000005))))) ∧ m1 = (if (outI x 1 60) = true then fnm m 0 else (if m.1 50 0 + x ≤ 99999 then sr m 50 (dysC n8 (cl x) (m.1 50)) else fnm m 4)))
  refine x_iload_n (q := 1) dX5_go_0 rfl rfl ?_
  refine x_iconst (q := 2) (v := 1) dX5_go_1 rfl (by decide) ?_
  refine x_bipush (q := 4) (v := 60) dX5_go_2 rfl (by decide) ?_
  refine x_callS3v (q := 7) dX5_go_4 rfl ml_X5_48 ms_X5_in1 c_X5_in1 (Nat.le_of_ble_eq_true rfl) ⟨by decide, by decide⟩ ?_
  refine x_ifB_ne (q := 10) (t := 16) dX5_go_7 rfl (by decide) (fun h7 => ?_) (fun h7 => ?_)
  · replace h7 := in_t h7
    refine x_aload_n (q := 17) dX5_go_16 rfl rfl ?_
    refine x_getR (q := 20) dX5_go_17 rfl fl_X5_9 (or5_s) ?_
    refine x_iconst (q := 21) (v := 0) dX5_go_20 rfl (by decide) ?_
    refine x_iald (q := 22) dX5_go_21 rfl (ar_50) (ix_nI (k := 0) (by decide) (by decide)) (Nat.zero_add _) ?_
    refine x_iload_n (q := 23) dX5_go_22 rfl rfl ?_
    refine x_iadd (q := 24) dX5_go_23 rfl ?_
    refine x_ldc (q := 26) dX5_go_24 rfl kc_X5_64 ?_
    refine x_icmp_le (q := 29) (t := 35) dX5_go_26 rfl (by decide) (fun h26 => ?_) (fun h26 => ?_)
    · obtain ⟨c, hc1, hc2, rfl⟩ := out_rng (a := 1) (b := 60) (by decide) (by decide) h7
      have ec : cl (nI c) = c := jnI_clamp (by omega)
      refine x_aload_n (q := 36) dX5_go_35 rfl rfl ?_
      refine x_iload_n (q := 37) dX5_go_36 rfl rfl ?_
      refine x_callV1n (q := 40) dX5_go_37 rfl ml_X5_115 mv_X5_goes rv5 rfl (p_X5_goes (by omega) hI) (Nat.le_of_ble_eq_true rfl) ⟨by decide, by decide⟩ ?_
      refine x_aload_n (q := 41) dX5_go_40 rfl rfl ?_
      refine x_iconst (q := 42) (v := 1) dX5_go_41 rfl (by decide) ?_
      refine x_callV1v (q := 45) dX5_go_42 rfl ml_X5_118 mv_X5_those rv5 rfl (c_X5_those (hI.days c).2.1 hI.1) (Nat.le_of_ble_eq_true rfl) ⟨by decide, by decide⟩ ?_
      refine x_ireturn dX5_go_45 rfl rfl ?_
      exact ⟨by rw [if_neg (by rw [h7]; decide), if_pos h26, ec], by rw [if_neg (by rw [h7]; decide), if_pos h26, ec]⟩
    refine x_aload_n (q := 30) dX5_go_29 rfl rfl ?_
    refine x_iconst (q := 31) (v := 4) dX5_go_30 rfl (by decide) ?_
    refine x_callV1v (q := 34) dX5_go_31 rfl ml_X5_103 mv_X5_no rv5 rfl (c_X5_nox (w := 4) (x := -1000005) (by decide) (by decide)) (Nat.le_of_ble_eq_true rfl) ⟨by decide, by decide⟩ ?_
    refine x_ireturn dX5_go_34 rfl rfl ?_
    exact ⟨by simp [h7, h26], by simp [h7, h26]⟩
  replace h7 := in_f h7
  refine x_aload_n (q := 11) dX5_go_10 rfl rfl ?_
  refine x_iconst (q := 12) (v := 0) dX5_go_11 rfl (by decide) ?_
  refine x_callV1v (q := 15) dX5_go_12 rfl ml_X5_103 mv_X5_no rv5 rfl (c_X5_nox (w := 0) (x := -1000001) (by decide) (by decide)) (Nat.le_of_ble_eq_true rfl) ⟨by decide, by decide⟩ ?_
  refine x_ireturn dX5_go_15 rfl rfl ?_
  exact ⟨by simp [h7], by simp [h7]⟩
theorem dX4_swell_0 : decode cX4_swell 0 = .ok (.iload_n 1, 1) := by decide +kernel
theorem dX4_swell_1 : decode cX4_swell 1 = .ok (.iconst 1, 1) := by decide +kernel
theorem dX4_swell_2 : decode cX4_swell 2 = .ok (.bipush 20, 2) := by decide +kernel
theorem dX4_swell_4 : decode cX4_swell 4 = .ok (.invokestatic 44, 3) := by decide +kernel
theorem dX4_swell_7 : decode cX4_swell 7 = .ok (.ifCond .eq 10, 3) := by decide +kernel
theorem dX4_swell_10 : decode cX4_swell 10 = .ok (.aload_n 0, 1) := by decide +kernel
theorem dX4_swell_11 : decode cX4_swell 11 = .ok (.ldc 48, 2) := by decide +kernel
theorem dX4_swell_13 : decode cX4_swell 13 = .ok (.invokevirtual 49, 3) := by decide +kernel
theorem dX4_swell_16 : decode cX4_swell 16 = .ok (.ireturn, 1) := by decide +kernel
theorem dX4_swell_17 : decode cX4_swell 17 = .ok (.aload_n 0, 1) := by decide +kernel
theorem dX4_swell_18 : decode cX4_swell 18 = .ok (.getfield 12, 3) := by decide +kernel
theorem dX4_swell_21 : decode cX4_swell 21 = .ok (.getfield 97, 3) := by decide +kernel
theorem dX4_swell_24 : decode cX4_swell 24 = .ok (.ldc 107, 2) := by decide +kernel
theorem dX4_swell_26 : decode cX4_swell 26 = .ok (.iload_n 1, 1) := by decide +kernel
theorem dX4_swell_27 : decode cX4_swell 27 = .ok (.isub, 1) := by decide +kernel
theorem dX4_swell_28 : decode cX4_swell 28 = .ok (.if_icmp .le 10, 3) := by decide +kernel
theorem dX4_swell_31 : decode cX4_swell 31 = .ok (.aload_n 0, 1) := by decide +kernel
theorem dX4_swell_32 : decode cX4_swell 32 = .ok (.ldc 108, 2) := by decide +kernel
theorem dX4_swell_34 : decode cX4_swell 34 = .ok (.invokevirtual 49, 3) := by decide +kernel
theorem dX4_swell_37 : decode cX4_swell 37 = .ok (.ireturn, 1) := by decide +kernel
theorem dX4_swell_38 : decode cX4_swell 38 = .ok (.iconst 0, 1) := by decide +kernel
theorem dX4_swell_39 : decode cX4_swell 39 = .ok (.istore_n 2, 1) := by decide +kernel
theorem dX4_swell_40 : decode cX4_swell 40 = .ok (.iload_n 2, 1) := by decide +kernel
theorem dX4_swell_41 : decode cX4_swell 41 = .ok (.iload_n 1, 1) := by decide +kernel
theorem dX4_swell_42 : decode cX4_swell 42 = .ok (.if_icmp .ge 46, 3) := by decide +kernel
theorem dX4_swell_45 : decode cX4_swell 45 = .ok (.aload_n 0, 1) := by decide +kernel
theorem dX4_swell_46 : decode cX4_swell 46 = .ok (.getfield 12, 3) := by decide +kernel
theorem dX4_swell_49 : decode cX4_swell 49 = .ok (.invokevirtual 160, 3) := by decide +kernel
theorem dX4_swell_52 : decode cX4_swell 52 = .ok (.bipush 6, 2) := by decide +kernel
theorem dX4_swell_54 : decode cX4_swell 54 = .ok (.irem, 1) := by decide +kernel
theorem dX4_swell_55 : decode cX4_swell 55 = .ok (.istore_n 3, 1) := by decide +kernel
theorem dX4_swell_56 : decode cX4_swell 56 = .ok (.aload_n 0, 1) := by decide +kernel
theorem dX4_swell_57 : decode cX4_swell 57 = .ok (.getfield 12, 3) := by decide +kernel
theorem dX4_swell_60 : decode cX4_swell 60 = .ok (.getfield 53, 3) := by decide +kernel
theorem dX4_swell_63 : decode cX4_swell 63 = .ok (.iload_n 3, 1) := by decide +kernel
theorem dX4_swell_64 : decode cX4_swell 64 = .ok (.aload_n 0, 1) := by decide +kernel
theorem dX4_swell_65 : decode cX4_swell 65 = .ok (.getfield 12, 3) := by decide +kernel
theorem dX4_swell_68 : decode cX4_swell 68 = .ok (.invokevirtual 160, 3) := by decide +kernel
theorem dX4_swell_71 : decode cX4_swell 71 = .ok (.bipush 21, 2) := by decide +kernel
theorem dX4_swell_73 : decode cX4_swell 73 = .ok (.irem, 1) := by decide +kernel
theorem dX4_swell_74 : decode cX4_swell 74 = .ok (.iastore, 1) := by decide +kernel
theorem dX4_swell_75 : decode cX4_swell 75 = .ok (.aload_n 0, 1) := by decide +kernel
theorem dX4_swell_76 : decode cX4_swell 76 = .ok (.getfield 12, 3) := by decide +kernel
theorem dX4_swell_79 : decode cX4_swell 79 = .ok (.invokevirtual 136, 3) := by decide +kernel
theorem dX4_swell_82 : decode cX4_swell 82 = .ok (.iinc 2 1, 3) := by decide +kernel
theorem dX4_swell_85 : decode cX4_swell 85 = .ok (.goto (-45), 3) := by decide +kernel
theorem dX4_swell_88 : decode cX4_swell 88 = .ok (.aload_n 0, 1) := by decide +kernel
theorem dX4_swell_89 : decode cX4_swell 89 = .ok (.getfield 12, 3) := by decide +kernel
theorem dX4_swell_92 : decode cX4_swell 92 = .ok (.iconst 1, 1) := by decide +kernel
theorem dX4_swell_93 : decode cX4_swell 93 = .ok (.invokevirtual 113, 3) := by decide +kernel
theorem dX4_swell_96 : decode cX4_swell 96 = .ok (.ireturn, 1) := by decide +kernel
set_option maxRecDepth 20000 in
set_option maxHeartbeats 4000000 in
theorem l_X4_swell {K : Cx} {n8 c : Nat} {m : TM} (hc : c ≤ 100) : ∀ (n : Nat) (j : Nat) (u : Nat → Int32), c - j < n → j ≤ c → Iv n8 u → XX RX4 cX4_swell 4 (some .int) 4 87 K 40 [some (.ref 0), some (.int (nI c)), some (.int (nI j)), none] [] (sr m 1 u) (fun r1 m1 => r1 = (some (.int (thF (swF n8 (c - j) u) 1 n8))) ∧ m1 = sr m 1 (swF n8 (c - j) u)) := by
  intro n
  induction n with
  | zero => intro j u hlt; exact absurd hlt (Nat.not_lt_zero _)
  | succ n ih =>
    intro j u hlt hj hI
    refine x_iload_n (q := 41) dX4_swell_40 rfl rfl ?_
    refine x_iload_n (q := 42) dX4_swell_41 rfl rfl ?_
    refine x_icmp_ge (q := 45) (t := 88) dX4_swell_42 rfl (by decide) (fun h42 => ?_) (fun h42 => ?_)
    · have e : j = c := Nat.le_antisymm hj (lp_stop rfl (by omega) (by omega) h42)
      subst e
      refine x_aload_n (q := 89) dX4_swell_88 rfl rfl ?_
      refine x_getR (q := 92) dX4_swell_89 rfl fl_X4_12 (or4_coast) ?_
      refine x_iconst (q := 93) (v := 1) dX4_swell_92 rfl (by decide) ?_
      refine x_callV1v (q := 96) dX4_swell_93 rfl ml_X4_113 mv_X0_allThatAre (rv0 isC_1) rfl (c_X0_allThatAre isC_1 hI.2.1 hI.1) (Nat.le_of_ble_eq_true rfl) ⟨by decide, by decide⟩ ?_
      refine x_ireturn dX4_swell_96 rfl rfl ?_
      exact ⟨by rw [Nat.sub_self]; rfl, by rw [Nat.sub_self]; rfl⟩
    have hjn : j < c := lp_go rfl (by omega) (by omega) h42
    refine x_aload_n (q := 46) dX4_swell_45 rfl rfl ?_
    refine x_getR (q := 49) dX4_swell_46 rfl fl_X4_12 (or4_coast) ?_
    refine x_callV0v (q := 52) dX4_swell_49 rfl ml_X4_160 mv_X0_nextDraw (rv0 isC_1) rfl (c_X0_nextDraw isC_1) (Nat.le_of_ble_eq_true rfl) ⟨by decide, by decide⟩ ?_
    refine x_bipush (q := 54) (v := 6) dX4_swell_52 rfl (by decide) ?_
    refine x_irem (q := 55) dX4_swell_54 rfl (by decide) ?_
    refine x_istore_n (q := 56) dX4_swell_55 rfl (by decide) rfl rfl ?_
    refine x_aload_n (q := 57) dX4_swell_56 rfl rfl ?_
    refine x_getR (q := 60) dX4_swell_57 rfl fl_X4_12 (or4_coast) ?_
    refine x_getR (q := 63) dX4_swell_60 rfl fl_X4_53 (or0_list isC_1) ?_
    refine x_iload_n (q := 64) dX4_swell_63 rfl rfl ?_
    refine x_aload_n (q := 65) dX4_swell_64 rfl rfl ?_
    refine x_getR (q := 68) dX4_swell_65 rfl fl_X4_12 (or4_coast) ?_
    refine x_callV0v (q := 71) dX4_swell_68 rfl ml_X4_160 mv_X0_nextDraw (rv0 isC_1) rfl (c_X0_nextDraw isC_1) (Nat.le_of_ble_eq_true rfl) ⟨by decide, by decide⟩ ?_
    refine x_bipush (q := 73) (v := 21) dX4_swell_71 rfl (by decide) ?_
    refine x_irem (q := 74) dX4_swell_73 rfl (by decide) ?_
    refine x_iastr (q := 75) dX4_swell_74 rfl (ar_list isC_1) (ix_dr (u 2)) rfl  ?_
    rw [upd_self (i := 2)]
    refine x_aload_n (q := 76) dX4_swell_75 rfl rfl ?_
    refine x_getR (q := 79) dX4_swell_76 rfl fl_X4_12 (or4_coast) ?_
    refine x_callV0n (q := 82) dX4_swell_79 rfl ml_X4_136 mv_X0_passDay (rv0 isC_1) rfl (c_X0_passDay isC_1 hI.sw1.2.1 hI.1 hI.sw1.td) (Nat.le_of_ble_eq_true rfl) ⟨by decide, by decide⟩ ?_
    refine x_iinc (q := 85) (v := nI (j + 1)) dX4_swell_82 rfl rfl (jnI_s j) (by decide) rfl rfl ?_
    refine x_goto (q := 40) dX4_swell_85 (by decide) ?_
    have e : c - j = (c - (j + 1)) + 1 := by omega
    rw [e]
    exact x_ls (ih (j + 1) (dyC (sw1 u) n8) (by omega) (by omega) hI.sw1.day) (And.intro rfl (And.intro rfl (And.intro rfl trivial)))
set_option maxRecDepth 20000 in
set_option maxHeartbeats 4000000 in
theorem c_X4_swell {K : Cx} {x : Int32} {n8 : Nat} {m : TM} (hI : Iv n8 (m.1 1)) : CT yX4_swell cX4_swell 4 (some .int) 4 87 K [.ref 0, .int x] (m) (some (.int ((if (outI x 1 20) = true then -1000001 else (if m.1 1 0 ≤ 99999 - x then thF (swF n8 (cl x) (m.1 1)) 1 n8 else -1000005))))) ((if (outI x 1 20) = true then fnd m 0 else (if m.1 1 0 ≤ 99999 - x then sr m 1 (swF n8 (cl x) (m.1 1)) else fnd m 4))) := by
  refine ct_ofd (n := 2) (by decide +kernel) rfl rfl ?_
  show XX RX4 cX4_swell 4 (some .int) 4 87 K 0 [some (.ref 0), some (.int x), none, none] [] (m) (fun r1 m1 => r1 = (some (.int ((if (outI x 1 20) = true then -1000001 else (if m.1 1 0 ≤ 99999 - x then thF (swF n8 (cl x) (m.1 1)) 1 n8 else -1000005))))) ∧ m1 = (if (outI x 1 20) = true then fnd m 0 else (if m.1 1 0 ≤ 99999 - x then sr m 1 (swF n8 (cl x) (m.1 1)) else fnd m 4)))
  refine x_iload_n (q := 1) dX4_swell_0 rfl rfl ?_
  refine x_iconst (q := 2) (v := 1) dX4_swell_1 rfl (by decide) ?_
  refine x_bipush (q := 4) (v := 20) dX4_swell_2 rfl (by decide) ?_
  refine x_callS3v (q := 7) dX4_swell_4 rfl ml_X4_44 ms_X4_isOut c_X4_isOut (Nat.le_of_ble_eq_true rfl) ⟨by decide, by decide⟩ ?_
  refine x_ifB_eq (q := 10) (t := 17) dX4_swell_7 rfl (by decide) (fun h7 => ?_) (fun h7 => ?_)
  · refine x_aload_n (q := 18) dX4_swell_17 rfl rfl ?_
    refine x_getR (q := 21) dX4_swell_18 rfl fl_X4_12 (or4_coast) ?_
    refine x_getI (q := 24) dX4_swell_21 rfl fl_X4_97 (ob0_day isC_1) ?_
    refine x_ldc (q := 26) dX4_swell_24 rfl kc_X4_107 ?_
    refine x_iload_n (q := 27) dX4_swell_26 rfl rfl ?_
    refine x_isub (q := 28) dX4_swell_27 rfl ?_
    refine x_icmp_le (q := 31) (t := 38) dX4_swell_28 rfl (by decide) (fun h28 => ?_) (fun h28 => ?_)
    · obtain ⟨c, hc1, hc2, rfl⟩ := out_rng (a := 1) (b := 20) (by decide) (by decide) h7
      have ec : cl (nI c) = c := jnI_clamp (by omega)
      refine x_iconst (q := 39) (v := 0) dX4_swell_38 rfl (by decide) ?_
      refine x_istore_n (q := 40) dX4_swell_39 rfl (by decide) rfl rfl ?_
      simp only [h7, h28, Bool.false_eq_true, if_false, if_true, ec]
      have h := l_X4_swell (K := K) (m := m) (c := c) (by omega) (c + 1) 0 (m.1 1) (by omega) (by omega) hI
      rw [sr_self] at h
      exact h
    refine x_aload_n (q := 32) dX4_swell_31 rfl rfl ?_
    refine x_ldc (q := 34) dX4_swell_32 rfl kc_X4_108 ?_
    refine x_callV1v (q := 37) dX4_swell_34 rfl ml_X4_49 mv_X4_finding rv4 rfl (c_X4_finding (w := 4) (by decide) (by decide)) (Nat.le_of_ble_eq_true rfl) ⟨by decide, by decide⟩ ?_
    refine x_ireturn dX4_swell_37 rfl rfl ?_
    exact ⟨by simp [h7, h28], by simp [h7, h28]⟩
  refine x_aload_n (q := 11) dX4_swell_10 rfl rfl ?_
  refine x_ldc (q := 13) dX4_swell_11 rfl kc_X4_48 ?_
  refine x_callV1v (q := 16) dX4_swell_13 rfl ml_X4_49 mv_X4_finding rv4 rfl (c_X4_finding (w := 0) (by decide) (by decide)) (Nat.le_of_ble_eq_true rfl) ⟨by decide, by decide⟩ ?_
  refine x_ireturn dX4_swell_16 rfl rfl ?_
  exact ⟨by simp [h7], by simp [h7]⟩
theorem dX5_swell_0 : decode cX5_swell 0 = .ok (.iload_n 1, 1) := by decide +kernel
theorem dX5_swell_1 : decode cX5_swell 1 = .ok (.iconst 1, 1) := by decide +kernel
theorem dX5_swell_2 : decode cX5_swell 2 = .ok (.bipush 20, 2) := by decide +kernel
theorem dX5_swell_4 : decode cX5_swell 4 = .ok (.invokestatic 48, 3) := by decide +kernel
theorem dX5_swell_7 : decode cX5_swell 7 = .ok (.ifCond .ne 9, 3) := by decide +kernel
theorem dX5_swell_10 : decode cX5_swell 10 = .ok (.aload_n 0, 1) := by decide +kernel
theorem dX5_swell_11 : decode cX5_swell 11 = .ok (.iconst 0, 1) := by decide +kernel
theorem dX5_swell_12 : decode cX5_swell 12 = .ok (.invokevirtual 103, 3) := by decide +kernel
theorem dX5_swell_15 : decode cX5_swell 15 = .ok (.ireturn, 1) := by decide +kernel
theorem dX5_swell_16 : decode cX5_swell 16 = .ok (.aload_n 0, 1) := by decide +kernel
theorem dX5_swell_17 : decode cX5_swell 17 = .ok (.getfield 9, 3) := by decide +kernel
theorem dX5_swell_20 : decode cX5_swell 20 = .ok (.iconst 0, 1) := by decide +kernel
theorem dX5_swell_21 : decode cX5_swell 21 = .ok (.iaload, 1) := by decide +kernel
theorem dX5_swell_22 : decode cX5_swell 22 = .ok (.iload_n 1, 1) := by decide +kernel
theorem dX5_swell_23 : decode cX5_swell 23 = .ok (.iadd, 1) := by decide +kernel
theorem dX5_swell_24 : decode cX5_swell 24 = .ok (.ldc 64, 2) := by decide +kernel
theorem dX5_swell_26 : decode cX5_swell 26 = .ok (.if_icmp .le 9, 3) := by decide +kernel
theorem dX5_swell_29 : decode cX5_swell 29 = .ok (.aload_n 0, 1) := by decide +kernel
theorem dX5_swell_30 : decode cX5_swell 30 = .ok (.iconst 4, 1) := by decide +kernel
theorem dX5_swell_31 : decode cX5_swell 31 = .ok (.invokevirtual 103, 3) := by decide +kernel
theorem dX5_swell_34 : decode cX5_swell 34 = .ok (.ireturn, 1) := by decide +kernel
theorem dX5_swell_35 : decode cX5_swell 35 = .ok (.iconst 0, 1) := by decide +kernel
theorem dX5_swell_36 : decode cX5_swell 36 = .ok (.istore_n 2, 1) := by decide +kernel
theorem dX5_swell_37 : decode cX5_swell 37 = .ok (.iload_n 2, 1) := by decide +kernel
theorem dX5_swell_38 : decode cX5_swell 38 = .ok (.iload_n 1, 1) := by decide +kernel
theorem dX5_swell_39 : decode cX5_swell 39 = .ok (.if_icmp .ge 37, 3) := by decide +kernel
theorem dX5_swell_42 : decode cX5_swell 42 = .ok (.aload_n 0, 1) := by decide +kernel
theorem dX5_swell_43 : decode cX5_swell 43 = .ok (.invokevirtual 172, 3) := by decide +kernel
theorem dX5_swell_46 : decode cX5_swell 46 = .ok (.bipush 6, 2) := by decide +kernel
theorem dX5_swell_48 : decode cX5_swell 48 = .ok (.irem, 1) := by decide +kernel
theorem dX5_swell_49 : decode cX5_swell 49 = .ok (.istore_n 3, 1) := by decide +kernel
theorem dX5_swell_50 : decode cX5_swell 50 = .ok (.aload_n 0, 1) := by decide +kernel
theorem dX5_swell_51 : decode cX5_swell 51 = .ok (.getfield 9, 3) := by decide +kernel
theorem dX5_swell_54 : decode cX5_swell 54 = .ok (.bipush 6, 2) := by decide +kernel
theorem dX5_swell_56 : decode cX5_swell 56 = .ok (.iload_n 3, 1) := by decide +kernel
theorem dX5_swell_57 : decode cX5_swell 57 = .ok (.iadd, 1) := by decide +kernel
theorem dX5_swell_58 : decode cX5_swell 58 = .ok (.aload_n 0, 1) := by decide +kernel
theorem dX5_swell_59 : decode cX5_swell 59 = .ok (.invokevirtual 172, 3) := by decide +kernel
theorem dX5_swell_62 : decode cX5_swell 62 = .ok (.bipush 21, 2) := by decide +kernel
theorem dX5_swell_64 : decode cX5_swell 64 = .ok (.irem, 1) := by decide +kernel
theorem dX5_swell_65 : decode cX5_swell 65 = .ok (.iastore, 1) := by decide +kernel
theorem dX5_swell_66 : decode cX5_swell 66 = .ok (.aload_n 0, 1) := by decide +kernel
theorem dX5_swell_67 : decode cX5_swell 67 = .ok (.invokevirtual 93, 3) := by decide +kernel
theorem dX5_swell_70 : decode cX5_swell 70 = .ok (.iinc 2 1, 3) := by decide +kernel
theorem dX5_swell_73 : decode cX5_swell 73 = .ok (.goto (-36), 3) := by decide +kernel
theorem dX5_swell_76 : decode cX5_swell 76 = .ok (.aload_n 0, 1) := by decide +kernel
theorem dX5_swell_77 : decode cX5_swell 77 = .ok (.iconst 1, 1) := by decide +kernel
theorem dX5_swell_78 : decode cX5_swell 78 = .ok (.invokevirtual 118, 3) := by decide +kernel
theorem dX5_swell_81 : decode cX5_swell 81 = .ok (.ireturn, 1) := by decide +kernel
set_option maxRecDepth 20000 in
set_option maxHeartbeats 4000000 in
theorem l_X5_swell {K : Cx} {n8 c : Nat} {m : TM} (hc : c ≤ 100) : ∀ (n : Nat) (j : Nat) (u : Nat → Int32), c - j < n → j ≤ c → Iv n8 u → XX RX5 cX5_swell 4 (some .int) 4 91 K 37 [some (.ref 49), some (.int (nI c)), some (.int (nI j)), none] [] (sr m 50 u) (fun r1 m1 => r1 = (some (.int (thF (swF n8 (c - j) u) 1 n8))) ∧ m1 = sr m 50 (swF n8 (c - j) u)) := by
  intro n
  induction n with
  | zero => intro j u hlt; exact absurd hlt (Nat.not_lt_zero _)
  | succ n ih =>
    intro j u hlt hj hI
    refine x_iload_n (q := 38) dX5_swell_37 rfl rfl ?_
    refine x_iload_n (q := 39) dX5_swell_38 rfl rfl ?_
    refine x_icmp_ge (q := 42) (t := 76) dX5_swell_39 rfl (by decide) (fun h39 => ?_) (fun h39 => ?_)
    · have e : j = c := Nat.le_antisymm hj (lp_stop rfl (by omega) (by omega) h39)
      subst e
      refine x_aload_n (q := 77) dX5_swell_76 rfl rfl ?_
      refine x_iconst (q := 78) (v := 1) dX5_swell_77 rfl (by decide) ?_
      refine x_callV1v (q := 81) dX5_swell_78 rfl ml_X5_118 mv_X5_those rv5 rfl (c_X5_those hI.2.1 hI.1) (Nat.le_of_ble_eq_true rfl) ⟨by decide, by decide⟩ ?_
      refine x_ireturn dX5_swell_81 rfl rfl ?_
      exact ⟨by rw [Nat.sub_self]; rfl, by rw [Nat.sub_self]; rfl⟩
    have hjn : j < c := lp_go rfl (by omega) (by omega) h39
    refine x_aload_n (q := 43) dX5_swell_42 rfl rfl ?_
    refine x_callV0v (q := 46) dX5_swell_43 rfl ml_X5_172 mv_X5_draw rv5 rfl c_X5_draw (Nat.le_of_ble_eq_true rfl) ⟨by decide, by decide⟩ ?_
    refine x_bipush (q := 48) (v := 6) dX5_swell_46 rfl (by decide) ?_
    refine x_irem (q := 49) dX5_swell_48 rfl (by decide) ?_
    refine x_istore_n (q := 50) dX5_swell_49 rfl (by decide) rfl rfl ?_
    refine x_aload_n (q := 51) dX5_swell_50 rfl rfl ?_
    refine x_getR (q := 54) dX5_swell_51 rfl fl_X5_9 (or5_s) ?_
    refine x_bipush (q := 56) (v := 6) dX5_swell_54 rfl (by decide) ?_
    refine x_iload_n (q := 57) dX5_swell_56 rfl rfl ?_
    refine x_iadd (q := 58) dX5_swell_57 rfl ?_
    refine x_aload_n (q := 59) dX5_swell_58 rfl rfl ?_
    refine x_callV0v (q := 62) dX5_swell_59 rfl ml_X5_172 mv_X5_draw rv5 rfl c_X5_draw (Nat.le_of_ble_eq_true rfl) ⟨by decide, by decide⟩ ?_
    refine x_bipush (q := 64) (v := 21) dX5_swell_62 rfl (by decide) ?_
    refine x_irem (q := 65) dX5_swell_64 rfl (by decide) ?_
    refine x_iastr (q := 66) dX5_swell_65 rfl (ar_50) (ix_off 6 (ix_dr (u 2)) (by decide) (by decide)) (Nat.zero_add _)  ?_
    rw [upd_self (i := 2)]
    refine x_aload_n (q := 67) dX5_swell_66 rfl rfl ?_
    refine x_callV0n (q := 70) dX5_swell_67 rfl ml_X5_93 mv_X5_day rv5 rfl (c_X5_day hI.sw1) (Nat.le_of_ble_eq_true rfl) ⟨by decide, by decide⟩ ?_
    refine x_iinc (q := 73) (v := nI (j + 1)) dX5_swell_70 rfl rfl (jnI_s j) (by decide) rfl rfl ?_
    refine x_goto (q := 37) dX5_swell_73 (by decide) ?_
    have e : c - j = (c - (j + 1)) + 1 := by omega
    rw [e]
    exact x_ls (ih (j + 1) (dyC (sw1 u) n8) (by omega) (by omega) hI.sw1.day) (And.intro rfl (And.intro rfl (And.intro rfl trivial)))
set_option maxRecDepth 20000 in
set_option maxHeartbeats 4000000 in
theorem c_X5_swell {K : Cx} {x : Int32} {n8 : Nat} {m : TM} (hI : Iv n8 (m.1 50)) : CT yX5_swell cX5_swell 4 (some .int) 4 91 K [.ref 49, .int x] (m) (some (.int ((if (outI x 1 20) = true then -1000001 else (if m.1 50 0 + x ≤ 99999 then thF (swF n8 (cl x) (m.1 50)) 1 n8 else -1000005))))) ((if (outI x 1 20) = true then fnm m 0 else (if m.1 50 0 + x ≤ 99999 then sr m 50 (swF n8 (cl x) (m.1 50)) else fnm m 4))) := by
  refine ct_ofd (n := 2) (by decide +kernel) rfl rfl ?_
  show XX RX5 cX5_swell 4 (some .int) 4 91 K 0 [some (.ref 49), some (.int x), none, none] [] (m) (fun r1 m1 => r1 = (some (.int ((if (outI x 1 20) = true then -1000001 else (if m.1 50 0 + x ≤ 99999 then thF (swF n8 (cl x) (m.1 50)) 1 n8 else -1000005))))) ∧ m1 = (if (outI x 1 20) = true then fnm m 0 else (if m.1 50 0 + x ≤ 99999 then sr m 50 (swF n8 (cl x) (m.1 50)) else fnm m 4)))
  refine x_iload_n (q := 1) dX5_swell_0 rfl rfl ?_
  refine x_iconst (q := 2) (v := 1) dX5_swell_1 rfl (by decide) ?_
  refine x_bipush (q := 4) (v := 20) dX5_swell_2 rfl (by decide) ?_
  refine x_callS3v (q := 7) dX5_swell_4 rfl ml_X5_48 ms_X5_in1 c_X5_in1 (Nat.le_of_ble_eq_true rfl) ⟨by decide, by decide⟩ ?_
  refine x_ifB_ne (q := 10) (t := 16) dX5_swell_7 rfl (by decide) (fun h7 => ?_) (fun h7 => ?_)
  · replace h7 := in_t h7
    refine x_aload_n (q := 17) dX5_swell_16 rfl rfl ?_
    refine x_getR (q := 20) dX5_swell_17 rfl fl_X5_9 (or5_s) ?_
    refine x_iconst (q := 21) (v := 0) dX5_swell_20 rfl (by decide) ?_
    refine x_iald (q := 22) dX5_swell_21 rfl (ar_50) (ix_nI (k := 0) (by decide) (by decide)) (Nat.zero_add _) ?_
    refine x_iload_n (q := 23) dX5_swell_22 rfl rfl ?_
    refine x_iadd (q := 24) dX5_swell_23 rfl ?_
    refine x_ldc (q := 26) dX5_swell_24 rfl kc_X5_64 ?_
    refine x_icmp_le (q := 29) (t := 35) dX5_swell_26 rfl (by decide) (fun h26 => ?_) (fun h26 => ?_)
    · obtain ⟨c, hc1, hc2, rfl⟩ := out_rng (a := 1) (b := 20) (by decide) (by decide) h7
      have ec : cl (nI c) = c := jnI_clamp (by omega)
      refine x_iconst (q := 36) (v := 0) dX5_swell_35 rfl (by decide) ?_
      refine x_istore_n (q := 37) dX5_swell_36 rfl (by decide) rfl rfl ?_
      simp only [h7, h26, Bool.false_eq_true, if_false, if_true, ec]
      have h := l_X5_swell (K := K) (m := m) (c := c) (by omega) (c + 1) 0 (m.1 50) (by omega) (by omega) hI
      rw [sr_self] at h
      exact h
    refine x_aload_n (q := 30) dX5_swell_29 rfl rfl ?_
    refine x_iconst (q := 31) (v := 4) dX5_swell_30 rfl (by decide) ?_
    refine x_callV1v (q := 34) dX5_swell_31 rfl ml_X5_103 mv_X5_no rv5 rfl (c_X5_nox (w := 4) (x := -1000005) (by decide) (by decide)) (Nat.le_of_ble_eq_true rfl) ⟨by decide, by decide⟩ ?_
    refine x_ireturn dX5_swell_34 rfl rfl ?_
    exact ⟨by simp [h7, h26], by simp [h7, h26]⟩
  replace h7 := in_f h7
  refine x_aload_n (q := 11) dX5_swell_10 rfl rfl ?_
  refine x_iconst (q := 12) (v := 0) dX5_swell_11 rfl (by decide) ?_
  refine x_callV1v (q := 15) dX5_swell_12 rfl ml_X5_103 mv_X5_no rv5 rfl (c_X5_nox (w := 0) (x := -1000001) (by decide) (by decide)) (Nat.le_of_ble_eq_true rfl) ⟨by decide, by decide⟩ ?_
  refine x_ireturn dX5_swell_15 rfl rfl ?_
  exact ⟨by simp [h7], by simp [h7]⟩
theorem dJ6_bitCount_0f7a4_0 : decode cJ6_bitCount_0f7a4 0 = .ok (.iload_n 0, 1) := by decide +kernel
theorem dJ6_bitCount_0f7a4_1 : decode cJ6_bitCount_0f7a4 1 = .ok (.iload_n 0, 1) := by decide +kernel
theorem dJ6_bitCount_0f7a4_2 : decode cJ6_bitCount_0f7a4 2 = .ok (.iconst 1, 1) := by decide +kernel
theorem dJ6_bitCount_0f7a4_3 : decode cJ6_bitCount_0f7a4 3 = .ok (.iushr, 1) := by decide +kernel
theorem dJ6_bitCount_0f7a4_4 : decode cJ6_bitCount_0f7a4 4 = .ok (.ldc_w 265, 3) := by decide +kernel
theorem dJ6_bitCount_0f7a4_7 : decode cJ6_bitCount_0f7a4 7 = .ok (.iand, 1) := by decide +kernel
theorem dJ6_bitCount_0f7a4_8 : decode cJ6_bitCount_0f7a4 8 = .ok (.isub, 1) := by decide +kernel
theorem dJ6_bitCount_0f7a4_9 : decode cJ6_bitCount_0f7a4 9 = .ok (.istore_n 0, 1) := by decide +kernel
theorem dJ6_bitCount_0f7a4_10 : decode cJ6_bitCount_0f7a4 10 = .ok (.iload_n 0, 1) := by decide +kernel
theorem dJ6_bitCount_0f7a4_11 : decode cJ6_bitCount_0f7a4 11 = .ok (.ldc_w 266, 3) := by decide +kernel
theorem dJ6_bitCount_0f7a4_14 : decode cJ6_bitCount_0f7a4 14 = .ok (.iand, 1) := by decide +kernel
theorem dJ6_bitCount_0f7a4_15 : decode cJ6_bitCount_0f7a4 15 = .ok (.iload_n 0, 1) := by decide +kernel
theorem dJ6_bitCount_0f7a4_16 : decode cJ6_bitCount_0f7a4 16 = .ok (.iconst 2, 1) := by decide +kernel
theorem dJ6_bitCount_0f7a4_17 : decode cJ6_bitCount_0f7a4 17 = .ok (.iushr, 1) := by decide +kernel
theorem dJ6_bitCount_0f7a4_18 : decode cJ6_bitCount_0f7a4 18 = .ok (.ldc_w 266, 3) := by decide +kernel
theorem dJ6_bitCount_0f7a4_21 : decode cJ6_bitCount_0f7a4 21 = .ok (.iand, 1) := by decide +kernel
theorem dJ6_bitCount_0f7a4_22 : decode cJ6_bitCount_0f7a4 22 = .ok (.iadd, 1) := by decide +kernel
theorem dJ6_bitCount_0f7a4_23 : decode cJ6_bitCount_0f7a4 23 = .ok (.istore_n 0, 1) := by decide +kernel
theorem dJ6_bitCount_0f7a4_24 : decode cJ6_bitCount_0f7a4 24 = .ok (.iload_n 0, 1) := by decide +kernel
theorem dJ6_bitCount_0f7a4_25 : decode cJ6_bitCount_0f7a4 25 = .ok (.iload_n 0, 1) := by decide +kernel
theorem dJ6_bitCount_0f7a4_26 : decode cJ6_bitCount_0f7a4 26 = .ok (.iconst 4, 1) := by decide +kernel
theorem dJ6_bitCount_0f7a4_27 : decode cJ6_bitCount_0f7a4 27 = .ok (.iushr, 1) := by decide +kernel
theorem dJ6_bitCount_0f7a4_28 : decode cJ6_bitCount_0f7a4 28 = .ok (.iadd, 1) := by decide +kernel
theorem dJ6_bitCount_0f7a4_29 : decode cJ6_bitCount_0f7a4 29 = .ok (.ldc_w 267, 3) := by decide +kernel
theorem dJ6_bitCount_0f7a4_32 : decode cJ6_bitCount_0f7a4 32 = .ok (.iand, 1) := by decide +kernel
theorem dJ6_bitCount_0f7a4_33 : decode cJ6_bitCount_0f7a4 33 = .ok (.istore_n 0, 1) := by decide +kernel
theorem dJ6_bitCount_0f7a4_34 : decode cJ6_bitCount_0f7a4 34 = .ok (.iload_n 0, 1) := by decide +kernel
theorem dJ6_bitCount_0f7a4_35 : decode cJ6_bitCount_0f7a4 35 = .ok (.iload_n 0, 1) := by decide +kernel
theorem dJ6_bitCount_0f7a4_36 : decode cJ6_bitCount_0f7a4 36 = .ok (.bipush 8, 2) := by decide +kernel
theorem dJ6_bitCount_0f7a4_38 : decode cJ6_bitCount_0f7a4 38 = .ok (.iushr, 1) := by decide +kernel
theorem dJ6_bitCount_0f7a4_39 : decode cJ6_bitCount_0f7a4 39 = .ok (.iadd, 1) := by decide +kernel
theorem dJ6_bitCount_0f7a4_40 : decode cJ6_bitCount_0f7a4 40 = .ok (.istore_n 0, 1) := by decide +kernel
theorem dJ6_bitCount_0f7a4_41 : decode cJ6_bitCount_0f7a4 41 = .ok (.iload_n 0, 1) := by decide +kernel
theorem dJ6_bitCount_0f7a4_42 : decode cJ6_bitCount_0f7a4 42 = .ok (.iload_n 0, 1) := by decide +kernel
theorem dJ6_bitCount_0f7a4_43 : decode cJ6_bitCount_0f7a4 43 = .ok (.bipush 16, 2) := by decide +kernel
theorem dJ6_bitCount_0f7a4_45 : decode cJ6_bitCount_0f7a4 45 = .ok (.iushr, 1) := by decide +kernel
theorem dJ6_bitCount_0f7a4_46 : decode cJ6_bitCount_0f7a4 46 = .ok (.iadd, 1) := by decide +kernel
theorem dJ6_bitCount_0f7a4_47 : decode cJ6_bitCount_0f7a4 47 = .ok (.istore_n 0, 1) := by decide +kernel
theorem dJ6_bitCount_0f7a4_48 : decode cJ6_bitCount_0f7a4 48 = .ok (.iload_n 0, 1) := by decide +kernel
theorem dJ6_bitCount_0f7a4_49 : decode cJ6_bitCount_0f7a4 49 = .ok (.bipush 63, 2) := by decide +kernel
theorem dJ6_bitCount_0f7a4_51 : decode cJ6_bitCount_0f7a4 51 = .ok (.iand, 1) := by decide +kernel
theorem dJ6_bitCount_0f7a4_52 : decode cJ6_bitCount_0f7a4 52 = .ok (.ireturn, 1) := by decide +kernel
set_option maxRecDepth 20000 in
set_option maxHeartbeats 4000000 in
theorem c_J6_bitCount_0f7a4 {K : Cx} {x : Int32} {m : TM} : CT yJ6_bitCount_0f7a4 cJ6_bitCount_0f7a4 1 (some .int) 0 0 K [.int x] (m) (some (.int (bcnt x))) (m) := by
  refine ct_ofd (n := 0) (by decide +kernel) rfl rfl ?_
  show XX RJ6 cJ6_bitCount_0f7a4 1 (some .int) 0 0 K 0 [some (.int x)] [] (m) (fun r1 m1 => r1 = (some (.int (bcnt x))) ∧ m1 = m)
  refine x_iload_n (q := 1) dJ6_bitCount_0f7a4_0 rfl rfl ?_
  refine x_iload_n (q := 2) dJ6_bitCount_0f7a4_1 rfl rfl ?_
  refine x_iconst (q := 3) (v := 1) dJ6_bitCount_0f7a4_2 rfl (by decide) ?_
  refine x_iushr (q := 4) dJ6_bitCount_0f7a4_3 rfl ?_
  refine x_ldc_w (q := 7) dJ6_bitCount_0f7a4_4 rfl kc_J6_265 ?_
  refine x_iand (q := 8) dJ6_bitCount_0f7a4_7 rfl ?_
  refine x_isub (q := 9) dJ6_bitCount_0f7a4_8 rfl ?_
  refine x_istore_n (q := 10) dJ6_bitCount_0f7a4_9 rfl (by decide) rfl rfl ?_
  refine x_iload_n (q := 11) dJ6_bitCount_0f7a4_10 rfl rfl ?_
  refine x_ldc_w (q := 14) dJ6_bitCount_0f7a4_11 rfl kc_J6_266 ?_
  refine x_iand (q := 15) dJ6_bitCount_0f7a4_14 rfl ?_
  refine x_iload_n (q := 16) dJ6_bitCount_0f7a4_15 rfl rfl ?_
  refine x_iconst (q := 17) (v := 2) dJ6_bitCount_0f7a4_16 rfl (by decide) ?_
  refine x_iushr (q := 18) dJ6_bitCount_0f7a4_17 rfl ?_
  refine x_ldc_w (q := 21) dJ6_bitCount_0f7a4_18 rfl kc_J6_266 ?_
  refine x_iand (q := 22) dJ6_bitCount_0f7a4_21 rfl ?_
  refine x_iadd (q := 23) dJ6_bitCount_0f7a4_22 rfl ?_
  refine x_istore_n (q := 24) dJ6_bitCount_0f7a4_23 rfl (by decide) rfl rfl ?_
  refine x_iload_n (q := 25) dJ6_bitCount_0f7a4_24 rfl rfl ?_
  refine x_iload_n (q := 26) dJ6_bitCount_0f7a4_25 rfl rfl ?_
  refine x_iconst (q := 27) (v := 4) dJ6_bitCount_0f7a4_26 rfl (by decide) ?_
  refine x_iushr (q := 28) dJ6_bitCount_0f7a4_27 rfl ?_
  refine x_iadd (q := 29) dJ6_bitCount_0f7a4_28 rfl ?_
  refine x_ldc_w (q := 32) dJ6_bitCount_0f7a4_29 rfl kc_J6_267 ?_
  refine x_iand (q := 33) dJ6_bitCount_0f7a4_32 rfl ?_
  refine x_istore_n (q := 34) dJ6_bitCount_0f7a4_33 rfl (by decide) rfl rfl ?_
  refine x_iload_n (q := 35) dJ6_bitCount_0f7a4_34 rfl rfl ?_
  refine x_iload_n (q := 36) dJ6_bitCount_0f7a4_35 rfl rfl ?_
  refine x_bipush (q := 38) (v := 8) dJ6_bitCount_0f7a4_36 rfl (by decide) ?_
  refine x_iushr (q := 39) dJ6_bitCount_0f7a4_38 rfl ?_
  refine x_iadd (q := 40) dJ6_bitCount_0f7a4_39 rfl ?_
  refine x_istore_n (q := 41) dJ6_bitCount_0f7a4_40 rfl (by decide) rfl rfl ?_
  refine x_iload_n (q := 42) dJ6_bitCount_0f7a4_41 rfl rfl ?_
  refine x_iload_n (q := 43) dJ6_bitCount_0f7a4_42 rfl rfl ?_
  refine x_bipush (q := 45) (v := 16) dJ6_bitCount_0f7a4_43 rfl (by decide) ?_
  refine x_iushr (q := 46) dJ6_bitCount_0f7a4_45 rfl ?_
  refine x_iadd (q := 47) dJ6_bitCount_0f7a4_46 rfl ?_
  refine x_istore_n (q := 48) dJ6_bitCount_0f7a4_47 rfl (by decide) rfl rfl ?_
  refine x_iload_n (q := 49) dJ6_bitCount_0f7a4_48 rfl rfl ?_
  refine x_bipush (q := 51) (v := 63) dJ6_bitCount_0f7a4_49 rfl (by decide) ?_
  refine x_iand (q := 52) dJ6_bitCount_0f7a4_51 rfl ?_
  refine x_ireturn dJ6_bitCount_0f7a4_52 rfl rfl ?_
  exact ⟨rfl, rfl⟩
theorem dX4_count_0 : decode cX4_count 0 = .ok (.iload_n 1, 1) := by decide +kernel
theorem dX4_count_1 : decode cX4_count 1 = .ok (.tableswitch 115 0 7 #[47, 55, 63, 71, 79, 91, 99, 107], 47) := by decide +kernel
theorem dX4_count_48 : decode cX4_count 48 = .ok (.aload_n 0, 1) := by decide +kernel
theorem dX4_count_49 : decode cX4_count 49 = .ok (.getfield 12, 3) := by decide +kernel
theorem dX4_count_52 : decode cX4_count 52 = .ok (.getfield 97, 3) := by decide +kernel
theorem dX4_count_55 : decode cX4_count 55 = .ok (.ireturn, 1) := by decide +kernel
theorem dX4_count_56 : decode cX4_count 56 = .ok (.aload_n 0, 1) := by decide +kernel
theorem dX4_count_57 : decode cX4_count 57 = .ok (.getfield 12, 3) := by decide +kernel
theorem dX4_count_60 : decode cX4_count 60 = .ok (.getfield 73, 3) := by decide +kernel
theorem dX4_count_63 : decode cX4_count 63 = .ok (.ireturn, 1) := by decide +kernel
theorem dX4_count_64 : decode cX4_count 64 = .ok (.aload_n 0, 1) := by decide +kernel
theorem dX4_count_65 : decode cX4_count 65 = .ok (.getfield 12, 3) := by decide +kernel
theorem dX4_count_68 : decode cX4_count 68 = .ok (.getfield 116, 3) := by decide +kernel
theorem dX4_count_71 : decode cX4_count 71 = .ok (.ireturn, 1) := by decide +kernel
theorem dX4_count_72 : decode cX4_count 72 = .ok (.aload_n 0, 1) := by decide +kernel
theorem dX4_count_73 : decode cX4_count 73 = .ok (.getfield 12, 3) := by decide +kernel
theorem dX4_count_76 : decode cX4_count 76 = .ok (.getfield 56, 3) := by decide +kernel
theorem dX4_count_79 : decode cX4_count 79 = .ok (.ireturn, 1) := by decide +kernel
theorem dX4_count_80 : decode cX4_count 80 = .ok (.aload_n 0, 1) := by decide +kernel
theorem dX4_count_81 : decode cX4_count 81 = .ok (.getfield 12, 3) := by decide +kernel
theorem dX4_count_84 : decode cX4_count 84 = .ok (.iconst 1, 1) := by decide +kernel
theorem dX4_count_85 : decode cX4_count 85 = .ok (.invokevirtual 113, 3) := by decide +kernel
theorem dX4_count_88 : decode cX4_count 88 = .ok (.invokestatic 216, 3) := by decide +kernel
theorem dX4_count_91 : decode cX4_count 91 = .ok (.ireturn, 1) := by decide +kernel
theorem dX4_count_92 : decode cX4_count 92 = .ok (.aload_n 0, 1) := by decide +kernel
theorem dX4_count_93 : decode cX4_count 93 = .ok (.getfield 29, 3) := by decide +kernel
theorem dX4_count_96 : decode cX4_count 96 = .ok (.getfield 166, 3) := by decide +kernel
theorem dX4_count_99 : decode cX4_count 99 = .ok (.ireturn, 1) := by decide +kernel
theorem dX4_count_100 : decode cX4_count 100 = .ok (.aload_n 0, 1) := by decide +kernel
theorem dX4_count_101 : decode cX4_count 101 = .ok (.getfield 12, 3) := by decide +kernel
theorem dX4_count_104 : decode cX4_count 104 = .ok (.getfield 163, 3) := by decide +kernel
theorem dX4_count_107 : decode cX4_count 107 = .ok (.ireturn, 1) := by decide +kernel
theorem dX4_count_108 : decode cX4_count 108 = .ok (.aload_n 0, 1) := by decide +kernel
theorem dX4_count_109 : decode cX4_count 109 = .ok (.getfield 12, 3) := by decide +kernel
theorem dX4_count_112 : decode cX4_count 112 = .ok (.invokevirtual 221, 3) := by decide +kernel
theorem dX4_count_115 : decode cX4_count 115 = .ok (.ireturn, 1) := by decide +kernel
theorem dX4_count_116 : decode cX4_count 116 = .ok (.aload_n 0, 1) := by decide +kernel
theorem dX4_count_117 : decode cX4_count 117 = .ok (.ldc 48, 2) := by decide +kernel
theorem dX4_count_119 : decode cX4_count 119 = .ok (.invokevirtual 49, 3) := by decide +kernel
theorem dX4_count_122 : decode cX4_count 122 = .ok (.ireturn, 1) := by decide +kernel
set_option maxRecDepth 20000 in
set_option maxHeartbeats 4000000 in
theorem c_X4_count {K : Cx} {x : Int32} {n8 : Nat} {m : TM} (hI : Iv n8 (m.1 1)) : CT yX4_count cX4_count 2 (some .int) 2 44 K [.ref 0, .int x] (m) (some (.int (if x = 0 then m.1 1 0 else if x = 1 then m.1 1 1 else if x = 2 then m.1 1 3 else if x = 3 then m.1 1 4 else if x = 4 then bcnt (thF (m.1 1) 1 n8) else if x = 5 then m.1 37 1 else if x = 6 then m.1 1 2 else if x = 7 then spF (m.1 1) 10 else -1000001))) (if outI x 0 7 = true then fnd m 0 else m) := by
  refine ct_ofd (n := 0) (by decide +kernel) rfl rfl ?_
  show XX RX4 cX4_count 2 (some .int) 2 44 K 0 [some (.ref 0), some (.int x)] [] (m) (fun r1 m1 => r1 = (some (.int (if x = 0 then m.1 1 0 else if x = 1 then m.1 1 1 else if x = 2 then m.1 1 3 else if x = 3 then m.1 1 4 else if x = 4 then bcnt (thF (m.1 1) 1 n8) else if x = 5 then m.1 37 1 else if x = 6 then m.1 1 2 else if x = 7 then spF (m.1 1) 10 else -1000001))) ∧ m1 = if outI x 0 7 = true then fnd m 0 else m)
  refine x_iload_n (q := 1) dX4_count_0 rfl rfl ?_
  by_cases h1_0 : x = 0
  · refine x_tswC (q := 48) (k := 0) dX4_count_1 h1_0 (by decide) (by decide) rfl (by decide) ?_
    refine x_aload_n (q := 49) dX4_count_48 rfl rfl ?_
    refine x_getR (q := 52) dX4_count_49 rfl fl_X4_12 (or4_coast) ?_
    refine x_getI (q := 55) dX4_count_52 rfl fl_X4_97 (ob0_day isC_1) ?_
    refine x_ireturn dX4_count_55 rfl rfl ?_
    exact ⟨by simp [h1_0], by rw [h1_0]; rfl⟩
  by_cases h1_1 : x = 1
  · refine x_tswC (q := 56) (k := 1) dX4_count_1 h1_1 (by decide) (by decide) rfl (by decide) ?_
    refine x_aload_n (q := 57) dX4_count_56 rfl rfl ?_
    refine x_getR (q := 60) dX4_count_57 rfl fl_X4_12 (or4_coast) ?_
    refine x_getI (q := 63) dX4_count_60 rfl fl_X4_73 (ob0_laid isC_1) ?_
    refine x_ireturn dX4_count_63 rfl rfl ?_
    exact ⟨by simp [h1_0, h1_1], by rw [h1_1]; rfl⟩
  by_cases h1_2 : x = 2
  · refine x_tswC (q := 64) (k := 2) dX4_count_1 h1_2 (by decide) (by decide) rfl (by decide) ?_
    refine x_aload_n (q := 65) dX4_count_64 rfl rfl ?_
    refine x_getR (q := 68) dX4_count_65 rfl fl_X4_12 (or4_coast) ?_
    refine x_getI (q := 71) dX4_count_68 rfl fl_X4_116 (ob0_amber isC_1) ?_
    refine x_ireturn dX4_count_71 rfl rfl ?_
    exact ⟨by simp [h1_0, h1_1, h1_2], by rw [h1_2]; rfl⟩
  by_cases h1_3 : x = 3
  · refine x_tswC (q := 72) (k := 3) dX4_count_1 h1_3 (by decide) (by decide) rfl (by decide) ?_
    refine x_aload_n (q := 73) dX4_count_72 rfl rfl ?_
    refine x_getR (q := 76) dX4_count_73 rfl fl_X4_12 (or4_coast) ?_
    refine x_getI (q := 79) dX4_count_76 rfl fl_X4_56 (ob0_late isC_1) ?_
    refine x_ireturn dX4_count_79 rfl rfl ?_
    exact ⟨by simp [h1_0, h1_1, h1_2, h1_3], by rw [h1_3]; rfl⟩
  by_cases h1_4 : x = 4
  · refine x_tswC (q := 80) (k := 4) dX4_count_1 h1_4 (by decide) (by decide) rfl (by decide) ?_
    refine x_aload_n (q := 81) dX4_count_80 rfl rfl ?_
    refine x_getR (q := 84) dX4_count_81 rfl fl_X4_12 (or4_coast) ?_
    refine x_iconst (q := 85) (v := 1) dX4_count_84 rfl (by decide) ?_
    refine x_callV1v (q := 88) dX4_count_85 rfl ml_X4_113 mv_X0_allThatAre (rv0 isC_1) rfl (p_X0_allThatAre isC_1 hI.2.1 hI.1) (Nat.le_of_ble_eq_true rfl) ⟨by decide, by decide⟩ ?_
    refine x_callS1v (q := 91) dX4_count_88 rfl ml_X4_216 ms_J6_bitCount_0f7a4 c_J6_bitCount_0f7a4 (Nat.le_of_ble_eq_true rfl) ⟨by decide, by decide⟩ ?_
    refine x_ireturn dX4_count_91 rfl rfl ?_
    exact ⟨by simp [h1_0, h1_1, h1_2, h1_3, h1_4], by rw [h1_4]; rfl⟩
  by_cases h1_5 : x = 5
  · refine x_tswC (q := 92) (k := 5) dX4_count_1 h1_5 (by decide) (by decide) rfl (by decide) ?_
    refine x_aload_n (q := 93) dX4_count_92 rfl rfl ?_
    refine x_getR (q := 96) dX4_count_93 rfl fl_X4_29 (or4_tape) ?_
    refine x_getI (q := 99) dX4_count_96 rfl fl_X4_166 (ob3_length) ?_
    refine x_ireturn dX4_count_99 rfl rfl ?_
    exact ⟨by simp [h1_0, h1_1, h1_2, h1_3, h1_4, h1_5], by rw [h1_5]; rfl⟩
  by_cases h1_6 : x = 6
  · refine x_tswC (q := 100) (k := 6) dX4_count_1 h1_6 (by decide) (by decide) rfl (by decide) ?_
    refine x_aload_n (q := 101) dX4_count_100 rfl rfl ?_
    refine x_getR (q := 104) dX4_count_101 rfl fl_X4_12 (or4_coast) ?_
    refine x_getI (q := 107) dX4_count_104 rfl fl_X4_163 (ob0_z isC_1) ?_
    refine x_ireturn dX4_count_107 rfl rfl ?_
    exact ⟨by simp [h1_0, h1_1, h1_2, h1_3, h1_4, h1_5, h1_6], by rw [h1_6]; rfl⟩
  by_cases h1_7 : x = 7
  · refine x_tswC (q := 108) (k := 7) dX4_count_1 h1_7 (by decide) (by decide) rfl (by decide) ?_
    refine x_aload_n (q := 109) dX4_count_108 rfl rfl ?_
    refine x_getR (q := 112) dX4_count_109 rfl fl_X4_12 (or4_coast) ?_
    refine x_callV0v (q := 115) dX4_count_112 rfl ml_X4_221 mv_X0_spotsThatHold (rv0 isC_1) rfl (p_X0_spotsThatHold isC_1) (Nat.le_of_ble_eq_true rfl) ⟨by decide, by decide⟩ ?_
    refine x_ireturn dX4_count_115 rfl rfl ?_
    exact ⟨by simp [h1_0, h1_1, h1_2, h1_3, h1_4, h1_5, h1_6, h1_7], by rw [h1_7]; rfl⟩
  refine x_tswD (q := 116) dX4_count_1 (by have n0 := lv_neT h1_0 (a := 0) (by decide); have n1 := lv_neT h1_1 (a := 1) (by decide); have n2 := lv_neT h1_2 (a := 2) (by decide); have n3 := lv_neT h1_3 (a := 3) (by decide); have n4 := lv_neT h1_4 (a := 4) (by decide); have n5 := lv_neT h1_5 (a := 5) (by decide); have n6 := lv_neT h1_6 (a := 6) (by decide); have n7 := lv_neT h1_7 (a := 7) (by decide); omega) (by decide) ?_
  refine x_aload_n (q := 117) dX4_count_116 rfl rfl ?_
  refine x_ldc (q := 119) dX4_count_117 rfl kc_X4_48 ?_
  refine x_callV1v (q := 122) dX4_count_119 rfl ml_X4_49 mv_X4_finding rv4 rfl (c_X4_finding (w := 0) (by decide) (by decide)) (Nat.le_of_ble_eq_true rfl) ⟨by decide, by decide⟩ ?_
  refine x_ireturn dX4_count_122 rfl rfl ?_
  exact ⟨by simp [h1_0, h1_1, h1_2, h1_3, h1_4, h1_5, h1_6, h1_7], by rw [if_pos (sw_out h1_0 h1_1 h1_2 h1_3 h1_4 h1_5 h1_6 h1_7)]⟩
theorem dX5_count_0 : decode cX5_count 0 = .ok (.iconst 0, 1) := by decide +kernel
theorem dX5_count_1 : decode cX5_count 1 = .ok (.istore_n 2, 1) := by decide +kernel
theorem dX5_count_2 : decode cX5_count 2 = .ok (.iload_n 1, 1) := by decide +kernel
theorem dX5_count_3 : decode cX5_count 3 = .ok (.tableswitch 130 0 7 #[45, 52, 59, 66, 73, 82, 87, 94], 45) := by decide +kernel
theorem dX5_count_48 : decode cX5_count 48 = .ok (.aload_n 0, 1) := by decide +kernel
theorem dX5_count_49 : decode cX5_count 49 = .ok (.getfield 9, 3) := by decide +kernel
theorem dX5_count_52 : decode cX5_count 52 = .ok (.iconst 0, 1) := by decide +kernel
theorem dX5_count_53 : decode cX5_count 53 = .ok (.iaload, 1) := by decide +kernel
theorem dX5_count_54 : decode cX5_count 54 = .ok (.ireturn, 1) := by decide +kernel
theorem dX5_count_55 : decode cX5_count 55 = .ok (.aload_n 0, 1) := by decide +kernel
theorem dX5_count_56 : decode cX5_count 56 = .ok (.getfield 9, 3) := by decide +kernel
theorem dX5_count_59 : decode cX5_count 59 = .ok (.iconst 1, 1) := by decide +kernel
theorem dX5_count_60 : decode cX5_count 60 = .ok (.iaload, 1) := by decide +kernel
theorem dX5_count_61 : decode cX5_count 61 = .ok (.ireturn, 1) := by decide +kernel
theorem dX5_count_62 : decode cX5_count 62 = .ok (.aload_n 0, 1) := by decide +kernel
theorem dX5_count_63 : decode cX5_count 63 = .ok (.getfield 9, 3) := by decide +kernel
theorem dX5_count_66 : decode cX5_count 66 = .ok (.iconst 3, 1) := by decide +kernel
theorem dX5_count_67 : decode cX5_count 67 = .ok (.iaload, 1) := by decide +kernel
theorem dX5_count_68 : decode cX5_count 68 = .ok (.ireturn, 1) := by decide +kernel
theorem dX5_count_69 : decode cX5_count 69 = .ok (.aload_n 0, 1) := by decide +kernel
theorem dX5_count_70 : decode cX5_count 70 = .ok (.getfield 9, 3) := by decide +kernel
theorem dX5_count_73 : decode cX5_count 73 = .ok (.iconst 4, 1) := by decide +kernel
theorem dX5_count_74 : decode cX5_count 74 = .ok (.iaload, 1) := by decide +kernel
theorem dX5_count_75 : decode cX5_count 75 = .ok (.ireturn, 1) := by decide +kernel
theorem dX5_count_76 : decode cX5_count 76 = .ok (.aload_n 0, 1) := by decide +kernel
theorem dX5_count_77 : decode cX5_count 77 = .ok (.iconst 1, 1) := by decide +kernel
theorem dX5_count_78 : decode cX5_count 78 = .ok (.invokevirtual 118, 3) := by decide +kernel
theorem dX5_count_81 : decode cX5_count 81 = .ok (.invokestatic 149, 3) := by decide +kernel
theorem dX5_count_84 : decode cX5_count 84 = .ok (.ireturn, 1) := by decide +kernel
theorem dX5_count_85 : decode cX5_count 85 = .ok (.aload_n 0, 1) := by decide +kernel
theorem dX5_count_86 : decode cX5_count 86 = .ok (.getfield 177, 3) := by decide +kernel
theorem dX5_count_89 : decode cX5_count 89 = .ok (.ireturn, 1) := by decide +kernel
theorem dX5_count_90 : decode cX5_count 90 = .ok (.aload_n 0, 1) := by decide +kernel
theorem dX5_count_91 : decode cX5_count 91 = .ok (.getfield 9, 3) := by decide +kernel
theorem dX5_count_94 : decode cX5_count 94 = .ok (.iconst 2, 1) := by decide +kernel
theorem dX5_count_95 : decode cX5_count 95 = .ok (.iaload, 1) := by decide +kernel
theorem dX5_count_96 : decode cX5_count 96 = .ok (.ireturn, 1) := by decide +kernel
theorem dX5_count_97 : decode cX5_count 97 = .ok (.iconst 0, 1) := by decide +kernel
theorem dX5_count_98 : decode cX5_count 98 = .ok (.istore_n 3, 1) := by decide +kernel
theorem dX5_count_99 : decode cX5_count 99 = .ok (.iload_n 3, 1) := by decide +kernel
theorem dX5_count_100 : decode cX5_count 100 = .ok (.bipush 10, 2) := by decide +kernel
theorem dX5_count_102 : decode cX5_count 102 = .ok (.if_icmp .ge 29, 3) := by decide +kernel
theorem dX5_count_105 : decode cX5_count 105 = .ok (.iload_n 2, 1) := by decide +kernel
theorem dX5_count_106 : decode cX5_count 106 = .ok (.aload_n 0, 1) := by decide +kernel
theorem dX5_count_107 : decode cX5_count 107 = .ok (.getfield 9, 3) := by decide +kernel
theorem dX5_count_110 : decode cX5_count 110 = .ok (.bipush 68, 2) := by decide +kernel
theorem dX5_count_112 : decode cX5_count 112 = .ok (.iload_n 3, 1) := by decide +kernel
theorem dX5_count_113 : decode cX5_count 113 = .ok (.iadd, 1) := by decide +kernel
theorem dX5_count_114 : decode cX5_count 114 = .ok (.iaload, 1) := by decide +kernel
theorem dX5_count_115 : decode cX5_count 115 = .ok (.ifCond .lt 7, 3) := by decide +kernel
theorem dX5_count_118 : decode cX5_count 118 = .ok (.iconst 1, 1) := by decide +kernel
theorem dX5_count_119 : decode cX5_count 119 = .ok (.goto 4, 3) := by decide +kernel
theorem dX5_count_122 : decode cX5_count 122 = .ok (.iconst 0, 1) := by decide +kernel
theorem dX5_count_123 : decode cX5_count 123 = .ok (.iadd, 1) := by decide +kernel
theorem dX5_count_124 : decode cX5_count 124 = .ok (.istore_n 2, 1) := by decide +kernel
theorem dX5_count_125 : decode cX5_count 125 = .ok (.iinc 3 1, 3) := by decide +kernel
theorem dX5_count_128 : decode cX5_count 128 = .ok (.goto (-29), 3) := by decide +kernel
theorem dX5_count_131 : decode cX5_count 131 = .ok (.iload_n 2, 1) := by decide +kernel
theorem dX5_count_132 : decode cX5_count 132 = .ok (.ireturn, 1) := by decide +kernel
theorem dX5_count_133 : decode cX5_count 133 = .ok (.aload_n 0, 1) := by decide +kernel
theorem dX5_count_134 : decode cX5_count 134 = .ok (.iconst 0, 1) := by decide +kernel
theorem dX5_count_135 : decode cX5_count 135 = .ok (.invokevirtual 103, 3) := by decide +kernel
theorem dX5_count_138 : decode cX5_count 138 = .ok (.ireturn, 1) := by decide +kernel
set_option maxRecDepth 20000 in
set_option maxHeartbeats 4000000 in
theorem l_X5_count {K : Cx} {x : Int32} {N : Nat} {m : TM} (hN : N = 10) : ∀ (n : Nat) (j : Nat), 10 - j < n → j ≤ 10 → XX RX5 cX5_count 4 (some .int) 2 45 K 99 [some (.ref 49), some (.int x), some (.int (spM (m.1 50) j)), some (.int (nI j))] [] (m) (fun r1 m1 => r1 = (some (.int (spM (m.1 50) N))) ∧ m1 = m) := by
  intro n
  induction n with
  | zero => intro j hlt; exact absurd hlt (Nat.not_lt_zero _)
  | succ n ih =>
    intro j hlt hj
    refine x_iload_n (q := 100) dX5_count_99 rfl rfl ?_
    refine x_bipush (q := 102) (v := 10) dX5_count_100 rfl (by decide) ?_
    refine x_icmp_ge (q := 105) (t := 131) dX5_count_102 rfl (by decide) (fun h102 => ?_) (fun h102 => ?_)
    · refine x_iload_n (q := 132) dX5_count_131 rfl rfl ?_
      refine x_ireturn dX5_count_132 rfl rfl ?_
      have e : j = 10 := Nat.le_antisymm hj (lp_stop (n := 10) rfl (by omega) (by omega) h102)
      subst hN
      subst e
      exact ⟨rfl, rfl⟩
    have hjn : j < 10 := lp_go (n := 10) rfl (by omega) (by omega) h102
    refine x_iload_n (q := 106) dX5_count_105 rfl rfl ?_
    refine x_aload_n (q := 107) dX5_count_106 rfl rfl ?_
    refine x_getR (q := 110) dX5_count_107 rfl fl_X5_9 (or5_s) ?_
    refine x_bipush (q := 112) (v := 68) dX5_count_110 rfl (by decide) ?_
    refine x_iload_n (q := 113) dX5_count_112 rfl rfl ?_
    refine x_iadd (q := 114) dX5_count_113 rfl ?_
    refine x_iald (q := 115) dX5_count_114 rfl (ar_50) (ix_off 68 (ix_nI (n := 10) hjn (by decide)) (by decide) (by decide)) (Nat.zero_add _) ?_
    refine x_if_lt (q := 118) (t := 122) dX5_count_115 rfl (by decide) (fun h115 => ?_) (fun h115 => ?_)
    · refine x_iconst (q := 123) (v := 0) dX5_count_122 rfl (by decide) ?_
      refine x_iadd (q := 124) dX5_count_123 rfl ?_
      refine x_istore_n (q := 125) dX5_count_124 rfl (by decide) rfl rfl ?_
      refine x_iinc (q := 128) (v := nI (j + 1)) dX5_count_125 rfl rfl (jnI_s j) (by decide) rfl rfl ?_
      refine x_goto (q := 99) dX5_count_128 (by decide) ?_
      have key := ih (j + 1) (by omega) (by omega)
      simp only [spM, h115, if_true, if_false] at key
      rw [add0]
      exact key
    refine x_iconst (q := 119) (v := 1) dX5_count_118 rfl (by decide) ?_
    refine x_goto (q := 123) dX5_count_119 (by decide) ?_
    refine x_iadd (q := 124) dX5_count_123 rfl ?_
    refine x_istore_n (q := 125) dX5_count_124 rfl (by decide) rfl rfl ?_
    refine x_iinc (q := 128) (v := nI (j + 1)) dX5_count_125 rfl rfl (jnI_s j) (by decide) rfl rfl ?_
    refine x_goto (q := 99) dX5_count_128 (by decide) ?_
    have key := ih (j + 1) (by omega) (by omega)
    simp only [spM, h115, if_true, if_false] at key
    exact key
set_option maxRecDepth 20000 in
set_option maxHeartbeats 4000000 in
theorem c_X5_count {K : Cx} {x : Int32} {n8 : Nat} {m : TM} (hI : Iv n8 (m.1 50)) : CT yX5_count cX5_count 4 (some .int) 2 45 K [.ref 49, .int x] (m) (some (.int (if x = 0 then m.1 50 0 else if x = 1 then m.1 50 1 else if x = 2 then m.1 50 3 else if x = 3 then m.1 50 4 else if x = 4 then bcnt (thF (m.1 50) 1 n8) else if x = 5 then m.1 49 6 else if x = 6 then m.1 50 2 else if x = 7 then spM (m.1 50) 10 else -1000001))) (if outI x 0 7 = true then fnm m 0 else m) := by
  refine ct_ofd (n := 2) (by decide +kernel) rfl rfl ?_
  show XX RX5 cX5_count 4 (some .int) 2 45 K 0 [some (.ref 49), some (.int x), none, none] [] (m) (fun r1 m1 => r1 = (some (.int (if x = 0 then m.1 50 0 else if x = 1 then m.1 50 1 else if x = 2 then m.1 50 3 else if x = 3 then m.1 50 4 else if x = 4 then bcnt (thF (m.1 50) 1 n8) else if x = 5 then m.1 49 6 else if x = 6 then m.1 50 2 else if x = 7 then spM (m.1 50) 10 else -1000001))) ∧ m1 = if outI x 0 7 = true then fnm m 0 else m)
  refine x_iconst (q := 1) (v := 0) dX5_count_0 rfl (by decide) ?_
  refine x_istore_n (q := 2) dX5_count_1 rfl (by decide) rfl rfl ?_
  refine x_iload_n (q := 3) dX5_count_2 rfl rfl ?_
  by_cases h3_0 : x = 0
  · refine x_tswC (q := 48) (k := 0) dX5_count_3 h3_0 (by decide) (by decide) rfl (by decide) ?_
    refine x_aload_n (q := 49) dX5_count_48 rfl rfl ?_
    refine x_getR (q := 52) dX5_count_49 rfl fl_X5_9 (or5_s) ?_
    refine x_iconst (q := 53) (v := 0) dX5_count_52 rfl (by decide) ?_
    refine x_iald (q := 54) dX5_count_53 rfl (ar_50) (ix_nI (k := 0) (by decide) (by decide)) (Nat.zero_add _) ?_
    refine x_ireturn dX5_count_54 rfl rfl ?_
    exact ⟨by simp [h3_0], by rw [h3_0]; rfl⟩
  by_cases h3_1 : x = 1
  · refine x_tswC (q := 55) (k := 1) dX5_count_3 h3_1 (by decide) (by decide) rfl (by decide) ?_
    refine x_aload_n (q := 56) dX5_count_55 rfl rfl ?_
    refine x_getR (q := 59) dX5_count_56 rfl fl_X5_9 (or5_s) ?_
    refine x_iconst (q := 60) (v := 1) dX5_count_59 rfl (by decide) ?_
    refine x_iald (q := 61) dX5_count_60 rfl (ar_50) (ix_nI (k := 1) (by decide) (by decide)) (Nat.zero_add _) ?_
    refine x_ireturn dX5_count_61 rfl rfl ?_
    exact ⟨by simp [h3_0, h3_1], by rw [h3_1]; rfl⟩
  by_cases h3_2 : x = 2
  · refine x_tswC (q := 62) (k := 2) dX5_count_3 h3_2 (by decide) (by decide) rfl (by decide) ?_
    refine x_aload_n (q := 63) dX5_count_62 rfl rfl ?_
    refine x_getR (q := 66) dX5_count_63 rfl fl_X5_9 (or5_s) ?_
    refine x_iconst (q := 67) (v := 3) dX5_count_66 rfl (by decide) ?_
    refine x_iald (q := 68) dX5_count_67 rfl (ar_50) (ix_nI (k := 3) (by decide) (by decide)) (Nat.zero_add _) ?_
    refine x_ireturn dX5_count_68 rfl rfl ?_
    exact ⟨by simp [h3_0, h3_1, h3_2], by rw [h3_2]; rfl⟩
  by_cases h3_3 : x = 3
  · refine x_tswC (q := 69) (k := 3) dX5_count_3 h3_3 (by decide) (by decide) rfl (by decide) ?_
    refine x_aload_n (q := 70) dX5_count_69 rfl rfl ?_
    refine x_getR (q := 73) dX5_count_70 rfl fl_X5_9 (or5_s) ?_
    refine x_iconst (q := 74) (v := 4) dX5_count_73 rfl (by decide) ?_
    refine x_iald (q := 75) dX5_count_74 rfl (ar_50) (ix_nI (k := 4) (by decide) (by decide)) (Nat.zero_add _) ?_
    refine x_ireturn dX5_count_75 rfl rfl ?_
    exact ⟨by simp [h3_0, h3_1, h3_2, h3_3], by rw [h3_3]; rfl⟩
  by_cases h3_4 : x = 4
  · refine x_tswC (q := 76) (k := 4) dX5_count_3 h3_4 (by decide) (by decide) rfl (by decide) ?_
    obtain ⟨y, hy, ey⟩ := thF_nI (s := m.1 50) (x := 1) n8 hI.1
    have hy8 : y < 256 := Nat.lt_of_lt_of_le hy (Nat.pow_le_pow_right (by decide) hI.1)
    refine x_aload_n (q := 77) dX5_count_76 rfl rfl ?_
    refine x_iconst (q := 78) (v := 1) dX5_count_77 rfl (by decide) ?_
    refine x_callV1v (q := 81) dX5_count_78 rfl ml_X5_118 mv_X5_those rv5 rfl (p_X5_those hI.2.1 hI.1) (Nat.le_of_ble_eq_true rfl) ⟨by decide, by decide⟩ ?_
    refine x_callS1v (q := 84) dX5_count_81 rfl ml_X5_149 ms_X5_bits (by rw [ey]; exact c_X5_bits hy8) (Nat.le_of_ble_eq_true rfl) ⟨by decide, by decide⟩ ?_
    refine x_ireturn dX5_count_84 rfl rfl ?_
    exact ⟨by simp [h3_0, h3_1, h3_2, h3_3, h3_4, ey, bcnt_bt y hy8], by rw [h3_4]; rfl⟩
  by_cases h3_5 : x = 5
  · refine x_tswC (q := 85) (k := 5) dX5_count_3 h3_5 (by decide) (by decide) rfl (by decide) ?_
    refine x_aload_n (q := 86) dX5_count_85 rfl rfl ?_
    refine x_getI (q := 89) dX5_count_86 rfl fl_X5_177 (ob5_taped) ?_
    refine x_ireturn dX5_count_89 rfl rfl ?_
    exact ⟨by simp [h3_0, h3_1, h3_2, h3_3, h3_4, h3_5], by rw [h3_5]; rfl⟩
  by_cases h3_6 : x = 6
  · refine x_tswC (q := 90) (k := 6) dX5_count_3 h3_6 (by decide) (by decide) rfl (by decide) ?_
    refine x_aload_n (q := 91) dX5_count_90 rfl rfl ?_
    refine x_getR (q := 94) dX5_count_91 rfl fl_X5_9 (or5_s) ?_
    refine x_iconst (q := 95) (v := 2) dX5_count_94 rfl (by decide) ?_
    refine x_iald (q := 96) dX5_count_95 rfl (ar_50) (ix_nI (k := 2) (by decide) (by decide)) (Nat.zero_add _) ?_
    refine x_ireturn dX5_count_96 rfl rfl ?_
    exact ⟨by simp [h3_0, h3_1, h3_2, h3_3, h3_4, h3_5, h3_6], by rw [h3_6]; rfl⟩
  by_cases h3_7 : x = 7
  · refine x_tswC (q := 97) (k := 7) dX5_count_3 h3_7 (by decide) (by decide) rfl (by decide) ?_
    refine x_iconst (q := 98) (v := 0) dX5_count_97 rfl (by decide) ?_
    refine x_istore_n (q := 99) dX5_count_98 rfl (by decide) rfl rfl ?_
    have e1 : outI x 0 7 = false := by rw [h3_7]; rfl
    simp only [h3_0, h3_1, h3_2, h3_3, h3_4, h3_5, h3_6, e1, if_false, Bool.false_eq_true]
    rw [if_pos h3_7]
    exact l_X5_count rfl 11 0 (by omega) (by omega)
  refine x_tswD (q := 133) dX5_count_3 (by have n0 := lv_neT h3_0 (a := 0) (by decide); have n1 := lv_neT h3_1 (a := 1) (by decide); have n2 := lv_neT h3_2 (a := 2) (by decide); have n3 := lv_neT h3_3 (a := 3) (by decide); have n4 := lv_neT h3_4 (a := 4) (by decide); have n5 := lv_neT h3_5 (a := 5) (by decide); have n6 := lv_neT h3_6 (a := 6) (by decide); have n7 := lv_neT h3_7 (a := 7) (by decide); omega) (by decide) ?_
  refine x_aload_n (q := 134) dX5_count_133 rfl rfl ?_
  refine x_iconst (q := 135) (v := 0) dX5_count_134 rfl (by decide) ?_
  refine x_callV1v (q := 138) dX5_count_135 rfl ml_X5_103 mv_X5_no rv5 rfl (c_X5_nox (w := 0) (x := -1000001) (by decide) (by decide)) (Nat.le_of_ble_eq_true rfl) ⟨by decide, by decide⟩ ?_
  refine x_ireturn dX5_count_138 rfl rfl ?_
  exact ⟨by simp [h3_0, h3_1, h3_2, h3_3, h3_4, h3_5, h3_6, h3_7], by rw [if_pos (sw_out h3_0 h3_1 h3_2 h3_3 h3_4 h3_5 h3_6 h3_7)]⟩
theorem dX4_status_0 : decode cX4_status 0 = .ok (.iload_n 1, 1) := by decide +kernel
theorem dX4_status_1 : decode cX4_status 1 = .ok (.iconst (-1), 1) := by decide +kernel
theorem dX4_status_2 : decode cX4_status 2 = .ok (.bipush 6, 2) := by decide +kernel
theorem dX4_status_4 : decode cX4_status 4 = .ok (.invokestatic 44, 3) := by decide +kernel
theorem dX4_status_7 : decode cX4_status 7 = .ok (.ifCond .eq 10, 3) := by decide +kernel
theorem dX4_status_10 : decode cX4_status 10 = .ok (.aload_n 0, 1) := by decide +kernel
theorem dX4_status_11 : decode cX4_status 11 = .ok (.ldc 48, 2) := by decide +kernel
theorem dX4_status_13 : decode cX4_status 13 = .ok (.invokevirtual 49, 3) := by decide +kernel
theorem dX4_status_16 : decode cX4_status 16 = .ok (.ireturn, 1) := by decide +kernel
theorem dX4_status_17 : decode cX4_status 17 = .ok (.iload_n 1, 1) := by decide +kernel
theorem dX4_status_18 : decode cX4_status 18 = .ok (.ifCond .lt 10, 3) := by decide +kernel
theorem dX4_status_21 : decode cX4_status 21 = .ok (.aload_n 0, 1) := by decide +kernel
theorem dX4_status_22 : decode cX4_status 22 = .ok (.getfield 39, 3) := by decide +kernel
theorem dX4_status_25 : decode cX4_status 25 = .ok (.iload_n 1, 1) := by decide +kernel
theorem dX4_status_26 : decode cX4_status 26 = .ok (.iaload, 1) := by decide +kernel
theorem dX4_status_27 : decode cX4_status 27 = .ok (.ireturn, 1) := by decide +kernel
theorem dX4_status_28 : decode cX4_status 28 = .ok (.iconst 0, 1) := by decide +kernel
theorem dX4_status_29 : decode cX4_status 29 = .ok (.istore_n 2, 1) := by decide +kernel
theorem dX4_status_30 : decode cX4_status 30 = .ok (.aload_n 0, 1) := by decide +kernel
theorem dX4_status_31 : decode cX4_status 31 = .ok (.getfield 39, 3) := by decide +kernel
theorem dX4_status_34 : decode cX4_status 34 = .ok (.astore_n 3, 1) := by decide +kernel
theorem dX4_status_35 : decode cX4_status 35 = .ok (.aload_n 3, 1) := by decide +kernel
theorem dX4_status_36 : decode cX4_status 36 = .ok (.arraylength, 1) := by decide +kernel
theorem dX4_status_37 : decode cX4_status 37 = .ok (.istore 4, 2) := by decide +kernel
theorem dX4_status_39 : decode cX4_status 39 = .ok (.iconst 0, 1) := by decide +kernel
theorem dX4_status_40 : decode cX4_status 40 = .ok (.istore 5, 2) := by decide +kernel
theorem dX4_status_42 : decode cX4_status 42 = .ok (.iload 5, 2) := by decide +kernel
theorem dX4_status_44 : decode cX4_status 44 = .ok (.iload 4, 2) := by decide +kernel
theorem dX4_status_46 : decode cX4_status 46 = .ok (.if_icmp .ge 20, 3) := by decide +kernel
theorem dX4_status_49 : decode cX4_status 49 = .ok (.aload_n 3, 1) := by decide +kernel
theorem dX4_status_50 : decode cX4_status 50 = .ok (.iload 5, 2) := by decide +kernel
theorem dX4_status_52 : decode cX4_status 52 = .ok (.iaload, 1) := by decide +kernel
theorem dX4_status_53 : decode cX4_status 53 = .ok (.istore 6, 2) := by decide +kernel
theorem dX4_status_55 : decode cX4_status 55 = .ok (.iload_n 2, 1) := by decide +kernel
theorem dX4_status_56 : decode cX4_status 56 = .ok (.iload 6, 2) := by decide +kernel
theorem dX4_status_58 : decode cX4_status 58 = .ok (.iadd, 1) := by decide +kernel
theorem dX4_status_59 : decode cX4_status 59 = .ok (.istore_n 2, 1) := by decide +kernel
theorem dX4_status_60 : decode cX4_status 60 = .ok (.iinc 5 1, 3) := by decide +kernel
theorem dX4_status_63 : decode cX4_status 63 = .ok (.goto (-21), 3) := by decide +kernel
theorem dX4_status_66 : decode cX4_status 66 = .ok (.iload_n 2, 1) := by decide +kernel
theorem dX4_status_67 : decode cX4_status 67 = .ok (.ireturn, 1) := by decide +kernel
set_option maxRecDepth 20000 in
set_option maxHeartbeats 4000000 in
theorem l_X4_status {K : Cx} {x : Int32} {N : Nat} {m : TM} (hN : N = 7) : ∀ (n : Nat) (j : Nat), 7 - j < n → j ≤ 7 → XX RX4 cX4_status 7 (some .int) 2 44 K 42 [some (.ref 0), some (.int x), some (.int (suF (m.1 40) j)), some (.ref 40), some (.int 7), some (.int (nI j)), none] [] (m) (fun r1 m1 => r1 = (some (.int (suF (m.1 40) N))) ∧ m1 = m) := by
  intro n
  induction n with
  | zero => intro j hlt; exact absurd hlt (Nat.not_lt_zero _)
  | succ n ih =>
    intro j hlt hj
    refine x_iload (q := 44) dX4_status_42 rfl rfl ?_
    refine x_iload (q := 46) dX4_status_44 rfl rfl ?_
    refine x_icmp_ge (q := 49) (t := 66) dX4_status_46 rfl (by decide) (fun h46 => ?_) (fun h46 => ?_)
    · refine x_iload_n (q := 67) dX4_status_66 rfl rfl ?_
      refine x_ireturn dX4_status_67 rfl rfl ?_
      have e : j = 7 := Nat.le_antisymm hj (lp_stop (n := 7) rfl (by omega) (by omega) h46)
      subst hN
      subst e
      exact ⟨rfl, rfl⟩
    have hjn : j < 7 := lp_go (n := 7) rfl (by omega) (by omega) h46
    refine x_aload_n (q := 50) dX4_status_49 rfl rfl ?_
    refine x_iload (q := 52) dX4_status_50 rfl rfl ?_
    refine x_iald (q := 53) dX4_status_52 rfl (ar_40) (ix_nI (n := 7) hjn (by decide)) (Nat.zero_add _) ?_
    refine x_istore (q := 55) dX4_status_53 rfl (by decide) rfl rfl ?_
    refine x_iload_n (q := 56) dX4_status_55 rfl rfl ?_
    refine x_iload (q := 58) dX4_status_56 rfl rfl ?_
    refine x_iadd (q := 59) dX4_status_58 rfl ?_
    refine x_istore_n (q := 60) dX4_status_59 rfl (by decide) rfl rfl ?_
    refine x_iinc (q := 63) (v := nI (j + 1)) dX4_status_60 rfl rfl (jnI_s j) (by decide) rfl rfl ?_
    refine x_goto (q := 42) dX4_status_63 (by decide) ?_
    exact x_ls (ih (j + 1) (by omega) (by omega)) (And.intro rfl (And.intro rfl (And.intro rfl (And.intro rfl (And.intro rfl (And.intro rfl trivial))))))
theorem out_m1 {x : Int32} (h : outI x (-1) 6 = false) (h2 : ¬ x < 0) : outI x 0 6 = false := by
  unfold outI at *
  rw [Bool.or_eq_false_iff] at *
  exact ⟨decide_eq_false h2, h.2⟩
theorem out_m2 {x : Int32} (h : outI x (-1) 6 = false) (h2 : x < 0) : x = -1 := by
  unfold outI at h
  rw [Bool.or_eq_false_iff] at h
  have h1 := of_decide_eq_false h.1
  rw [Int32.lt_iff_toInt_lt] at h1 h2
  have z0 : (0 : Int32).toInt = 0 := by decide
  have z1 : (-1 : Int32).toInt = -1 := by decide
  rw [z0] at h2
  rw [z1] at h1
  apply Int32.toInt_inj.mp
  rw [z1]
  omega
set_option maxRecDepth 20000 in
set_option maxHeartbeats 4000000 in
theorem c_X4_status {K : Cx} {x : Int32} {m : TM} : CT yX4_status cX4_status 7 (some .int) 2 44 K [.ref 0, .int x] (m) (some (.int ((if (outI x (-1) 6) = true then -1000001 else (if x < 0 then suF (m.1 40) 7 else m.1 40 (cl x)))))) ((if (outI x (-1) 6) = true then fnd m 0 else m)) := by
  refine ct_ofd (n := 5) (by decide +kernel) rfl rfl ?_
  show XX RX4 cX4_status 7 (some .int) 2 44 K 0 [some (.ref 0), some (.int x), none, none, none, none, none] [] (m) (fun r1 m1 => r1 = (some (.int ((if (outI x (-1) 6) = true then -1000001 else (if x < 0 then suF (m.1 40) 7 else m.1 40 (cl x)))))) ∧ m1 = (if (outI x (-1) 6) = true then fnd m 0 else m))
  refine x_iload_n (q := 1) dX4_status_0 rfl rfl ?_
  refine x_iconst (q := 2) (v := (-1)) dX4_status_1 rfl (by decide) ?_
  refine x_bipush (q := 4) (v := 6) dX4_status_2 rfl (by decide) ?_
  refine x_callS3v (q := 7) dX4_status_4 rfl ml_X4_44 ms_X4_isOut c_X4_isOut (Nat.le_of_ble_eq_true rfl) ⟨by decide, by decide⟩ ?_
  refine x_ifB_eq (q := 10) (t := 17) dX4_status_7 rfl (by decide) (fun h7 => ?_) (fun h7 => ?_)
  · refine x_iload_n (q := 18) dX4_status_17 rfl rfl ?_
    refine x_if_lt (q := 21) (t := 28) dX4_status_18 rfl (by decide) (fun h18 => ?_) (fun h18 => ?_)
    · refine x_iconst (q := 29) (v := 0) dX4_status_28 rfl (by decide) ?_
      refine x_istore_n (q := 30) dX4_status_29 rfl (by decide) rfl rfl ?_
      refine x_aload_n (q := 31) dX4_status_30 rfl rfl ?_
      refine x_getR (q := 34) dX4_status_31 rfl fl_X4_39 (or4_found) ?_
      refine x_astore_n (q := 35) dX4_status_34 rfl (by decide) rfl rfl ?_
      refine x_aload_n (q := 36) dX4_status_35 rfl rfl ?_
      refine x_alen (q := 37) (v := 7) dX4_status_36 rfl (ra_40) (by decide) (by decide) ?_
      refine x_istore (q := 39) dX4_status_37 rfl (by decide) rfl rfl ?_
      refine x_iconst (q := 40) (v := 0) dX4_status_39 rfl (by decide) ?_
      refine x_istore (q := 42) dX4_status_40 rfl (by decide) rfl rfl ?_
      rw [if_neg (by rw [h7]; decide), if_pos h18, if_neg (by rw [h7]; decide)]
      exact x_ls (l_X4_status (x := x) rfl 8 0 (by omega) (by omega)) (And.intro rfl (And.intro rfl (And.intro rfl (And.intro rfl (And.intro rfl (And.intro rfl trivial))))))
    refine x_aload_n (q := 22) dX4_status_21 rfl rfl ?_
    refine x_getR (q := 25) dX4_status_22 rfl fl_X4_39 (or4_found) ?_
    refine x_iload_n (q := 26) dX4_status_25 rfl rfl ?_
    refine x_iald (q := 27) dX4_status_26 rfl (ar_40) (ix_out (out_m1 h7 h18) (by decide)) (Nat.zero_add _) ?_
    refine x_ireturn dX4_status_27 rfl rfl ?_
    exact ⟨by simp [h7, h18], by simp [h7, h18]⟩
  refine x_aload_n (q := 11) dX4_status_10 rfl rfl ?_
  refine x_ldc (q := 13) dX4_status_11 rfl kc_X4_48 ?_
  refine x_callV1v (q := 16) dX4_status_13 rfl ml_X4_49 mv_X4_finding rv4 rfl (c_X4_finding (w := 0) (by decide) (by decide)) (Nat.le_of_ble_eq_true rfl) ⟨by decide, by decide⟩ ?_
  refine x_ireturn dX4_status_16 rfl rfl ?_
  exact ⟨by simp [h7], by simp [h7]⟩
theorem dX5_status_0 : decode cX5_status 0 = .ok (.iload_n 1, 1) := by decide +kernel
theorem dX5_status_1 : decode cX5_status 1 = .ok (.iconst (-1), 1) := by decide +kernel
theorem dX5_status_2 : decode cX5_status 2 = .ok (.bipush 6, 2) := by decide +kernel
theorem dX5_status_4 : decode cX5_status 4 = .ok (.invokestatic 48, 3) := by decide +kernel
theorem dX5_status_7 : decode cX5_status 7 = .ok (.ifCond .ne 9, 3) := by decide +kernel
theorem dX5_status_10 : decode cX5_status 10 = .ok (.aload_n 0, 1) := by decide +kernel
theorem dX5_status_11 : decode cX5_status 11 = .ok (.iconst 0, 1) := by decide +kernel
theorem dX5_status_12 : decode cX5_status 12 = .ok (.invokevirtual 103, 3) := by decide +kernel
theorem dX5_status_15 : decode cX5_status 15 = .ok (.ireturn, 1) := by decide +kernel
theorem dX5_status_16 : decode cX5_status 16 = .ok (.iconst 0, 1) := by decide +kernel
theorem dX5_status_17 : decode cX5_status 17 = .ok (.istore_n 2, 1) := by decide +kernel
theorem dX5_status_18 : decode cX5_status 18 = .ok (.iconst 0, 1) := by decide +kernel
theorem dX5_status_19 : decode cX5_status 19 = .ok (.istore_n 3, 1) := by decide +kernel
theorem dX5_status_20 : decode cX5_status 20 = .ok (.iload_n 3, 1) := by decide +kernel
theorem dX5_status_21 : decode cX5_status 21 = .ok (.bipush 7, 2) := by decide +kernel
theorem dX5_status_23 : decode cX5_status 23 = .ok (.if_icmp .ge 32, 3) := by decide +kernel
theorem dX5_status_26 : decode cX5_status 26 = .ok (.iload_n 2, 1) := by decide +kernel
theorem dX5_status_27 : decode cX5_status 27 = .ok (.iload_n 1, 1) := by decide +kernel
theorem dX5_status_28 : decode cX5_status 28 = .ok (.iconst (-1), 1) := by decide +kernel
theorem dX5_status_29 : decode cX5_status 29 = .ok (.if_icmp .eq 8, 3) := by decide +kernel
theorem dX5_status_32 : decode cX5_status 32 = .ok (.iload_n 1, 1) := by decide +kernel
theorem dX5_status_33 : decode cX5_status 33 = .ok (.iload_n 3, 1) := by decide +kernel
theorem dX5_status_34 : decode cX5_status 34 = .ok (.if_icmp .ne 12, 3) := by decide +kernel
theorem dX5_status_37 : decode cX5_status 37 = .ok (.aload_n 0, 1) := by decide +kernel
theorem dX5_status_38 : decode cX5_status 38 = .ok (.getfield 19, 3) := by decide +kernel
theorem dX5_status_41 : decode cX5_status 41 = .ok (.iload_n 3, 1) := by decide +kernel
theorem dX5_status_42 : decode cX5_status 42 = .ok (.iaload, 1) := by decide +kernel
theorem dX5_status_43 : decode cX5_status 43 = .ok (.goto 4, 3) := by decide +kernel
theorem dX5_status_46 : decode cX5_status 46 = .ok (.iconst 0, 1) := by decide +kernel
theorem dX5_status_47 : decode cX5_status 47 = .ok (.iadd, 1) := by decide +kernel
theorem dX5_status_48 : decode cX5_status 48 = .ok (.istore_n 2, 1) := by decide +kernel
theorem dX5_status_49 : decode cX5_status 49 = .ok (.iinc 3 1, 3) := by decide +kernel
theorem dX5_status_52 : decode cX5_status 52 = .ok (.goto (-32), 3) := by decide +kernel
theorem dX5_status_55 : decode cX5_status 55 = .ok (.iload_n 2, 1) := by decide +kernel
theorem dX5_status_56 : decode cX5_status 56 = .ok (.ireturn, 1) := by decide +kernel
set_option maxRecDepth 20000 in
set_option maxHeartbeats 4000000 in
theorem l_X5_status {K : Cx} {x : Int32} {N : Nat} {m : TM} (hN : N = 7) : ∀ (n : Nat) (j : Nat), 7 - j < n → j ≤ 7 → XX RX5 cX5_status 4 (some .int) 1 22 K 20 [some (.ref 49), some (.int x), some (.int (suM (m.1 53) x j)), some (.int (nI j))] [] (m) (fun r1 m1 => r1 = (some (.int (suM (m.1 53) x N))) ∧ m1 = m) := by
  intro n
  induction n with
  | zero => intro j hlt; exact absurd hlt (Nat.not_lt_zero _)
  | succ n ih =>
    intro j hlt hj
    refine x_iload_n (q := 21) dX5_status_20 rfl rfl ?_
    refine x_bipush (q := 23) (v := 7) dX5_status_21 rfl (by decide) ?_
    refine x_icmp_ge (q := 26) (t := 55) dX5_status_23 rfl (by decide) (fun h23 => ?_) (fun h23 => ?_)
    · refine x_iload_n (q := 56) dX5_status_55 rfl rfl ?_
      refine x_ireturn dX5_status_56 rfl rfl ?_
      have e : j = 7 := Nat.le_antisymm hj (lp_stop (n := 7) rfl (by omega) (by omega) h23)
      subst hN
      subst e
      exact ⟨rfl, rfl⟩
    have hjn : j < 7 := lp_go (n := 7) rfl (by omega) (by omega) h23
    refine x_iload_n (q := 27) dX5_status_26 rfl rfl ?_
    refine x_iload_n (q := 28) dX5_status_27 rfl rfl ?_
    refine x_iconst (q := 29) (v := (-1)) dX5_status_28 rfl (by decide) ?_
    refine x_icmp_eq (q := 32) (t := 37) dX5_status_29 rfl (by decide) (fun h29 => ?_) (fun h29 => ?_)
    · refine x_aload_n (q := 38) dX5_status_37 rfl rfl ?_
      refine x_getR (q := 41) dX5_status_38 rfl fl_X5_19 (or5_found) ?_
      refine x_iload_n (q := 42) dX5_status_41 rfl rfl ?_
      refine x_iald (q := 43) dX5_status_42 rfl (ar_53) (ix_nI (n := 7) hjn (by decide)) (Nat.zero_add _) ?_
      refine x_goto (q := 47) dX5_status_43 (by decide) ?_
      refine x_iadd (q := 48) dX5_status_47 rfl ?_
      refine x_istore_n (q := 49) dX5_status_48 rfl (by decide) rfl rfl ?_
      refine x_iinc (q := 52) (v := nI (j + 1)) dX5_status_49 rfl rfl (jnI_s j) (by decide) rfl rfl ?_
      refine x_goto (q := 20) dX5_status_52 (by decide) ?_
      have key := ih (j + 1) (by omega) (by omega)
      rw [suM, if_pos (Or.inl h29)] at key
      exact key
    refine x_iload_n (q := 33) dX5_status_32 rfl rfl ?_
    refine x_iload_n (q := 34) dX5_status_33 rfl rfl ?_
    refine x_icmp_ne (q := 37) (t := 46) dX5_status_34 rfl (by decide) (fun h34 => ?_) (fun h34 => ?_)
    · refine x_iconst (q := 47) (v := 0) dX5_status_46 rfl (by decide) ?_
      refine x_iadd (q := 48) dX5_status_47 rfl ?_
      refine x_istore_n (q := 49) dX5_status_48 rfl (by decide) rfl rfl ?_
      refine x_iinc (q := 52) (v := nI (j + 1)) dX5_status_49 rfl rfl (jnI_s j) (by decide) rfl rfl ?_
      refine x_goto (q := 20) dX5_status_52 (by decide) ?_
      have key := ih (j + 1) (by omega) (by omega)
      rw [suM, if_neg (by rintro (q | q); exact h29 q; exact h34 q)] at key
      rw [add0]
      exact key
    refine x_aload_n (q := 38) dX5_status_37 rfl rfl ?_
    refine x_getR (q := 41) dX5_status_38 rfl fl_X5_19 (or5_found) ?_
    refine x_iload_n (q := 42) dX5_status_41 rfl rfl ?_
    refine x_iald (q := 43) dX5_status_42 rfl (ar_53) (ix_nI (n := 7) hjn (by decide)) (Nat.zero_add _) ?_
    refine x_goto (q := 47) dX5_status_43 (by decide) ?_
    refine x_iadd (q := 48) dX5_status_47 rfl ?_
    refine x_istore_n (q := 49) dX5_status_48 rfl (by decide) rfl rfl ?_
    refine x_iinc (q := 52) (v := nI (j + 1)) dX5_status_49 rfl rfl (jnI_s j) (by decide) rfl rfl ?_
    refine x_goto (q := 20) dX5_status_52 (by decide) ?_
    have key := ih (j + 1) (by omega) (by omega)
    rw [suM, if_pos (Or.inr h34)] at key
    exact key
set_option maxRecDepth 20000 in
set_option maxHeartbeats 4000000 in
theorem c_X5_status {K : Cx} {x : Int32} {m : TM} : CT yX5_status cX5_status 4 (some .int) 1 22 K [.ref 49, .int x] (m) (some (.int ((if (outI x (-1) 6) = true then -1000001 else suM (m.1 53) x 7)))) ((if (outI x (-1) 6) = true then fnm m 0 else m)) := by
  refine ct_ofd (n := 2) (by decide +kernel) rfl rfl ?_
  show XX RX5 cX5_status 4 (some .int) 1 22 K 0 [some (.ref 49), some (.int x), none, none] [] (m) (fun r1 m1 => r1 = (some (.int ((if (outI x (-1) 6) = true then -1000001 else suM (m.1 53) x 7)))) ∧ m1 = (if (outI x (-1) 6) = true then fnm m 0 else m))
  refine x_iload_n (q := 1) dX5_status_0 rfl rfl ?_
  refine x_iconst (q := 2) (v := (-1)) dX5_status_1 rfl (by decide) ?_
  refine x_bipush (q := 4) (v := 6) dX5_status_2 rfl (by decide) ?_
  refine x_callS3v (q := 7) dX5_status_4 rfl ml_X5_48 ms_X5_in1 c_X5_in1 (Nat.le_of_ble_eq_true rfl) ⟨by decide, by decide⟩ ?_
  refine x_ifB_ne (q := 10) (t := 16) dX5_status_7 rfl (by decide) (fun h7 => ?_) (fun h7 => ?_)
  · replace h7 := in_t h7
    refine x_iconst (q := 17) (v := 0) dX5_status_16 rfl (by decide) ?_
    refine x_istore_n (q := 18) dX5_status_17 rfl (by decide) rfl rfl ?_
    refine x_iconst (q := 19) (v := 0) dX5_status_18 rfl (by decide) ?_
    refine x_istore_n (q := 20) dX5_status_19 rfl (by decide) rfl rfl ?_
    rw [if_neg (by rw [h7]; decide), if_neg (by rw [h7]; decide)]
    exact l_X5_status rfl 8 0 (by omega) (by omega)
  replace h7 := in_f h7
  refine x_aload_n (q := 11) dX5_status_10 rfl rfl ?_
  refine x_iconst (q := 12) (v := 0) dX5_status_11 rfl (by decide) ?_
  refine x_callV1v (q := 15) dX5_status_12 rfl ml_X5_103 mv_X5_no rv5 rfl (c_X5_nox (w := 0) (x := -1000001) (by decide) (by decide)) (Nat.le_of_ble_eq_true rfl) ⟨by decide, by decide⟩ ?_
  refine x_ireturn dX5_status_15 rfl rfl ?_
  exact ⟨by simp [h7], by simp [h7]⟩
end

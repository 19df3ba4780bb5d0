section
-- ===== PART A: goes FIRST, ahead of the names: the tables' words, and 'selects' of the private methods out of them =====
/-- a private method of a class that the tables say can be made, by its rows of tables_1 -/
def lw_okq (q : MethodName × Nat) : Prop := (q.1.cls ≠ "java/lang/invoke/MethodHandle" ∧ q.1.cls ≠ "java/lang/invoke/VarHandle") ∧ Cond.instantiable q.1.cls q.2 ∈ tables_1 ∧ Cond.privateMethod q.1 ∈ tables_1 ∧ Cond.instanceMethod q.1 ∈ tables_1
theorem lw_p0 : lw_okq (⟨"FugueNotes", "found", "(I)I"⟩, 8) := ⟨⟨by decide +kernel, by decide +kernel⟩, List.mem_of_getElem? (i := 17) (by decide +kernel), List.mem_of_getElem? (i := 196) (by decide +kernel), List.mem_of_getElem? (i := 197) (by decide +kernel)⟩
theorem lw_p1 : lw_okq (⟨"FugueNotes", "toneOrNone", "(LFugueNotes$Tune;I)I"⟩, 8) := ⟨⟨by decide +kernel, by decide +kernel⟩, List.mem_of_getElem? (i := 17) (by decide +kernel), List.mem_of_getElem? (i := 217) (by decide +kernel), List.mem_of_getElem? (i := 218) (by decide +kernel)⟩
theorem lw_p2 : lw_okq (⟨"FugueNotes$Attache", "turnedAbout", "(LFugueNotes$Tune;I)I"⟩, 5) := ⟨⟨by decide +kernel, by decide +kernel⟩, List.mem_of_getElem? (i := 51) (by decide +kernel), List.mem_of_getElem? (i := 297) (by decide +kernel), List.mem_of_getElem? (i := 298) (by decide +kernel)⟩
theorem lw_p3 : lw_okq (⟨"FugueNotes$Attache", "isBlotted", "(I)Z"⟩, 5) := ⟨⟨by decide +kernel, by decide +kernel⟩, List.mem_of_getElem? (i := 51) (by decide +kernel), List.mem_of_getElem? (i := 301) (by decide +kernel), List.mem_of_getElem? (i := 302) (by decide +kernel)⟩
theorem lw_p4 : lw_okq (⟨"FugueNotes", "startTrial", "()V"⟩, 8) := ⟨⟨by decide +kernel, by decide +kernel⟩, List.mem_of_getElem? (i := 17) (by decide +kernel), List.mem_of_getElem? (i := 393) (by decide +kernel), List.mem_of_getElem? (i := 394) (by decide +kernel)⟩
theorem lw_p5 : lw_okq (⟨"FugueNotes", "soonestHome", "(IIIII)I"⟩, 8) := ⟨⟨by decide +kernel, by decide +kernel⟩, List.mem_of_getElem? (i := 17) (by decide +kernel), List.mem_of_getElem? (i := 443) (by decide +kernel), List.mem_of_getElem? (i := 444) (by decide +kernel)⟩
theorem lw_p6 : lw_okq (⟨"FugueNotes", "startTrialSwapped", "(II)Z"⟩, 8) := ⟨⟨by decide +kernel, by decide +kernel⟩, List.mem_of_getElem? (i := 17) (by decide +kernel), List.mem_of_getElem? (i := 467) (by decide +kernel), List.mem_of_getElem? (i := 468) (by decide +kernel)⟩
theorem lw_p7 : lw_okq (⟨"FugueNotes$Scribe", "advance", "()V"⟩, 5) := ⟨⟨by decide +kernel, by decide +kernel⟩, List.mem_of_getElem? (i := 117) (by decide +kernel), List.mem_of_getElem? (i := 499) (by decide +kernel), List.mem_of_getElem? (i := 500) (by decide +kernel)⟩
theorem lw_p8 : lw_okq (⟨"FugueNotes$Scribe", "takeWord", "()V"⟩, 5) := ⟨⟨by decide +kernel, by decide +kernel⟩, List.mem_of_getElem? (i := 117) (by decide +kernel), List.mem_of_getElem? (i := 510) (by decide +kernel), List.mem_of_getElem? (i := 511) (by decide +kernel)⟩
theorem lw_p9 : lw_okq (⟨"FugueNotes$Scribe", "takeNumber", "()V"⟩, 5) := ⟨⟨by decide +kernel, by decide +kernel⟩, List.mem_of_getElem? (i := 117) (by decide +kernel), List.mem_of_getElem? (i := 517) (by decide +kernel), List.mem_of_getElem? (i := 518) (by decide +kernel)⟩
theorem lw_p10 : lw_okq (⟨"FugueNotes$Scribe", "tellItem", "(LFugueNotes$Fugue;)Z"⟩, 5) := ⟨⟨by decide +kernel, by decide +kernel⟩, List.mem_of_getElem? (i := 117) (by decide +kernel), List.mem_of_getElem? (i := 522) (by decide +kernel), List.mem_of_getElem? (i := 523) (by decide +kernel)⟩
theorem lw_p11 : lw_okq (⟨"FugueNotes$Scribe", "isWord", "(Ljava/lang/String;)Z"⟩, 5) := ⟨⟨by decide +kernel, by decide +kernel⟩, List.mem_of_getElem? (i := 117) (by decide +kernel), List.mem_of_getElem? (i := 527) (by decide +kernel), List.mem_of_getElem? (i := 528) (by decide +kernel)⟩
theorem lw_p12 : lw_okq (⟨"FugueNotes$Scribe", "tellTune", "(LFugueNotes$Fugue;)Z"⟩, 5) := ⟨⟨by decide +kernel, by decide +kernel⟩, List.mem_of_getElem? (i := 117) (by decide +kernel), List.mem_of_getElem? (i := 579) (by decide +kernel), List.mem_of_getElem? (i := 580) (by decide +kernel)⟩
theorem lw_p13 : lw_okq (⟨"FugueNotes$Scribe", "isNumberTo", "(I)Z"⟩, 5) := ⟨⟨by decide +kernel, by decide +kernel⟩, List.mem_of_getElem? (i := 117) (by decide +kernel), List.mem_of_getElem? (i := 583) (by decide +kernel), List.mem_of_getElem? (i := 584) (by decide +kernel)⟩
theorem lw_p14 : lw_okq (⟨"FugueNotes$Scribe", "kindNamed", "()I"⟩, 5) := ⟨⟨by decide +kernel, by decide +kernel⟩, List.mem_of_getElem? (i := 117) (by decide +kernel), List.mem_of_getElem? (i := 590) (by decide +kernel), List.mem_of_getElem? (i := 591) (by decide +kernel)⟩
theorem lw_p15 : lw_okq (⟨"FugueNotes$Scribe", "tellAttache", "(LFugueNotes$Fugue;I)Z"⟩, 5) := ⟨⟨by decide +kernel, by decide +kernel⟩, List.mem_of_getElem? (i := 117) (by decide +kernel), List.mem_of_getElem? (i := 604) (by decide +kernel), List.mem_of_getElem? (i := 605) (by decide +kernel)⟩
def lw_privs_1 : List (MethodName × Nat) := [(⟨"FugueNotes", "found", "(I)I"⟩, 8), (⟨"FugueNotes", "toneOrNone", "(LFugueNotes$Tune;I)I"⟩, 8), (⟨"FugueNotes$Attache", "turnedAbout", "(LFugueNotes$Tune;I)I"⟩, 5), (⟨"FugueNotes$Attache", "isBlotted", "(I)Z"⟩, 5), (⟨"FugueNotes", "startTrial", "()V"⟩, 8), (⟨"FugueNotes", "soonestHome", "(IIIII)I"⟩, 8), (⟨"FugueNotes", "startTrialSwapped", "(II)Z"⟩, 8), (⟨"FugueNotes$Scribe", "advance", "()V"⟩, 5), (⟨"FugueNotes$Scribe", "takeWord", "()V"⟩, 5), (⟨"FugueNotes$Scribe", "takeNumber", "()V"⟩, 5), (⟨"FugueNotes$Scribe", "tellItem", "(LFugueNotes$Fugue;)Z"⟩, 5), (⟨"FugueNotes$Scribe", "isWord", "(Ljava/lang/String;)Z"⟩, 5), (⟨"FugueNotes$Scribe", "tellTune", "(LFugueNotes$Fugue;)Z"⟩, 5), (⟨"FugueNotes$Scribe", "isNumberTo", "(I)Z"⟩, 5), (⟨"FugueNotes$Scribe", "kindNamed", "()I"⟩, 5), (⟨"FugueNotes$Scribe", "tellAttache", "(LFugueNotes$Fugue;I)Z"⟩, 5)]
theorem lw_r1 : ∀ q ∈ lw_privs_1, lw_okq q := List.forall_mem_cons.mpr ⟨lw_p0, List.forall_mem_cons.mpr ⟨lw_p1, List.forall_mem_cons.mpr ⟨lw_p2, List.forall_mem_cons.mpr ⟨lw_p3, List.forall_mem_cons.mpr ⟨lw_p4, List.forall_mem_cons.mpr ⟨lw_p5, List.forall_mem_cons.mpr ⟨lw_p6, List.forall_mem_cons.mpr ⟨lw_p7, List.forall_mem_cons.mpr ⟨lw_p8, List.forall_mem_cons.mpr ⟨lw_p9, List.forall_mem_cons.mpr ⟨lw_p10, List.forall_mem_cons.mpr ⟨lw_p11, List.forall_mem_cons.mpr ⟨lw_p12, List.forall_mem_cons.mpr ⟨lw_p13, List.forall_mem_cons.mpr ⟨lw_p14, List.forall_mem_cons.mpr ⟨lw_p15, fun _ h => absurd h List.not_mem_nil⟩⟩⟩⟩⟩⟩⟩⟩⟩⟩⟩⟩⟩⟩⟩⟩
theorem lw_p16 : lw_okq (⟨"FugueNotes", "faultOfSheet", "(I)I"⟩, 8) := ⟨⟨by decide +kernel, by decide +kernel⟩, List.mem_of_getElem? (i := 17) (by decide +kernel), List.mem_of_getElem? (i := 632) (by decide +kernel), List.mem_of_getElem? (i := 633) (by decide +kernel)⟩
theorem lw_p17 : lw_okq (⟨"FugueNotes$Sheet", "lowestBits", "(J)J"⟩, 3) := ⟨⟨by decide +kernel, by decide +kernel⟩, List.mem_of_getElem? (i := 140) (by decide +kernel), List.mem_of_getElem? (i := 645) (by decide +kernel), List.mem_of_getElem? (i := 646) (by decide +kernel)⟩
theorem lw_p18 : lw_okq (⟨"FugueNotes", "faultOfSheetAndSide", "(II)I"⟩, 8) := ⟨⟨by decide +kernel, by decide +kernel⟩, List.mem_of_getElem? (i := 17) (by decide +kernel), List.mem_of_getElem? (i := 662) (by decide +kernel), List.mem_of_getElem? (i := 663) (by decide +kernel)⟩
theorem lw_p19 : lw_okq (⟨"FugueNotes", "isJustWritten", "(LFugueNotes$Sheet;LFugueNotes$Attache;)Z"⟩, 8) := ⟨⟨by decide +kernel, by decide +kernel⟩, List.mem_of_getElem? (i := 17) (by decide +kernel), List.mem_of_getElem? (i := 675) (by decide +kernel), List.mem_of_getElem? (i := 676) (by decide +kernel)⟩
theorem lw_p20 : lw_okq (⟨"FugueNotesModel", "laysTune", "(IIJ)I"⟩, 24) := ⟨⟨by decide +kernel, by decide +kernel⟩, List.mem_of_getElem? (i := 713) (by decide +kernel), List.mem_of_getElem? (i := 810) (by decide +kernel), List.mem_of_getElem? (i := 811) (by decide +kernel)⟩
theorem lw_p21 : lw_okq (⟨"FugueNotesModel", "become", "(II)I"⟩, 24) := ⟨⟨by decide +kernel, by decide +kernel⟩, List.mem_of_getElem? (i := 713) (by decide +kernel), List.mem_of_getElem? (i := 815) (by decide +kernel), List.mem_of_getElem? (i := 816) (by decide +kernel)⟩
theorem lw_p22 : lw_okq (⟨"FugueNotesModel", "finding", "(I)I"⟩, 24) := ⟨⟨by decide +kernel, by decide +kernel⟩, List.mem_of_getElem? (i := 713) (by decide +kernel), List.mem_of_getElem? (i := 820) (by decide +kernel), List.mem_of_getElem? (i := 821) (by decide +kernel)⟩
theorem lw_p23 : lw_okq (⟨"FugueNotesModel", "length", "(I)I"⟩, 24) := ⟨⟨by decide +kernel, by decide +kernel⟩, List.mem_of_getElem? (i := 713) (by decide +kernel), List.mem_of_getElem? (i := 828) (by decide +kernel), List.mem_of_getElem? (i := 829) (by decide +kernel)⟩
theorem lw_p24 : lw_okq (⟨"FugueNotesModel", "toneOf", "(II)I"⟩, 24) := ⟨⟨by decide +kernel, by decide +kernel⟩, List.mem_of_getElem? (i := 713) (by decide +kernel), List.mem_of_getElem? (i := 832) (by decide +kernel), List.mem_of_getElem? (i := 833) (by decide +kernel)⟩
theorem lw_p25 : lw_okq (⟨"FugueNotesModel", "tensionOf", "(I)I"⟩, 24) := ⟨⟨by decide +kernel, by decide +kernel⟩, List.mem_of_getElem? (i := 713) (by decide +kernel), List.mem_of_getElem? (i := 841) (by decide +kernel), List.mem_of_getElem? (i := 842) (by decide +kernel)⟩
theorem lw_p26 : lw_okq (⟨"FugueNotesModel", "isHome", "(I)Z"⟩, 24) := ⟨⟨by decide +kernel, by decide +kernel⟩, List.mem_of_getElem? (i := 713) (by decide +kernel), List.mem_of_getElem? (i := 847) (by decide +kernel), List.mem_of_getElem? (i := 848) (by decide +kernel)⟩
theorem lw_p27 : lw_okq (⟨"FugueNotesModel", "tonesIn", "(I)I"⟩, 24) := ⟨⟨by decide +kernel, by decide +kernel⟩, List.mem_of_getElem? (i := 713) (by decide +kernel), List.mem_of_getElem? (i := 851) (by decide +kernel), List.mem_of_getElem? (i := 852) (by decide +kernel)⟩
theorem lw_p28 : lw_okq (⟨"FugueNotesModel", "manyOf", "(I)I"⟩, 24) := ⟨⟨by decide +kernel, by decide +kernel⟩, List.mem_of_getElem? (i := 713) (by decide +kernel), List.mem_of_getElem? (i := 855) (by decide +kernel), List.mem_of_getElem? (i := 856) (by decide +kernel)⟩
theorem lw_p29 : lw_okq (⟨"FugueNotesModel", "attacheIs", "(II)I"⟩, 24) := ⟨⟨by decide +kernel, by decide +kernel⟩, List.mem_of_getElem? (i := 713) (by decide +kernel), List.mem_of_getElem? (i := 859) (by decide +kernel), List.mem_of_getElem? (i := 860) (by decide +kernel)⟩
theorem lw_p30 : lw_okq (⟨"FugueNotesModel", "comes", "(IIII)I"⟩, 24) := ⟨⟨by decide +kernel, by decide +kernel⟩, List.mem_of_getElem? (i := 713) (by decide +kernel), List.mem_of_getElem? (i := 874) (by decide +kernel), List.mem_of_getElem? (i := 875) (by decide +kernel)⟩
theorem lw_p31 : lw_okq (⟨"FugueNotesModel", "isAttache", "(I)Z"⟩, 24) := ⟨⟨by decide +kernel, by decide +kernel⟩, List.mem_of_getElem? (i := 713) (by decide +kernel), List.mem_of_getElem? (i := 882) (by decide +kernel), List.mem_of_getElem? (i := 883) (by decide +kernel)⟩
def lw_privs_2 : List (MethodName × Nat) := [(⟨"FugueNotes", "faultOfSheet", "(I)I"⟩, 8), (⟨"FugueNotes$Sheet", "lowestBits", "(J)J"⟩, 3), (⟨"FugueNotes", "faultOfSheetAndSide", "(II)I"⟩, 8), (⟨"FugueNotes", "isJustWritten", "(LFugueNotes$Sheet;LFugueNotes$Attache;)Z"⟩, 8), (⟨"FugueNotesModel", "laysTune", "(IIJ)I"⟩, 24), (⟨"FugueNotesModel", "become", "(II)I"⟩, 24), (⟨"FugueNotesModel", "finding", "(I)I"⟩, 24), (⟨"FugueNotesModel", "length", "(I)I"⟩, 24), (⟨"FugueNotesModel", "toneOf", "(II)I"⟩, 24), (⟨"FugueNotesModel", "tensionOf", "(I)I"⟩, 24), (⟨"FugueNotesModel", "isHome", "(I)Z"⟩, 24), (⟨"FugueNotesModel", "tonesIn", "(I)I"⟩, 24), (⟨"FugueNotesModel", "manyOf", "(I)I"⟩, 24), (⟨"FugueNotesModel", "attacheIs", "(II)I"⟩, 24), (⟨"FugueNotesModel", "comes", "(IIII)I"⟩, 24), (⟨"FugueNotesModel", "isAttache", "(I)Z"⟩, 24)]
theorem lw_r2 : ∀ q ∈ lw_privs_2, lw_okq q := List.forall_mem_cons.mpr ⟨lw_p16, List.forall_mem_cons.mpr ⟨lw_p17, List.forall_mem_cons.mpr ⟨lw_p18, List.forall_mem_cons.mpr ⟨lw_p19, List.forall_mem_cons.mpr ⟨lw_p20, List.forall_mem_cons.mpr ⟨lw_p21, List.forall_mem_cons.mpr ⟨lw_p22, List.forall_mem_cons.mpr ⟨lw_p23, List.forall_mem_cons.mpr ⟨lw_p24, List.forall_mem_cons.mpr ⟨lw_p25, List.forall_mem_cons.mpr ⟨lw_p26, List.forall_mem_cons.mpr ⟨lw_p27, List.forall_mem_cons.mpr ⟨lw_p28, List.forall_mem_cons.mpr ⟨lw_p29, List.forall_mem_cons.mpr ⟨lw_p30, List.forall_mem_cons.mpr ⟨lw_p31, fun _ h => absurd h List.not_mem_nil⟩⟩⟩⟩⟩⟩⟩⟩⟩⟩⟩⟩⟩⟩⟩⟩
theorem lw_p32 : lw_okq (⟨"FugueNotesModel", "longNow", "(I)I"⟩, 24) := ⟨⟨by decide +kernel, by decide +kernel⟩, List.mem_of_getElem? (i := 713) (by decide +kernel), List.mem_of_getElem? (i := 886) (by decide +kernel), List.mem_of_getElem? (i := 887) (by decide +kernel)⟩
theorem lw_p33 : lw_okq (⟨"FugueNotesModel", "answerAt", "(II)I"⟩, 24) := ⟨⟨by decide +kernel, by decide +kernel⟩, List.mem_of_getElem? (i := 713) (by decide +kernel), List.mem_of_getElem? (i := 897) (by decide +kernel), List.mem_of_getElem? (i := 898) (by decide +kernel)⟩
theorem lw_p34 : lw_okq (⟨"FugueNotesModel", "answers", "(IIIII)I"⟩, 24) := ⟨⟨by decide +kernel, by decide +kernel⟩, List.mem_of_getElem? (i := 713) (by decide +kernel), List.mem_of_getElem? (i := 901) (by decide +kernel), List.mem_of_getElem? (i := 902) (by decide +kernel)⟩
theorem lw_p35 : lw_okq (⟨"FugueNotesModel", "daysGo", "(I)V"⟩, 24) := ⟨⟨by decide +kernel, by decide +kernel⟩, List.mem_of_getElem? (i := 713) (by decide +kernel), List.mem_of_getElem? (i := 923) (by decide +kernel), List.mem_of_getElem? (i := 924) (by decide +kernel)⟩
theorem lw_p36 : lw_okq (⟨"FugueNotesModel", "day", "()V"⟩, 24) := ⟨⟨by decide +kernel, by decide +kernel⟩, List.mem_of_getElem? (i := 713) (by decide +kernel), List.mem_of_getElem? (i := 927) (by decide +kernel), List.mem_of_getElem? (i := 928) (by decide +kernel)⟩
theorem lw_p37 : lw_okq (⟨"FugueNotesModel", "whose", "()I"⟩, 24) := ⟨⟨by decide +kernel, by decide +kernel⟩, List.mem_of_getElem? (i := 713) (by decide +kernel), List.mem_of_getElem? (i := 931) (by decide +kernel), List.mem_of_getElem? (i := 932) (by decide +kernel)⟩
theorem lw_p38 : lw_okq (⟨"FugueNotesModel", "writes", "(I)V"⟩, 24) := ⟨⟨by decide +kernel, by decide +kernel⟩, List.mem_of_getElem? (i := 713) (by decide +kernel), List.mem_of_getElem? (i := 935) (by decide +kernel), List.mem_of_getElem? (i := 936) (by decide +kernel)⟩
theorem lw_p39 : lw_okq (⟨"FugueNotesModel", "areAlike", "()Z"⟩, 24) := ⟨⟨by decide +kernel, by decide +kernel⟩, List.mem_of_getElem? (i := 713) (by decide +kernel), List.mem_of_getElem? (i := 943) (by decide +kernel), List.mem_of_getElem? (i := 944) (by decide +kernel)⟩
theorem lw_p40 : lw_okq (⟨"FugueNotesModel", "unlikeNow", "()I"⟩, 24) := ⟨⟨by decide +kernel, by decide +kernel⟩, List.mem_of_getElem? (i := 713) (by decide +kernel), List.mem_of_getElem? (i := 947) (by decide +kernel), List.mem_of_getElem? (i := 948) (by decide +kernel)⟩
theorem lw_p41 : lw_okq (⟨"FugueNotesModel", "putBack", "(I)I"⟩, 24) := ⟨⟨by decide +kernel, by decide +kernel⟩, List.mem_of_getElem? (i := 713) (by decide +kernel), List.mem_of_getElem? (i := 962) (by decide +kernel), List.mem_of_getElem? (i := 963) (by decide +kernel)⟩
theorem lw_p42 : lw_okq (⟨"FugueNotesModel", "orNone", "(I)I"⟩, 24) := ⟨⟨by decide +kernel, by decide +kernel⟩, List.mem_of_getElem? (i := 713) (by decide +kernel), List.mem_of_getElem? (i := 966) (by decide +kernel), List.mem_of_getElem? (i := 967) (by decide +kernel)⟩
theorem lw_p43 : lw_okq (⟨"FugueNotesModel", "tensionOn", "(II)I"⟩, 24) := ⟨⟨by decide +kernel, by decide +kernel⟩, List.mem_of_getElem? (i := 713) (by decide +kernel), List.mem_of_getElem? (i := 974) (by decide +kernel), List.mem_of_getElem? (i := 975) (by decide +kernel)⟩
theorem lw_p44 : lw_okq (⟨"FugueNotesModel", "soonest", "(II)I"⟩, 24) := ⟨⟨by decide +kernel, by decide +kernel⟩, List.mem_of_getElem? (i := 713) (by decide +kernel), List.mem_of_getElem? (i := 982) (by decide +kernel), List.mem_of_getElem? (i := 983) (by decide +kernel)⟩
theorem lw_p45 : lw_okq (⟨"FugueNotesModel", "isAsAside", "(I)Z"⟩, 24) := ⟨⟨by decide +kernel, by decide +kernel⟩, List.mem_of_getElem? (i := 713) (by decide +kernel), List.mem_of_getElem? (i := 994) (by decide +kernel), List.mem_of_getElem? (i := 995) (by decide +kernel)⟩
theorem lw_p46 : lw_okq (⟨"FugueNotesModel", "bestOf", "(III)I"⟩, 24) := ⟨⟨by decide +kernel, by decide +kernel⟩, List.mem_of_getElem? (i := 713) (by decide +kernel), List.mem_of_getElem? (i := 1002) (by decide +kernel), List.mem_of_getElem? (i := 1003) (by decide +kernel)⟩
theorem lw_p47 : lw_okq (⟨"FugueNotesModel", "changeSides", "(II)V"⟩, 24) := ⟨⟨by decide +kernel, by decide +kernel⟩, List.mem_of_getElem? (i := 713) (by decide +kernel), List.mem_of_getElem? (i := 1022) (by decide +kernel), List.mem_of_getElem? (i := 1023) (by decide +kernel)⟩
def lw_privs_3 : List (MethodName × Nat) := [(⟨"FugueNotesModel", "longNow", "(I)I"⟩, 24), (⟨"FugueNotesModel", "answerAt", "(II)I"⟩, 24), (⟨"FugueNotesModel", "answers", "(IIIII)I"⟩, 24), (⟨"FugueNotesModel", "daysGo", "(I)V"⟩, 24), (⟨"FugueNotesModel", "day", "()V"⟩, 24), (⟨"FugueNotesModel", "whose", "()I"⟩, 24), (⟨"FugueNotesModel", "writes", "(I)V"⟩, 24), (⟨"FugueNotesModel", "areAlike", "()Z"⟩, 24), (⟨"FugueNotesModel", "unlikeNow", "()I"⟩, 24), (⟨"FugueNotesModel", "putBack", "(I)I"⟩, 24), (⟨"FugueNotesModel", "orNone", "(I)I"⟩, 24), (⟨"FugueNotesModel", "tensionOn", "(II)I"⟩, 24), (⟨"FugueNotesModel", "soonest", "(II)I"⟩, 24), (⟨"FugueNotesModel", "isAsAside", "(I)Z"⟩, 24), (⟨"FugueNotesModel", "bestOf", "(III)I"⟩, 24), (⟨"FugueNotesModel", "changeSides", "(II)V"⟩, 24)]
theorem lw_r3 : ∀ q ∈ lw_privs_3, lw_okq q := List.forall_mem_cons.mpr ⟨lw_p32, List.forall_mem_cons.mpr ⟨lw_p33, List.forall_mem_cons.mpr ⟨lw_p34, List.forall_mem_cons.mpr ⟨lw_p35, List.forall_mem_cons.mpr ⟨lw_p36, List.forall_mem_cons.mpr ⟨lw_p37, List.forall_mem_cons.mpr ⟨lw_p38, List.forall_mem_cons.mpr ⟨lw_p39, List.forall_mem_cons.mpr ⟨lw_p40, List.forall_mem_cons.mpr ⟨lw_p41, List.forall_mem_cons.mpr ⟨lw_p42, List.forall_mem_cons.mpr ⟨lw_p43, List.forall_mem_cons.mpr ⟨lw_p44, List.forall_mem_cons.mpr ⟨lw_p45, List.forall_mem_cons.mpr ⟨lw_p46, List.forall_mem_cons.mpr ⟨lw_p47, fun _ h => absurd h List.not_mem_nil⟩⟩⟩⟩⟩⟩⟩⟩⟩⟩⟩⟩⟩⟩⟩⟩
theorem lw_p48 : lw_okq (⟨"FugueNotesModel", "isHomeOn", "(II)Z"⟩, 24) := ⟨⟨by decide +kernel, by decide +kernel⟩, List.mem_of_getElem? (i := 713) (by decide +kernel), List.mem_of_getElem? (i := 1030) (by decide +kernel), List.mem_of_getElem? (i := 1031) (by decide +kernel)⟩
theorem lw_p49 : lw_okq (⟨"FugueNotesModel", "next", "()V"⟩, 24) := ⟨⟨by decide +kernel, by decide +kernel⟩, List.mem_of_getElem? (i := 713) (by decide +kernel), List.mem_of_getElem? (i := 1046) (by decide +kernel), List.mem_of_getElem? (i := 1047) (by decide +kernel)⟩
theorem lw_p50 : lw_okq (⟨"FugueNotesModel", "byteAt", "(I)I"⟩, 24) := ⟨⟨by decide +kernel, by decide +kernel⟩, List.mem_of_getElem? (i := 713) (by decide +kernel), List.mem_of_getElem? (i := 1050) (by decide +kernel), List.mem_of_getElem? (i := 1051) (by decide +kernel)⟩
theorem lw_p51 : lw_okq (⟨"FugueNotesModel", "readItem", "()V"⟩, 24) := ⟨⟨by decide +kernel, by decide +kernel⟩, List.mem_of_getElem? (i := 713) (by decide +kernel), List.mem_of_getElem? (i := 1054) (by decide +kernel), List.mem_of_getElem? (i := 1055) (by decide +kernel)⟩
theorem lw_p52 : lw_okq (⟨"FugueNotesModel", "isWord", "(Ljava/lang/String;)Z"⟩, 24) := ⟨⟨by decide +kernel, by decide +kernel⟩, List.mem_of_getElem? (i := 713) (by decide +kernel), List.mem_of_getElem? (i := 1058) (by decide +kernel), List.mem_of_getElem? (i := 1059) (by decide +kernel)⟩
theorem lw_p53 : lw_okq (⟨"FugueNotesModel", "readAttache", "(I)V"⟩, 24) := ⟨⟨by decide +kernel, by decide +kernel⟩, List.mem_of_getElem? (i := 713) (by decide +kernel), List.mem_of_getElem? (i := 1064) (by decide +kernel), List.mem_of_getElem? (i := 1065) (by decide +kernel)⟩
theorem lw_p54 : lw_okq (⟨"FugueNotesModel", "must", "(Z)V"⟩, 24) := ⟨⟨by decide +kernel, by decide +kernel⟩, List.mem_of_getElem? (i := 713) (by decide +kernel), List.mem_of_getElem? (i := 1068) (by decide +kernel), List.mem_of_getElem? (i := 1069) (by decide +kernel)⟩
theorem lw_p55 : lw_okq (⟨"FugueNotesModel", "number", "(II)I"⟩, 24) := ⟨⟨by decide +kernel, by decide +kernel⟩, List.mem_of_getElem? (i := 713) (by decide +kernel), List.mem_of_getElem? (i := 1073) (by decide +kernel), List.mem_of_getElem? (i := 1074) (by decide +kernel)⟩
theorem lw_p56 : lw_okq (⟨"FugueNotesModel", "perhaps", "(Ljava/lang/String;I)I"⟩, 24) := ⟨⟨by decide +kernel, by decide +kernel⟩, List.mem_of_getElem? (i := 713) (by decide +kernel), List.mem_of_getElem? (i := 1078) (by decide +kernel), List.mem_of_getElem? (i := 1079) (by decide +kernel)⟩
theorem lw_p57 : lw_okq (⟨"FugueNotesModel", "addItem", "(IIIJ)V"⟩, 24) := ⟨⟨by decide +kernel, by decide +kernel⟩, List.mem_of_getElem? (i := 713) (by decide +kernel), List.mem_of_getElem? (i := 1083) (by decide +kernel), List.mem_of_getElem? (i := 1084) (by decide +kernel)⟩
theorem lw_p58 : lw_okq (⟨"FugueNotesModel", "readTune", "()V"⟩, 24) := ⟨⟨by decide +kernel, by decide +kernel⟩, List.mem_of_getElem? (i := 713) (by decide +kernel), List.mem_of_getElem? (i := 1088) (by decide +kernel), List.mem_of_getElem? (i := 1089) (by decide +kernel)⟩
theorem lw_p59 : lw_okq (⟨"FugueNotesModel", "isToldSo", "(I)I"⟩, 24) := ⟨⟨by decide +kernel, by decide +kernel⟩, List.mem_of_getElem? (i := 713) (by decide +kernel), List.mem_of_getElem? (i := 1096) (by decide +kernel), List.mem_of_getElem? (i := 1097) (by decide +kernel)⟩
theorem lw_p60 : lw_okq (⟨"FugueNotesModel", "lacks", "(IZ)I"⟩, 24) := ⟨⟨by decide +kernel, by decide +kernel⟩, List.mem_of_getElem? (i := 713) (by decide +kernel), List.mem_of_getElem? (i := 1124) (by decide +kernel), List.mem_of_getElem? (i := 1125) (by decide +kernel)⟩
theorem lw_p61 : lw_okq (⟨"FugueNotesModel", "isAnswerOf", "(IIIII)Z"⟩, 24) := ⟨⟨by decide +kernel, by decide +kernel⟩, List.mem_of_getElem? (i := 713) (by decide +kernel), List.mem_of_getElem? (i := 1136) (by decide +kernel), List.mem_of_getElem? (i := 1137) (by decide +kernel)⟩
def lw_privs_4 : List (MethodName × Nat) := [(⟨"FugueNotesModel", "isHomeOn", "(II)Z"⟩, 24), (⟨"FugueNotesModel", "next", "()V"⟩, 24), (⟨"FugueNotesModel", "byteAt", "(I)I"⟩, 24), (⟨"FugueNotesModel", "readItem", "()V"⟩, 24), (⟨"FugueNotesModel", "isWord", "(Ljava/lang/String;)Z"⟩, 24), (⟨"FugueNotesModel", "readAttache", "(I)V"⟩, 24), (⟨"FugueNotesModel", "must", "(Z)V"⟩, 24), (⟨"FugueNotesModel", "number", "(II)I"⟩, 24), (⟨"FugueNotesModel", "perhaps", "(Ljava/lang/String;I)I"⟩, 24), (⟨"FugueNotesModel", "addItem", "(IIIJ)V"⟩, 24), (⟨"FugueNotesModel", "readTune", "()V"⟩, 24), (⟨"FugueNotesModel", "isToldSo", "(I)I"⟩, 24), (⟨"FugueNotesModel", "lacks", "(IZ)I"⟩, 24), (⟨"FugueNotesModel", "isAnswerOf", "(IIIII)Z"⟩, 24)]
theorem lw_r4 : ∀ q ∈ lw_privs_4, lw_okq q := List.forall_mem_cons.mpr ⟨lw_p48, List.forall_mem_cons.mpr ⟨lw_p49, List.forall_mem_cons.mpr ⟨lw_p50, List.forall_mem_cons.mpr ⟨lw_p51, List.forall_mem_cons.mpr ⟨lw_p52, List.forall_mem_cons.mpr ⟨lw_p53, List.forall_mem_cons.mpr ⟨lw_p54, List.forall_mem_cons.mpr ⟨lw_p55, List.forall_mem_cons.mpr ⟨lw_p56, List.forall_mem_cons.mpr ⟨lw_p57, List.forall_mem_cons.mpr ⟨lw_p58, List.forall_mem_cons.mpr ⟨lw_p59, List.forall_mem_cons.mpr ⟨lw_p60, List.forall_mem_cons.mpr ⟨lw_p61, fun _ h => absurd h List.not_mem_nil⟩⟩⟩⟩⟩⟩⟩⟩⟩⟩⟩⟩⟩⟩
def lw_privs : List (MethodName × Nat) := lw_privs_1 ++ (lw_privs_2 ++ (lw_privs_3 ++ (lw_privs_4)))
def lw_tbl : List Cond := k2_sels lw_privs ++ tables_1
theorem lw_privs_ok : ∀ q ∈ lw_privs, lw_okq q := by
  show ∀ q ∈ lw_privs_1 ++ (lw_privs_2 ++ (lw_privs_3 ++ (lw_privs_4))), lw_okq q
  exact List.forall_mem_append.mpr ⟨lw_r1, List.forall_mem_append.mpr ⟨lw_r2, List.forall_mem_append.mpr ⟨lw_r3, lw_r4⟩⟩⟩
end
section
def RX0 : String := "FugueNotes$Attache"
def TX0 : u_T := fun k => match k with
  | 0 => ("FugueNotes$Attache", "kind", "I", false)
  | 1 => ("FugueNotes$Attache", "side", "I", false)
  | 2 => ("FugueNotes$Attache", "key", "I", false)
  | 3 => ("FugueNotes$Attache", "blots", "I", false)
  | _ => ("FugueNotes$Attache", "wrote", "I", false)
def tyX0 : Nat → FieldType := fun k => match k with
  | 0 => .int
  | 1 => .int
  | 2 => .int
  | 3 => .int
  | _ => .int
abbrev wsX00 : List Cond := u_ws RX0 TX0 5
theorem nmX0 : ∀ a, a < 5 → ∀ b, b < 5 → a ≠ b → (TX0 a).2.1 ≠ (TX0 b).2.1 := by decide +kernel
theorem tyX0_ok : ∀ k, k < 5 → parseFieldDescriptor (TX0 k).2.2.1 = some (tyX0 k) := by decide +kernel
abbrev cX0_init : ByteArray := prog_2_method_1_code
def yX0_init : MethodName := ⟨RX0, "<init>", "()V"⟩
abbrev cX0_become : ByteArray := prog_2_method_2_code
def yX0_become : MethodName := ⟨RX0, "become", "(LFugueNotes$Attache;)V"⟩
abbrev cX0_change : ByteArray := prog_2_method_3_code
def yX0_change : MethodName := ⟨RX0, "change", "(II)V"⟩
abbrev cX0_lengthTo : ByteArray := prog_2_method_4_code
def yX0_lengthTo : MethodName := ⟨RX0, "lengthTo", "(LFugueNotes$Tune;)I"⟩
abbrev cX0_toneTo : ByteArray := prog_2_method_5_code
def yX0_toneTo : MethodName := ⟨RX0, "toneTo", "(LFugueNotes$Tune;I)I"⟩
abbrev cX0_writeTo : ByteArray := prog_2_method_6_code
def yX0_writeTo : MethodName := ⟨RX0, "writeTo", "(LFugueNotes$Tune;LFugueNotes$Tune;)V"⟩
abbrev cX0_isBlotted : ByteArray := prog_2_method_7_code
def yX0_isBlotted : MethodName := ⟨RX0, "isBlotted", "(I)Z"⟩
abbrev cX0_turnedAbout : ByteArray := prog_2_method_8_code
def yX0_turnedAbout : MethodName := ⟨RX0, "turnedAbout", "(LFugueNotes$Tune;I)I"⟩
def RX1 : String := "FugueNotes$Fugue"
def TX1 : u_T := fun k => match k with
  | 0 => ("FugueNotes$Fugue", "tune0", "LFugueNotes$Tune;", true)
  | 1 => ("FugueNotes$Fugue", "tune1", "LFugueNotes$Tune;", true)
  | 2 => ("FugueNotes$Fugue", "attaches", "[LFugueNotes$Attache;", true)
  | 3 => ("FugueNotes$Fugue", "count", "I", false)
  | _ => ("FugueNotes$Fugue", "day", "I", false)
def tyX1 : Nat → FieldType := fun k => match k with
  | 0 => .object "FugueNotes$Tune"
  | 1 => .object "FugueNotes$Tune"
  | 2 => .array (.object "FugueNotes$Attache")
  | 3 => .int
  | _ => .int
abbrev wsX10 : List Cond := u_ws RX1 TX1 5
theorem nmX1 : ∀ a, a < 5 → ∀ b, b < 5 → a ≠ b → (TX1 a).2.1 ≠ (TX1 b).2.1 := by decide +kernel
theorem tyX1_ok : ∀ k, k < 5 → parseFieldDescriptor (TX1 k).2.2.1 = some (tyX1 k) := by decide +kernel
abbrev cX1_init : ByteArray := prog_3_method_1_code
def yX1_init : MethodName := ⟨RX1, "<init>", "()V"⟩
abbrev cX1_become : ByteArray := prog_3_method_2_code
def yX1_become : MethodName := ⟨RX1, "become", "(LFugueNotes$Fugue;)V"⟩
abbrev cX1_tuneOf : ByteArray := prog_3_method_3_code
def yX1_tuneOf : MethodName := ⟨RX1, "tuneOf", "(I)LFugueNotes$Tune;"⟩
abbrev cX1_heardBy : ByteArray := prog_3_method_4_code
def yX1_heardBy : MethodName := ⟨RX1, "heardBy", "(LFugueNotes$Attache;)LFugueNotes$Tune;"⟩
abbrev cX1_has : ByteArray := prog_3_method_5_code
def yX1_has : MethodName := ⟨RX1, "has", "(I)Z"⟩
abbrev cX1_isFull : ByteArray := prog_3_method_6_code
def yX1_isFull : MethodName := ⟨RX1, "isFull", "()Z"⟩
abbrev cX1_engage : ByteArray := prog_3_method_7_code
def yX1_engage : MethodName := ⟨RX1, "engage", "(IIII)V"⟩
abbrev cX1_attachesOf : ByteArray := prog_3_method_8_code
def yX1_attachesOf : MethodName := ⟨RX1, "attachesOf", "(I)I"⟩
abbrev cX1_writingSide : ByteArray := prog_3_method_9_code
def yX1_writingSide : MethodName := ⟨RX1, "writingSide", "()I"⟩
abbrev cX1_writer : ByteArray := prog_3_method_10_code
def yX1_writer : MethodName := ⟨RX1, "writer", "()I"⟩
abbrev cX1_passDay : ByteArray := prog_3_method_11_code
def yX1_passDay : MethodName := ⟨RX1, "passDay", "()V"⟩
abbrev cX1_passDays : ByteArray := prog_3_method_12_code
def yX1_passDays : MethodName := ⟨RX1, "passDays", "(I)V"⟩
abbrev cX1_passDaysUntilHome : ByteArray := prog_3_method_13_code
def yX1_passDaysUntilHome : MethodName := ⟨RX1, "passDaysUntilHome", "(II)I"⟩
abbrev cX1_passDaysUntilAlike : ByteArray := prog_3_method_14_code
def yX1_passDaysUntilAlike : MethodName := ⟨RX1, "passDaysUntilAlike", "(I)I"⟩
abbrev cX1_isAlike : ByteArray := prog_3_method_15_code
def yX1_isAlike : MethodName := ⟨RX1, "isAlike", "()Z"⟩
abbrev cX1_homeSides : ByteArray := prog_3_method_16_code
def yX1_homeSides : MethodName := ⟨RX1, "homeSides", "()I"⟩
abbrev cX1_wroteTogether : ByteArray := prog_3_method_17_code
def yX1_wroteTogether : MethodName := ⟨RX1, "wroteTogether", "()I"⟩
abbrev cX1_blotsTogether : ByteArray := prog_3_method_18_code
def yX1_blotsTogether : MethodName := ⟨RX1, "blotsTogether", "()I"⟩
def RX2 : String := "FugueNotes$Scribe"
def TX2 : u_T := fun k => match k with
  | 0 => ("FugueNotes$Scribe", "tape", "LFugueNotes$Tape;", true)
  | 1 => ("FugueNotes$Scribe", "token", "I", false)
  | 2 => ("FugueNotes$Scribe", "start", "I", false)
  | 3 => ("FugueNotes$Scribe", "end", "I", false)
  | _ => ("FugueNotes$Scribe", "number", "I", false)
def tyX2 : Nat → FieldType := fun k => match k with
  | 0 => .object "FugueNotes$Tape"
  | 1 => .int
  | 2 => .int
  | 3 => .int
  | _ => .int
abbrev wsX20 : List Cond := u_ws RX2 TX2 5
theorem nmX2 : ∀ a, a < 5 → ∀ b, b < 5 → a ≠ b → (TX2 a).2.1 ≠ (TX2 b).2.1 := by decide +kernel
theorem tyX2_ok : ∀ k, k < 5 → parseFieldDescriptor (TX2 k).2.2.1 = some (tyX2 k) := by decide +kernel
abbrev cX2_init : ByteArray := prog_4_method_1_code
def yX2_init : MethodName := ⟨RX2, "<init>", "(LFugueNotes$Tape;)V"⟩
abbrev cX2_tellTo : ByteArray := prog_4_method_2_code
def yX2_tellTo : MethodName := ⟨RX2, "tellTo", "(LFugueNotes$Fugue;)I"⟩
abbrev cX2_tellItem : ByteArray := prog_4_method_3_code
def yX2_tellItem : MethodName := ⟨RX2, "tellItem", "(LFugueNotes$Fugue;)Z"⟩
abbrev cX2_tellTune : ByteArray := prog_4_method_4_code
def yX2_tellTune : MethodName := ⟨RX2, "tellTune", "(LFugueNotes$Fugue;)Z"⟩
abbrev cX2_tellAttache : ByteArray := prog_4_method_5_code
def yX2_tellAttache : MethodName := ⟨RX2, "tellAttache", "(LFugueNotes$Fugue;I)Z"⟩
abbrev cX2_kindNamed : ByteArray := prog_4_method_6_code
def yX2_kindNamed : MethodName := ⟨RX2, "kindNamed", "()I"⟩
abbrev cX2_nameOf : ByteArray := prog_4_method_7_code
def yX2_nameOf : MethodName := ⟨RX2, "nameOf", "(I)Ljava/lang/String;"⟩
abbrev cX2_isNumberTo : ByteArray := prog_4_method_8_code
def yX2_isNumberTo : MethodName := ⟨RX2, "isNumberTo", "(I)Z"⟩
abbrev cX2_isWord : ByteArray := prog_4_method_9_code
def yX2_isWord : MethodName := ⟨RX2, "isWord", "(Ljava/lang/String;)Z"⟩
abbrev cX2_advance : ByteArray := prog_4_method_10_code
def yX2_advance : MethodName := ⟨RX2, "advance", "()V"⟩
abbrev cX2_isLetter : ByteArray := prog_4_method_11_code
def yX2_isLetter : MethodName := ⟨RX2, "isLetter", "(I)Z"⟩
abbrev cX2_isDigit : ByteArray := prog_4_method_12_code
def yX2_isDigit : MethodName := ⟨RX2, "isDigit", "(I)Z"⟩
abbrev cX2_takeWord : ByteArray := prog_4_method_13_code
def yX2_takeWord : MethodName := ⟨RX2, "takeWord", "()V"⟩
abbrev cX2_takeNumber : ByteArray := prog_4_method_14_code
def yX2_takeNumber : MethodName := ⟨RX2, "takeNumber", "()V"⟩
def RX3 : String := "FugueNotes$Sheet"
def TX3 : u_T := fun k => match k with
  | 0 => ("FugueNotes$Sheet", "numbers", "[J", true)
  | 1 => ("FugueNotes$Sheet", "bits", "I", false)
  | _ => ("FugueNotes$Sheet", "size", "I", false)
def tyX3 : Nat → FieldType := fun k => match k with
  | 0 => .array .long
  | 1 => .int
  | _ => .int
abbrev wsX30 : List Cond := u_ws RX3 TX3 3
theorem nmX3 : ∀ a, a < 3 → ∀ b, b < 3 → a ≠ b → (TX3 a).2.1 ≠ (TX3 b).2.1 := by decide +kernel
theorem tyX3_ok : ∀ k, k < 3 → parseFieldDescriptor (TX3 k).2.2.1 = some (tyX3 k) := by decide +kernel
abbrev cX3_init : ByteArray := prog_5_method_1_code
def yX3_init : MethodName := ⟨RX3, "<init>", "()V"⟩
abbrev cX3_begin : ByteArray := prog_5_method_2_code
def yX3_begin : MethodName := ⟨RX3, "begin", "(II)V"⟩
abbrev cX3_isMissing : ByteArray := prog_5_method_3_code
def yX3_isMissing : MethodName := ⟨RX3, "isMissing", "()Z"⟩
abbrev cX3_hasRow : ByteArray := prog_5_method_4_code
def yX3_hasRow : MethodName := ⟨RX3, "hasRow", "(II)Z"⟩
abbrev cX3_put : ByteArray := prog_5_method_5_code
def yX3_put : MethodName := ⟨RX3, "put", "(IJ)V"⟩
abbrev cX3_lowestBits : ByteArray := prog_5_method_6_code
def yX3_lowestBits : MethodName := ⟨RX3, "lowestBits", "(J)J"⟩
def RX4 : String := "FugueNotes$Tape"
def TX4 : u_T := fun k => match k with
  | 0 => ("FugueNotes$Tape", "bytes", "[I", true)
  | _ => ("FugueNotes$Tape", "length", "I", false)
def tyX4 : Nat → FieldType := fun k => match k with
  | 0 => .array .int
  | _ => .int
abbrev wsX40 : List Cond := u_ws RX4 TX4 2
theorem nmX4 : ∀ a, a < 2 → ∀ b, b < 2 → a ≠ b → (TX4 a).2.1 ≠ (TX4 b).2.1 := by decide +kernel
theorem tyX4_ok : ∀ k, k < 2 → parseFieldDescriptor (TX4 k).2.2.1 = some (tyX4 k) := by decide +kernel
abbrev cX4_init : ByteArray := prog_6_method_1_code
def yX4_init : MethodName := ⟨RX4, "<init>", "()V"⟩
abbrev cX4_clear : ByteArray := prog_6_method_2_code
def yX4_clear : MethodName := ⟨RX4, "clear", "()V"⟩
abbrev cX4_append : ByteArray := prog_6_method_3_code
def yX4_append : MethodName := ⟨RX4, "append", "(I)V"⟩
abbrev cX4_byteAt : ByteArray := prog_6_method_4_code
def yX4_byteAt : MethodName := ⟨RX4, "byteAt", "(I)I"⟩
def RX5 : String := "FugueNotes$Tune"
def TX5 : u_T := fun k => match k with
  | 0 => ("FugueNotes$Tune", "tones", "[I", true)
  | _ => ("FugueNotes$Tune", "length", "I", false)
def tyX5 : Nat → FieldType := fun k => match k with
  | 0 => .array .int
  | _ => .int
abbrev wsX50 : List Cond := u_ws RX5 TX5 2
theorem nmX5 : ∀ a, a < 2 → ∀ b, b < 2 → a ≠ b → (TX5 a).2.1 ≠ (TX5 b).2.1 := by decide +kernel
theorem tyX5_ok : ∀ k, k < 2 → parseFieldDescriptor (TX5 k).2.2.1 = some (tyX5 k) := by decide +kernel
abbrev cX5_init : ByteArray := prog_7_method_1_code
def yX5_init : MethodName := ⟨RX5, "<init>", "()V"⟩
abbrev cX5_clear : ByteArray := prog_7_method_2_code
def yX5_clear : MethodName := ⟨RX5, "clear", "()V"⟩
abbrev cX5_append : ByteArray := prog_7_method_3_code
def yX5_append : MethodName := ⟨RX5, "append", "(I)V"⟩
abbrev cX5_become : ByteArray := prog_7_method_4_code
def yX5_become : MethodName := ⟨RX5, "become", "(LFugueNotes$Tune;)V"⟩
abbrev cX5_toneAt : ByteArray := prog_7_method_5_code
def yX5_toneAt : MethodName := ⟨RX5, "toneAt", "(I)I"⟩
abbrev cX5_isHome : ByteArray := prog_7_method_6_code
def yX5_isHome : MethodName := ⟨RX5, "isHome", "()Z"⟩
abbrev cX5_isSameAs : ByteArray := prog_7_method_7_code
def yX5_isSameAs : MethodName := ⟨RX5, "isSameAs", "(LFugueNotes$Tune;)Z"⟩
abbrev cX5_placesUnlike : ByteArray := prog_7_method_8_code
def yX5_placesUnlike : MethodName := ⟨RX5, "placesUnlike", "(LFugueNotes$Tune;)I"⟩
abbrev cX5_toneSet : ByteArray := prog_7_method_9_code
def yX5_toneSet : MethodName := ⟨RX5, "toneSet", "()I"⟩
abbrev cX5_wideLeaps : ByteArray := prog_7_method_10_code
def yX5_wideLeaps : MethodName := ⟨RX5, "wideLeaps", "()I"⟩
abbrev cX5_leapBetween : ByteArray := prog_7_method_11_code
def yX5_leapBetween : MethodName := ⟨RX5, "leapBetween", "(II)I"⟩
def RX6 : String := "FugueNotes"
def TX6 : u_T := fun k => match k with
  | 0 => ("FugueNotes", "present", "LFugueNotes$Fugue;", true)
  | 1 => ("FugueNotes", "kept", "LFugueNotes$Fugue;", true)
  | 2 => ("FugueNotes", "isKept", "Z", false)
  | 3 => ("FugueNotes", "trial", "LFugueNotes$Fugue;", true)
  | 4 => ("FugueNotes", "tape", "LFugueNotes$Tape;", true)
  | 5 => ("FugueNotes", "scribe", "LFugueNotes$Scribe;", true)
  | 6 => ("FugueNotes", "sheets", "[LFugueNotes$Sheet;", true)
  | _ => ("FugueNotes", "findings", "[I", true)
def tyX6 : Nat → FieldType := fun k => match k with
  | 0 => .object "FugueNotes$Fugue"
  | 1 => .object "FugueNotes$Fugue"
  | 2 => .boolean
  | 3 => .object "FugueNotes$Fugue"
  | 4 => .object "FugueNotes$Tape"
  | 5 => .object "FugueNotes$Scribe"
  | 6 => .array (.object "FugueNotes$Sheet")
  | _ => .array .int
abbrev wsX60 : List Cond := u_ws RX6 TX6 8
theorem nmX6 : ∀ a, a < 8 → ∀ b, b < 8 → a ≠ b → (TX6 a).2.1 ≠ (TX6 b).2.1 := by decide +kernel
theorem tyX6_ok : ∀ k, k < 8 → parseFieldDescriptor (TX6 k).2.2.1 = some (tyX6 k) := by decide +kernel
abbrev cX6_init : ByteArray := prog_1_method_1_code
def yX6_init : MethodName := ⟨RX6, "<init>", "()V"⟩
abbrev cX6_tune : ByteArray := prog_1_method_2_code
def yX6_tune : MethodName := ⟨RX6, "tune", "(IIJ)I"⟩
abbrev cX6_tone : ByteArray := prog_1_method_3_code
def yX6_tone : MethodName := ⟨RX6, "tone", "(II)I"⟩
abbrev cX6_side : ByteArray := prog_1_method_4_code
def yX6_side : MethodName := ⟨RX6, "side", "(II)I"⟩
abbrev cX6_attache : ByteArray := prog_1_method_5_code
def yX6_attache : MethodName := ⟨RX6, "attache", "(II)I"⟩
abbrev cX6_of : ByteArray := prog_1_method_6_code
def yX6_of : MethodName := ⟨RX6, "of", "(II)I"⟩
abbrev cX6_answer : ByteArray := prog_1_method_7_code
def yX6_answer : MethodName := ⟨RX6, "answer", "(II)I"⟩
abbrev cX6_set : ByteArray := prog_1_method_8_code
def yX6_set : MethodName := ⟨RX6, "set", "(III)I"⟩
abbrev cX6_turn : ByteArray := prog_1_method_9_code
def yX6_turn : MethodName := ⟨RX6, "turn", "(II)I"⟩
abbrev cX6_as : ByteArray := prog_1_method_10_code
def yX6_as : MethodName := ⟨RX6, "as", "(II)I"⟩
abbrev cX6_days : ByteArray := prog_1_method_11_code
def yX6_days : MethodName := ⟨RX6, "days", "(I)I"⟩
abbrev cX6_now : ByteArray := prog_1_method_12_code
def yX6_now : MethodName := ⟨RX6, "now", "(I)I"⟩
abbrev cX6_on : ByteArray := prog_1_method_13_code
def yX6_on : MethodName := ⟨RX6, "on", "(III)I"⟩
abbrev cX6_tension : ByteArray := prog_1_method_14_code
def yX6_tension : MethodName := ⟨RX6, "tension", "(II)I"⟩
abbrev cX6_home : ByteArray := prog_1_method_15_code
def yX6_home : MethodName := ⟨RX6, "home", "(I)I"⟩
abbrev cX6_alike : ByteArray := prog_1_method_16_code
def yX6_alike : MethodName := ⟨RX6, "alike", "()I"⟩
abbrev cX6_again : ByteArray := prog_1_method_17_code
def yX6_again : MethodName := ⟨RX6, "again", "(I)I"⟩
abbrev cX6_key : ByteArray := prog_1_method_18_code
def yX6_key : MethodName := ⟨RX6, "key", "(I)I"⟩
abbrev cX6_kind : ByteArray := prog_1_method_19_code
def yX6_kind : MethodName := ⟨RX6, "kind", "(I)I"⟩
abbrev cX6_blot : ByteArray := prog_1_method_20_code
def yX6_blot : MethodName := ⟨RX6, "blot", "(II)I"⟩
abbrev cX6_calm : ByteArray := prog_1_method_21_code
def yX6_calm : MethodName := ⟨RX6, "calm", "(III)I"⟩
abbrev cX6_swap : ByteArray := prog_1_method_22_code
def yX6_swap : MethodName := ⟨RX6, "swap", "()I"⟩
abbrev cX6_keys : ByteArray := prog_1_method_23_code
def yX6_keys : MethodName := ⟨RX6, "keys", "(II)I"⟩
abbrev cX6_feed : ByteArray := prog_1_method_24_code
def yX6_feed : MethodName := ⟨RX6, "feed", "(II)I"⟩
abbrev cX6_wipe : ByteArray := prog_1_method_25_code
def yX6_wipe : MethodName := ⟨RX6, "wipe", "()I"⟩
abbrev cX6_affair : ByteArray := prog_1_method_26_code
def yX6_affair : MethodName := ⟨RX6, "affair", "()I"⟩
abbrev cX6_sheet : ByteArray := prog_1_method_27_code
def yX6_sheet : MethodName := ⟨RX6, "sheet", "(III)I"⟩
abbrev cX6_write : ByteArray := prog_1_method_28_code
def yX6_write : MethodName := ⟨RX6, "write", "(IIJ)J"⟩
abbrev cX6_copy : ByteArray := prog_1_method_29_code
def yX6_copy : MethodName := ⟨RX6, "copy", "(IIIII)I"⟩
abbrev cX6_lays : ByteArray := prog_1_method_30_code
def yX6_lays : MethodName := ⟨RX6, "lays", "(II)I"⟩
abbrev cX6_book : ByteArray := prog_1_method_31_code
def yX6_book : MethodName := ⟨RX6, "book", "(II)I"⟩
abbrev cX6_read : ByteArray := prog_1_method_32_code
def yX6_read : MethodName := ⟨RX6, "read", "(II)I"⟩
abbrev cX6_image : ByteArray := prog_1_method_33_code
def yX6_image : MethodName := ⟨RX6, "image", "()I"⟩
abbrev cX6_undo : ByteArray := prog_1_method_34_code
def yX6_undo : MethodName := ⟨RX6, "undo", "()I"⟩
abbrev cX6_tear : ByteArray := prog_1_method_35_code
def yX6_tear : MethodName := ⟨RX6, "tear", "()I"⟩
abbrev cX6_count : ByteArray := prog_1_method_36_code
def yX6_count : MethodName := ⟨RX6, "count", "(I)I"⟩
abbrev cX6_status : ByteArray := prog_1_method_37_code
def yX6_status : MethodName := ⟨RX6, "status", "(I)I"⟩
abbrev cX6_found : ByteArray := prog_1_method_38_code
def yX6_found : MethodName := ⟨RX6, "found", "(I)I"⟩
abbrev cX6_toneOrNone : ByteArray := prog_1_method_39_code
def yX6_toneOrNone : MethodName := ⟨RX6, "toneOrNone", "(LFugueNotes$Tune;I)I"⟩
abbrev cX6_startTrial : ByteArray := prog_1_method_40_code
def yX6_startTrial : MethodName := ⟨RX6, "startTrial", "()V"⟩
abbrev cX6_soonestHome : ByteArray := prog_1_method_41_code
def yX6_soonestHome : MethodName := ⟨RX6, "soonestHome", "(IIIII)I"⟩
abbrev cX6_startTrialSwapped : ByteArray := prog_1_method_42_code
def yX6_startTrialSwapped : MethodName := ⟨RX6, "startTrialSwapped", "(II)Z"⟩
abbrev cX6_isJustWritten : ByteArray := prog_1_method_43_code
def yX6_isJustWritten : MethodName := ⟨RX6, "isJustWritten", "(LFugueNotes$Sheet;LFugueNotes$Attache;)Z"⟩
abbrev cX6_faultOfSheet : ByteArray := prog_1_method_44_code
def yX6_faultOfSheet : MethodName := ⟨RX6, "faultOfSheet", "(I)I"⟩
abbrev cX6_faultOfSheetAndSide : ByteArray := prog_1_method_45_code
def yX6_faultOfSheetAndSide : MethodName := ⟨RX6, "faultOfSheetAndSide", "(II)I"⟩
abbrev cX6_mostToSet : ByteArray := prog_1_method_46_code
def yX6_mostToSet : MethodName := ⟨RX6, "mostToSet", "(I)I"⟩
abbrev cX6_isWithin : ByteArray := prog_1_method_47_code
def yX6_isWithin : MethodName := ⟨RX6, "isWithin", "(III)Z"⟩
abbrev cX6_isSide : ByteArray := prog_1_method_48_code
def yX6_isSide : MethodName := ⟨RX6, "isSide", "(I)Z"⟩
abbrev cX6_isKind : ByteArray := prog_1_method_49_code
def yX6_isKind : MethodName := ⟨RX6, "isKind", "(I)Z"⟩
abbrev cX6_isSheet : ByteArray := prog_1_method_50_code
def yX6_isSheet : MethodName := ⟨RX6, "isSheet", "(I)Z"⟩
abbrev cX6_isBits : ByteArray := prog_1_method_51_code
def yX6_isBits : MethodName := ⟨RX6, "isBits", "(I)Z"⟩
abbrev cX6_isOfKind : ByteArray := prog_1_method_52_code
def yX6_isOfKind : MethodName := ⟨RX6, "isOfKind", "(II)Z"⟩
def RX7 : String := "FugueNotesModel"
def TX7 : u_T := fun k => match k with
  | 0 => ("FugueNotesModel", "now", "[I", true)
  | 1 => ("FugueNotesModel", "kept", "[I", true)
  | 2 => ("FugueNotesModel", "aside", "[I", true)
  | 3 => ("FugueNotesModel", "isKept", "Z", false)
  | 4 => ("FugueNotesModel", "found", "[I", true)
  | 5 => ("FugueNotesModel", "written", "[I", true)
  | 6 => ("FugueNotesModel", "tape", "[I", true)
  | 7 => ("FugueNotesModel", "taped", "I", false)
  | 8 => ("FugueNotesModel", "begins", "I", false)
  | 9 => ("FugueNotesModel", "ends", "I", false)
  | 10 => ("FugueNotesModel", "sort", "I", false)
  | 11 => ("FugueNotesModel", "value", "I", false)
  | 12 => ("FugueNotesModel", "isWrong", "Z", false)
  | 13 => ("FugueNotesModel", "kindNames", "[Ljava/lang/String;", true)
  | 14 => ("FugueNotesModel", "itemWhat", "[I", true)
  | 15 => ("FugueNotesModel", "itemSide", "[I", true)
  | 16 => ("FugueNotesModel", "itemKey", "[I", true)
  | 17 => ("FugueNotesModel", "itemMore", "[J", true)
  | 18 => ("FugueNotesModel", "itemMany", "I", false)
  | 19 => ("FugueNotesModel", "attachesThen", "I", false)
  | 20 => ("FugueNotesModel", "widths", "[I", true)
  | 21 => ("FugueNotesModel", "sizes", "[I", true)
  | 22 => ("FugueNotesModel", "numbers", "[J", true)
  | _ => ("FugueNotesModel", "moved", "[J", true)
def tyX7 : Nat → FieldType := fun k => match k with
  | 0 => .array .int
  | 1 => .array .int
  | 2 => .array .int
  | 3 => .boolean
  | 4 => .array .int
  | 5 => .array .int
  | 6 => .array .int
  | 7 => .int
  | 8 => .int
  | 9 => .int
  | 10 => .int
  | 11 => .int
  | 12 => .boolean
  | 13 => .array (.object "java/lang/String")
  | 14 => .array .int
  | 15 => .array .int
  | 16 => .array .int
  | 17 => .array .long
  | 18 => .int
  | 19 => .int
  | 20 => .array .int
  | 21 => .array .int
  | 22 => .array .long
  | _ => .array .long
abbrev wsX70 : List Cond := u_ws RX7 TX7 24
theorem nmX7 : ∀ a, a < 24 → ∀ b, b < 24 → a ≠ b → (TX7 a).2.1 ≠ (TX7 b).2.1 := by decide +kernel
theorem tyX7_ok : ∀ k, k < 24 → parseFieldDescriptor (TX7 k).2.2.1 = some (tyX7 k) := by decide +kernel
abbrev cX7_init : ByteArray := prog_9_method_1_code
def yX7_init : MethodName := ⟨RX7, "<init>", "()V"⟩
abbrev cX7_finding : ByteArray := prog_9_method_2_code
def yX7_finding : MethodName := ⟨RX7, "finding", "(I)I"⟩
abbrev cX7_within : ByteArray := prog_9_method_3_code
def yX7_within : MethodName := ⟨RX7, "within", "(III)Z"⟩
abbrev cX7_become : ByteArray := prog_9_method_4_code
def yX7_become : MethodName := ⟨RX7, "become", "(II)I"⟩
abbrev cX7_copyRow : ByteArray := prog_9_method_5_code
def yX7_copyRow : MethodName := ⟨RX7, "copyRow", "([I[I)V"⟩
abbrev cX7_putBack : ByteArray := prog_9_method_6_code
def yX7_putBack : MethodName := ⟨RX7, "putBack", "(I)I"⟩
abbrev cX7_orNone : ByteArray := prog_9_method_7_code
def yX7_orNone : MethodName := ⟨RX7, "orNone", "(I)I"⟩
abbrev cX7_bits : ByteArray := prog_9_method_8_code
def yX7_bits : MethodName := ⟨RX7, "bits", "(I)I"⟩
abbrev cX7_isSide : ByteArray := prog_9_method_9_code
def yX7_isSide : MethodName := ⟨RX7, "isSide", "(I)Z"⟩
abbrev cX7_length : ByteArray := prog_9_method_10_code
def yX7_length : MethodName := ⟨RX7, "length", "(I)I"⟩
abbrev cX7_toneOf : ByteArray := prog_9_method_11_code
def yX7_toneOf : MethodName := ⟨RX7, "toneOf", "(II)I"⟩
abbrev cX7_laysTune : ByteArray := prog_9_method_12_code
def yX7_laysTune : MethodName := ⟨RX7, "laysTune", "(IIJ)I"⟩
abbrev cX7_tune : ByteArray := prog_9_method_13_code
def yX7_tune : MethodName := ⟨RX7, "tune", "(IIJ)I"⟩
abbrev cX7_tone : ByteArray := prog_9_method_14_code
def yX7_tone : MethodName := ⟨RX7, "tone", "(II)I"⟩
abbrev cX7_tensionOf : ByteArray := prog_9_method_15_code
def yX7_tensionOf : MethodName := ⟨RX7, "tensionOf", "(I)I"⟩
abbrev cX7_isHome : ByteArray := prog_9_method_16_code
def yX7_isHome : MethodName := ⟨RX7, "isHome", "(I)Z"⟩
abbrev cX7_tonesIn : ByteArray := prog_9_method_17_code
def yX7_tonesIn : MethodName := ⟨RX7, "tonesIn", "(I)I"⟩
abbrev cX7_unlikeNow : ByteArray := prog_9_method_18_code
def yX7_unlikeNow : MethodName := ⟨RX7, "unlikeNow", "()I"⟩
abbrev cX7_areAlike : ByteArray := prog_9_method_19_code
def yX7_areAlike : MethodName := ⟨RX7, "areAlike", "()Z"⟩
abbrev cX7_manyOf : ByteArray := prog_9_method_20_code
def yX7_manyOf : MethodName := ⟨RX7, "manyOf", "(I)I"⟩
abbrev cX7_side : ByteArray := prog_9_method_21_code
def yX7_side : MethodName := ⟨RX7, "side", "(II)I"⟩
abbrev cX7_isAttache : ByteArray := prog_9_method_22_code
def yX7_isAttache : MethodName := ⟨RX7, "isAttache", "(I)Z"⟩
abbrev cX7_attacheAt : ByteArray := prog_9_method_23_code
def yX7_attacheAt : MethodName := ⟨RX7, "attacheAt", "(II)I"⟩
abbrev cX7_attacheIs : ByteArray := prog_9_method_24_code
def yX7_attacheIs : MethodName := ⟨RX7, "attacheIs", "(II)I"⟩
abbrev cX7_isKind : ByteArray := prog_9_method_25_code
def yX7_isKind : MethodName := ⟨RX7, "isKind", "(I)Z"⟩
abbrev cX7_isTone : ByteArray := prog_9_method_26_code
def yX7_isTone : MethodName := ⟨RX7, "isTone", "(J)Z"⟩
abbrev cX7_comes : ByteArray := prog_9_method_27_code
def yX7_comes : MethodName := ⟨RX7, "comes", "(IIII)I"⟩
abbrev cX7_attache : ByteArray := prog_9_method_28_code
def yX7_attache : MethodName := ⟨RX7, "attache", "(II)I"⟩
abbrev cX7_longOf : ByteArray := prog_9_method_29_code
def yX7_longOf : MethodName := ⟨RX7, "longOf", "(II)I"⟩
abbrev cX7_answers : ByteArray := prog_9_method_30_code
def yX7_answers : MethodName := ⟨RX7, "answers", "(IIIII)I"⟩
abbrev cX7_answerAt : ByteArray := prog_9_method_31_code
def yX7_answerAt : MethodName := ⟨RX7, "answerAt", "(II)I"⟩
abbrev cX7_longNow : ByteArray := prog_9_method_32_code
def yX7_longNow : MethodName := ⟨RX7, "longNow", "(I)I"⟩
abbrev cX7_of : ByteArray := prog_9_method_33_code
def yX7_of : MethodName := ⟨RX7, "of", "(II)I"⟩
abbrev cX7_answer : ByteArray := prog_9_method_34_code
def yX7_answer : MethodName := ⟨RX7, "answer", "(II)I"⟩
abbrev cX7_set : ByteArray := prog_9_method_35_code
def yX7_set : MethodName := ⟨RX7, "set", "(III)I"⟩
abbrev cX7_turn : ByteArray := prog_9_method_36_code
def yX7_turn : MethodName := ⟨RX7, "turn", "(II)I"⟩
abbrev cX7_as : ByteArray := prog_9_method_37_code
def yX7_as : MethodName := ⟨RX7, "as", "(II)I"⟩
abbrev cX7_whose : ByteArray := prog_9_method_38_code
def yX7_whose : MethodName := ⟨RX7, "whose", "()I"⟩
abbrev cX7_writes : ByteArray := prog_9_method_39_code
def yX7_writes : MethodName := ⟨RX7, "writes", "(I)V"⟩
abbrev cX7_day : ByteArray := prog_9_method_40_code
def yX7_day : MethodName := ⟨RX7, "day", "()V"⟩
abbrev cX7_daysGo : ByteArray := prog_9_method_41_code
def yX7_daysGo : MethodName := ⟨RX7, "daysGo", "(I)V"⟩
abbrev cX7_days : ByteArray := prog_9_method_42_code
def yX7_days : MethodName := ⟨RX7, "days", "(I)I"⟩
abbrev cX7_now : ByteArray := prog_9_method_43_code
def yX7_now : MethodName := ⟨RX7, "now", "(I)I"⟩
abbrev cX7_isOn : ByteArray := prog_9_method_44_code
def yX7_isOn : MethodName := ⟨RX7, "isOn", "(I)Z"⟩
abbrev cX7_on : ByteArray := prog_9_method_45_code
def yX7_on : MethodName := ⟨RX7, "on", "(III)I"⟩
abbrev cX7_tensionOn : ByteArray := prog_9_method_46_code
def yX7_tensionOn : MethodName := ⟨RX7, "tensionOn", "(II)I"⟩
abbrev cX7_tension : ByteArray := prog_9_method_47_code
def yX7_tension : MethodName := ⟨RX7, "tension", "(II)I"⟩
abbrev cX7_soonest : ByteArray := prog_9_method_48_code
def yX7_soonest : MethodName := ⟨RX7, "soonest", "(II)I"⟩
abbrev cX7_home : ByteArray := prog_9_method_49_code
def yX7_home : MethodName := ⟨RX7, "home", "(I)I"⟩
abbrev cX7_alike : ByteArray := prog_9_method_50_code
def yX7_alike : MethodName := ⟨RX7, "alike", "()I"⟩
abbrev cX7_isAsAside : ByteArray := prog_9_method_51_code
def yX7_isAsAside : MethodName := ⟨RX7, "isAsAside", "(I)Z"⟩
abbrev cX7_again : ByteArray := prog_9_method_52_code
def yX7_again : MethodName := ⟨RX7, "again", "(I)I"⟩
abbrev cX7_bestOf : ByteArray := prog_9_method_53_code
def yX7_bestOf : MethodName := ⟨RX7, "bestOf", "(III)I"⟩
abbrev cX7_key : ByteArray := prog_9_method_54_code
def yX7_key : MethodName := ⟨RX7, "key", "(I)I"⟩
abbrev cX7_kind : ByteArray := prog_9_method_55_code
def yX7_kind : MethodName := ⟨RX7, "kind", "(I)I"⟩
abbrev cX7_blot : ByteArray := prog_9_method_56_code
def yX7_blot : MethodName := ⟨RX7, "blot", "(II)I"⟩
abbrev cX7_calm : ByteArray := prog_9_method_57_code
def yX7_calm : MethodName := ⟨RX7, "calm", "(III)I"⟩
abbrev cX7_changeSides : ByteArray := prog_9_method_58_code
def yX7_changeSides : MethodName := ⟨RX7, "changeSides", "(II)V"⟩
abbrev cX7_swap : ByteArray := prog_9_method_59_code
def yX7_swap : MethodName := ⟨RX7, "swap", "()I"⟩
abbrev cX7_isHomeOn : ByteArray := prog_9_method_60_code
def yX7_isHomeOn : MethodName := ⟨RX7, "isHomeOn", "(II)Z"⟩
abbrev cX7_keys : ByteArray := prog_9_method_61_code
def yX7_keys : MethodName := ⟨RX7, "keys", "(II)I"⟩
abbrev cX7_feed : ByteArray := prog_9_method_62_code
def yX7_feed : MethodName := ⟨RX7, "feed", "(II)I"⟩
abbrev cX7_wipe : ByteArray := prog_9_method_63_code
def yX7_wipe : MethodName := ⟨RX7, "wipe", "()I"⟩
abbrev cX7_byteAt : ByteArray := prog_9_method_64_code
def yX7_byteAt : MethodName := ⟨RX7, "byteAt", "(I)I"⟩
abbrev cX7_next : ByteArray := prog_9_method_65_code
def yX7_next : MethodName := ⟨RX7, "next", "()V"⟩
abbrev cX7_isWord : ByteArray := prog_9_method_66_code
def yX7_isWord : MethodName := ⟨RX7, "isWord", "(Ljava/lang/String;)Z"⟩
abbrev cX7_must : ByteArray := prog_9_method_67_code
def yX7_must : MethodName := ⟨RX7, "must", "(Z)V"⟩
abbrev cX7_number : ByteArray := prog_9_method_68_code
def yX7_number : MethodName := ⟨RX7, "number", "(II)I"⟩
abbrev cX7_addItem : ByteArray := prog_9_method_69_code
def yX7_addItem : MethodName := ⟨RX7, "addItem", "(IIIJ)V"⟩
abbrev cX7_perhaps : ByteArray := prog_9_method_70_code
def yX7_perhaps : MethodName := ⟨RX7, "perhaps", "(Ljava/lang/String;I)I"⟩
abbrev cX7_readAttache : ByteArray := prog_9_method_71_code
def yX7_readAttache : MethodName := ⟨RX7, "readAttache", "(I)V"⟩
abbrev cX7_readTune : ByteArray := prog_9_method_72_code
def yX7_readTune : MethodName := ⟨RX7, "readTune", "()V"⟩
abbrev cX7_readItem : ByteArray := prog_9_method_73_code
def yX7_readItem : MethodName := ⟨RX7, "readItem", "()V"⟩
abbrev cX7_isToldSo : ByteArray := prog_9_method_74_code
def yX7_isToldSo : MethodName := ⟨RX7, "isToldSo", "(I)I"⟩
abbrev cX7_affair : ByteArray := prog_9_method_75_code
def yX7_affair : MethodName := ⟨RX7, "affair", "()I"⟩
abbrev cX7_isSheet : ByteArray := prog_9_method_76_code
def yX7_isSheet : MethodName := ⟨RX7, "isSheet", "(I)Z"⟩
abbrev cX7_cutTo : ByteArray := prog_9_method_77_code
def yX7_cutTo : MethodName := ⟨RX7, "cutTo", "(JI)J"⟩
abbrev cX7_sheet : ByteArray := prog_9_method_78_code
def yX7_sheet : MethodName := ⟨RX7, "sheet", "(III)I"⟩
abbrev cX7_write : ByteArray := prog_9_method_79_code
def yX7_write : MethodName := ⟨RX7, "write", "(IIJ)J"⟩
abbrev cX7_copy : ByteArray := prog_9_method_80_code
def yX7_copy : MethodName := ⟨RX7, "copy", "(IIIII)I"⟩
abbrev cX7_lacks : ByteArray := prog_9_method_81_code
def yX7_lacks : MethodName := ⟨RX7, "lacks", "(IZ)I"⟩
abbrev cX7_lays : ByteArray := prog_9_method_82_code
def yX7_lays : MethodName := ⟨RX7, "lays", "(II)I"⟩
abbrev cX7_book : ByteArray := prog_9_method_83_code
def yX7_book : MethodName := ⟨RX7, "book", "(II)I"⟩
abbrev cX7_isAnswerOf : ByteArray := prog_9_method_84_code
def yX7_isAnswerOf : MethodName := ⟨RX7, "isAnswerOf", "(IIIII)Z"⟩
abbrev cX7_read : ByteArray := prog_9_method_85_code
def yX7_read : MethodName := ⟨RX7, "read", "(II)I"⟩
abbrev cX7_image : ByteArray := prog_9_method_86_code
def yX7_image : MethodName := ⟨RX7, "image", "()I"⟩
abbrev cX7_undo : ByteArray := prog_9_method_87_code
def yX7_undo : MethodName := ⟨RX7, "undo", "()I"⟩
abbrev cX7_tear : ByteArray := prog_9_method_88_code
def yX7_tear : MethodName := ⟨RX7, "tear", "()I"⟩
abbrev cX7_count : ByteArray := prog_9_method_89_code
def yX7_count : MethodName := ⟨RX7, "count", "(I)I"⟩
abbrev cX7_status : ByteArray := prog_9_method_90_code
def yX7_status : MethodName := ⟨RX7, "status", "(I)I"⟩
def RJ6 : String := "java/lang/Integer"
def TJ6 : u_T := fun k => match k with
  | _ => ("", "", "", false)
def tyJ6 : Nat → FieldType := fun k => match k with
  | _ => .int
abbrev wsJ60 : List Cond := u_ws RJ6 TJ6 0
theorem nmJ6 : ∀ a, a < 0 → ∀ b, b < 0 → a ≠ b → (TJ6 a).2.1 ≠ (TJ6 b).2.1 := by decide +kernel
theorem tyJ6_ok : ∀ k, k < 0 → parseFieldDescriptor (TJ6 k).2.2.1 = some (tyJ6 k) := by decide +kernel
abbrev cJ6_bitCount_0f7a4 : ByteArray := prog_10_method_49_code
def yJ6_bitCount_0f7a4 : MethodName := ⟨RJ6, "bitCount", "(I)I"⟩
def RJ9 : String := "java/lang/Math"
def TJ9 : u_T := fun k => match k with
  | _ => ("", "", "", false)
def tyJ9 : Nat → FieldType := fun k => match k with
  | _ => .int
abbrev wsJ90 : List Cond := u_ws RJ9 TJ9 0
theorem nmJ9 : ∀ a, a < 0 → ∀ b, b < 0 → a ≠ b → (TJ9 a).2.1 ≠ (TJ9 b).2.1 := by decide +kernel
theorem tyJ9_ok : ∀ k, k < 0 → parseFieldDescriptor (TJ9 k).2.2.1 = some (tyJ9 k) := by decide +kernel
abbrev cJ9_floorMod_7cf53 : ByteArray := prog_11_method_50_code
def yJ9_floorMod_7cf53 : MethodName := ⟨RJ9, "floorMod", "(II)I"⟩
abbrev cJ9_abs_0f7a4 : ByteArray := prog_11_method_59_code
def yJ9_abs_0f7a4 : MethodName := ⟨RJ9, "abs", "(I)I"⟩
abbrev cJ9_max_7cf53 : ByteArray := prog_11_method_65_code
def yJ9_max_7cf53 : MethodName := ⟨RJ9, "max", "(II)I"⟩
abbrev cJ9_min_7cf53 : ByteArray := prog_11_method_69_code
def yJ9_min_7cf53 : MethodName := ⟨RJ9, "min", "(II)I"⟩
def RJ0 : String := "java/lang/String"
def TJ0 : u_T := fun k => match k with
  | _ => ("", "", "", false)
def tyJ0 : Nat → FieldType := fun k => match k with
  | _ => .int
abbrev wsJ00 : List Cond := u_ws RJ0 TJ0 0
theorem nmJ0 : ∀ a, a < 0 → ∀ b, b < 0 → a ≠ b → (TJ0 a).2.1 ≠ (TJ0 b).2.1 := by decide +kernel
theorem tyJ0_ok : ∀ k, k < 0 → parseFieldDescriptor (TJ0 k).2.2.1 = some (tyJ0 k) := by decide +kernel
abbrev cJ0_length_8abf5 : ByteArray := prog_12_method_54_code
def yJ0_length_8abf5 : MethodName := ⟨RJ0, "length", "()I"⟩
abbrev cJ0_charAt_5068e : ByteArray := prog_12_method_56_code
def yJ0_charAt_5068e : MethodName := ⟨RJ0, "charAt", "(I)C"⟩
abbrev cJ0_coder_7d493 : ByteArray := prog_12_method_152_code
def yJ0_coder_7d493 : MethodName := ⟨RJ0, "coder", "()B"⟩
abbrev cJ0_isLatin1_aae02 : ByteArray := prog_12_method_154_code
def yJ0_isLatin1_aae02 : MethodName := ⟨RJ0, "isLatin1", "()Z"⟩
abbrev cJ0_checkIndex_df160 : ByteArray := prog_12_method_155_code
def yJ0_checkIndex_df160 : MethodName := ⟨RJ0, "checkIndex", "(II)V"⟩
def RJ1 : String := "java/lang/StringLatin1"
def TJ1 : u_T := fun k => match k with
  | _ => ("", "", "", false)
def tyJ1 : Nat → FieldType := fun k => match k with
  | _ => .int
abbrev wsJ10 : List Cond := u_ws RJ1 TJ1 0
theorem nmJ1 : ∀ a, a < 0 → ∀ b, b < 0 → a ≠ b → (TJ1 a).2.1 ≠ (TJ1 b).2.1 := by decide +kernel
theorem tyJ1_ok : ∀ k, k < 0 → parseFieldDescriptor (TJ1 k).2.2.1 = some (tyJ1 k) := by decide +kernel
abbrev cJ1_charAt_3b067 : ByteArray := prog_13_method_2_code
def yJ1_charAt_3b067 : MethodName := ⟨RJ1, "charAt", "([BI)C"⟩
def RJ2 : String := "java/lang/StringUTF16"
def TJ2 : u_T := fun k => match k with
  | _ => ("", "", "", false)
def tyJ2 : Nat → FieldType := fun k => match k with
  | _ => .int
abbrev wsJ20 : List Cond := u_ws RJ2 TJ2 0
theorem nmJ2 : ∀ a, a < 0 → ∀ b, b < 0 → a ≠ b → (TJ2 a).2.1 ≠ (TJ2 b).2.1 := by decide +kernel
theorem tyJ2_ok : ∀ k, k < 0 → parseFieldDescriptor (TJ2 k).2.2.1 = some (tyJ2 k) := by decide +kernel
abbrev cJ2_getChar_3b067 : ByteArray := prog_14_method_5_code
def yJ2_getChar_3b067 : MethodName := ⟨RJ2, "getChar", "([BI)C"⟩
abbrev cJ2_length_9d52b : ByteArray := prog_14_method_6_code
def yJ2_length_9d52b : MethodName := ⟨RJ2, "length", "([B)I"⟩
abbrev cJ2_charAt_3b067 : ByteArray := prog_14_method_83_code
def yJ2_charAt_3b067 : MethodName := ⟨RJ2, "charAt", "([BI)C"⟩
abbrev cJ2_checkIndex_2214a : ByteArray := prog_14_method_91_code
def yJ2_checkIndex_2214a : MethodName := ⟨RJ2, "checkIndex", "(I[B)V"⟩
def RJ10 : String := "java/lang/System"
def TJ10 : u_T := fun k => match k with
  | _ => ("", "", "", false)
def tyJ10 : Nat → FieldType := fun k => match k with
  | _ => .int
abbrev wsJ100 : List Cond := u_ws RJ10 TJ10 0
theorem nmJ10 : ∀ a, a < 0 → ∀ b, b < 0 → a ≠ b → (TJ10 a).2.1 ≠ (TJ10 b).2.1 := by decide +kernel
theorem tyJ10_ok : ∀ k, k < 0 → parseFieldDescriptor (TJ10 k).2.2.1 = some (tyJ10 k) := by decide +kernel
def RJ3 : String := "jdk/internal/util/Preconditions"
def TJ3 : u_T := fun k => match k with
  | _ => ("", "", "", false)
def tyJ3 : Nat → FieldType := fun k => match k with
  | _ => .int
abbrev wsJ30 : List Cond := u_ws RJ3 TJ3 0
theorem nmJ3 : ∀ a, a < 0 → ∀ b, b < 0 → a ≠ b → (TJ3 a).2.1 ≠ (TJ3 b).2.1 := by decide +kernel
theorem tyJ3_ok : ∀ k, k < 0 → parseFieldDescriptor (TJ3 k).2.2.1 = some (tyJ3 k) := by decide +kernel
abbrev cJ3_checkIndex_8e157 : ByteArray := prog_16_method_11_code
def yJ3_checkIndex_8e157 : MethodName := ⟨RJ3, "checkIndex", "(IILjava/util/function/BiFunction;)I"⟩
def RL : String := "FugueNotesLaw"
abbrev cL_law : ByteArray := code
def yL_law : MethodName := ⟨RL, "law", "([I)Z"⟩
abbrev vwCl : List vw_C := [(RX0, TX0, 5), (RX1, TX1, 5), (RX2, TX2, 5), (RX3, TX3, 3), (RX4, TX4, 2), (RX5, TX5, 2), (RX6, TX6, 8), (RX7, TX7, 24)]
end
section
theorem dJ6_bitCount_0f7a4_0 : decode cJ6_bitCount_0f7a4 0 = .ok (.iload_n 0, 1) := by decide +kernel
theorem dJ6_bitCount_0f7a4_1 : decode cJ6_bitCount_0f7a4 1 = .ok (.iload_n 0, 1) := by decide +kernel
theorem dJ6_bitCount_0f7a4_2 : decode cJ6_bitCount_0f7a4 2 = .ok (.iconst 1, 1) := by decide +kernel
theorem dJ6_bitCount_0f7a4_3 : decode cJ6_bitCount_0f7a4 3 = .ok (.iushr, 1) := by decide +kernel
theorem dJ6_bitCount_0f7a4_4 : decode cJ6_bitCount_0f7a4 4 = .ok (.ldc_w 265, 3) := by decide +kernel
theorem dJ6_bitCount_0f7a4_7 : decode cJ6_bitCount_0f7a4 7 = .ok (.iand, 1) := by decide +kernel
theorem dJ6_bitCount_0f7a4_8 : decode cJ6_bitCount_0f7a4 8 = .ok (.isub, 1) := by decide +kernel
theorem dJ6_bitCount_0f7a4_9 : decode cJ6_bitCount_0f7a4 9 = .ok (.istore_n 0, 1) := by decide +kernel
theorem dJ6_bitCount_0f7a4_10 : decode cJ6_bitCount_0f7a4 10 = .ok (.iload_n 0, 1) := by decide +kernel
theorem dJ6_bitCount_0f7a4_11 : decode cJ6_bitCount_0f7a4 11 = .ok (.ldc_w 266, 3) := by decide +kernel
theorem dJ6_bitCount_0f7a4_14 : decode cJ6_bitCount_0f7a4 14 = .ok (.iand, 1) := by decide +kernel
theorem dJ6_bitCount_0f7a4_15 : decode cJ6_bitCount_0f7a4 15 = .ok (.iload_n 0, 1) := by decide +kernel
theorem dJ6_bitCount_0f7a4_16 : decode cJ6_bitCount_0f7a4 16 = .ok (.iconst 2, 1) := by decide +kernel
theorem dJ6_bitCount_0f7a4_17 : decode cJ6_bitCount_0f7a4 17 = .ok (.iushr, 1) := by decide +kernel
theorem dJ6_bitCount_0f7a4_18 : decode cJ6_bitCount_0f7a4 18 = .ok (.ldc_w 266, 3) := by decide +kernel
theorem dJ6_bitCount_0f7a4_21 : decode cJ6_bitCount_0f7a4 21 = .ok (.iand, 1) := by decide +kernel
theorem dJ6_bitCount_0f7a4_22 : decode cJ6_bitCount_0f7a4 22 = .ok (.iadd, 1) := by decide +kernel
theorem dJ6_bitCount_0f7a4_23 : decode cJ6_bitCount_0f7a4 23 = .ok (.istore_n 0, 1) := by decide +kernel
theorem dJ6_bitCount_0f7a4_24 : decode cJ6_bitCount_0f7a4 24 = .ok (.iload_n 0, 1) := by decide +kernel
theorem dJ6_bitCount_0f7a4_25 : decode cJ6_bitCount_0f7a4 25 = .ok (.iload_n 0, 1) := by decide +kernel
theorem dJ6_bitCount_0f7a4_26 : decode cJ6_bitCount_0f7a4 26 = .ok (.iconst 4, 1) := by decide +kernel
theorem dJ6_bitCount_0f7a4_27 : decode cJ6_bitCount_0f7a4 27 = .ok (.iushr, 1) := by decide +kernel
theorem dJ6_bitCount_0f7a4_28 : decode cJ6_bitCount_0f7a4 28 = .ok (.iadd, 1) := by decide +kernel
theorem dJ6_bitCount_0f7a4_29 : decode cJ6_bitCount_0f7a4 29 = .ok (.ldc_w 267, 3) := by decide +kernel
theorem dJ6_bitCount_0f7a4_32 : decode cJ6_bitCount_0f7a4 32 = .ok (.iand, 1) := by decide +kernel
theorem dJ6_bitCount_0f7a4_33 : decode cJ6_bitCount_0f7a4 33 = .ok (.istore_n 0, 1) := by decide +kernel
theorem dJ6_bitCount_0f7a4_34 : decode cJ6_bitCount_0f7a4 34 = .ok (.iload_n 0, 1) := by decide +kernel
theorem dJ6_bitCount_0f7a4_35 : decode cJ6_bitCount_0f7a4 35 = .ok (.iload_n 0, 1) := by decide +kernel
theorem dJ6_bitCount_0f7a4_36 : decode cJ6_bitCount_0f7a4 36 = .ok (.bipush 8, 2) := by decide +kernel
theorem dJ6_bitCount_0f7a4_38 : decode cJ6_bitCount_0f7a4 38 = .ok (.iushr, 1) := by decide +kernel
theorem dJ6_bitCount_0f7a4_39 : decode cJ6_bitCount_0f7a4 39 = .ok (.iadd, 1) := by decide +kernel
theorem dJ6_bitCount_0f7a4_40 : decode cJ6_bitCount_0f7a4 40 = .ok (.istore_n 0, 1) := by decide +kernel
theorem dJ6_bitCount_0f7a4_41 : decode cJ6_bitCount_0f7a4 41 = .ok (.iload_n 0, 1) := by decide +kernel
theorem dJ6_bitCount_0f7a4_42 : decode cJ6_bitCount_0f7a4 42 = .ok (.iload_n 0, 1) := by decide +kernel
theorem dJ6_bitCount_0f7a4_43 : decode cJ6_bitCount_0f7a4 43 = .ok (.bipush 16, 2) := by decide +kernel
theorem dJ6_bitCount_0f7a4_45 : decode cJ6_bitCount_0f7a4 45 = .ok (.iushr, 1) := by decide +kernel
theorem dJ6_bitCount_0f7a4_46 : decode cJ6_bitCount_0f7a4 46 = .ok (.iadd, 1) := by decide +kernel
theorem dJ6_bitCount_0f7a4_47 : decode cJ6_bitCount_0f7a4 47 = .ok (.istore_n 0, 1) := by decide +kernel
theorem dJ6_bitCount_0f7a4_48 : decode cJ6_bitCount_0f7a4 48 = .ok (.iload_n 0, 1) := by decide +kernel
theorem dJ6_bitCount_0f7a4_49 : decode cJ6_bitCount_0f7a4 49 = .ok (.bipush 63, 2) := by decide +kernel
theorem dJ6_bitCount_0f7a4_51 : decode cJ6_bitCount_0f7a4 51 = .ok (.iand, 1) := by decide +kernel
theorem dJ6_bitCount_0f7a4_52 : decode cJ6_bitCount_0f7a4 52 = .ok (.ireturn, 1) := by decide +kernel
theorem dJ9_floorMod_7cf53_0 : decode cJ9_floorMod_7cf53 0 = .ok (.iload_n 0, 1) := by decide +kernel
theorem dJ9_floorMod_7cf53_1 : decode cJ9_floorMod_7cf53 1 = .ok (.iload_n 1, 1) := by decide +kernel
theorem dJ9_floorMod_7cf53_2 : decode cJ9_floorMod_7cf53 2 = .ok (.irem, 1) := by decide +kernel
theorem dJ9_floorMod_7cf53_3 : decode cJ9_floorMod_7cf53 3 = .ok (.istore_n 2, 1) := by decide +kernel
theorem dJ9_floorMod_7cf53_4 : decode cJ9_floorMod_7cf53 4 = .ok (.iload_n 0, 1) := by decide +kernel
theorem dJ9_floorMod_7cf53_5 : decode cJ9_floorMod_7cf53 5 = .ok (.iload_n 1, 1) := by decide +kernel
theorem dJ9_floorMod_7cf53_6 : decode cJ9_floorMod_7cf53 6 = .ok (.ixor, 1) := by decide +kernel
theorem dJ9_floorMod_7cf53_7 : decode cJ9_floorMod_7cf53 7 = .ok (.ifCond .ge 11, 3) := by decide +kernel
theorem dJ9_floorMod_7cf53_10 : decode cJ9_floorMod_7cf53 10 = .ok (.iload_n 2, 1) := by decide +kernel
theorem dJ9_floorMod_7cf53_11 : decode cJ9_floorMod_7cf53 11 = .ok (.ifCond .eq 7, 3) := by decide +kernel
theorem dJ9_floorMod_7cf53_14 : decode cJ9_floorMod_7cf53 14 = .ok (.iload_n 2, 1) := by decide +kernel
theorem dJ9_floorMod_7cf53_15 : decode cJ9_floorMod_7cf53 15 = .ok (.iload_n 1, 1) := by decide +kernel
theorem dJ9_floorMod_7cf53_16 : decode cJ9_floorMod_7cf53 16 = .ok (.iadd, 1) := by decide +kernel
theorem dJ9_floorMod_7cf53_17 : decode cJ9_floorMod_7cf53 17 = .ok (.ireturn, 1) := by decide +kernel
theorem dJ9_floorMod_7cf53_18 : decode cJ9_floorMod_7cf53 18 = .ok (.iload_n 2, 1) := by decide +kernel
theorem dJ9_floorMod_7cf53_19 : decode cJ9_floorMod_7cf53 19 = .ok (.ireturn, 1) := by decide +kernel
theorem dJ9_abs_0f7a4_0 : decode cJ9_abs_0f7a4 0 = .ok (.iload_n 0, 1) := by decide +kernel
theorem dJ9_abs_0f7a4_1 : decode cJ9_abs_0f7a4 1 = .ok (.ifCond .ge 8, 3) := by decide +kernel
theorem dJ9_abs_0f7a4_4 : decode cJ9_abs_0f7a4 4 = .ok (.iload_n 0, 1) := by decide +kernel
theorem dJ9_abs_0f7a4_5 : decode cJ9_abs_0f7a4 5 = .ok (.ineg, 1) := by decide +kernel
theorem dJ9_abs_0f7a4_6 : decode cJ9_abs_0f7a4 6 = .ok (.goto 4, 3) := by decide +kernel
theorem dJ9_abs_0f7a4_9 : decode cJ9_abs_0f7a4 9 = .ok (.iload_n 0, 1) := by decide +kernel
theorem dJ9_abs_0f7a4_10 : decode cJ9_abs_0f7a4 10 = .ok (.ireturn, 1) := by decide +kernel
theorem dJ9_max_7cf53_0 : decode cJ9_max_7cf53 0 = .ok (.iload_n 0, 1) := by decide +kernel
theorem dJ9_max_7cf53_1 : decode cJ9_max_7cf53 1 = .ok (.iload_n 1, 1) := by decide +kernel
theorem dJ9_max_7cf53_2 : decode cJ9_max_7cf53 2 = .ok (.if_icmp .lt 7, 3) := by decide +kernel
theorem dJ9_max_7cf53_5 : decode cJ9_max_7cf53 5 = .ok (.iload_n 0, 1) := by decide +kernel
theorem dJ9_max_7cf53_6 : decode cJ9_max_7cf53 6 = .ok (.goto 4, 3) := by decide +kernel
theorem dJ9_max_7cf53_9 : decode cJ9_max_7cf53 9 = .ok (.iload_n 1, 1) := by decide +kernel
theorem dJ9_max_7cf53_10 : decode cJ9_max_7cf53 10 = .ok (.ireturn, 1) := by decide +kernel
theorem dJ9_min_7cf53_0 : decode cJ9_min_7cf53 0 = .ok (.iload_n 0, 1) := by decide +kernel
theorem dJ9_min_7cf53_1 : decode cJ9_min_7cf53 1 = .ok (.iload_n 1, 1) := by decide +kernel
theorem dJ9_min_7cf53_2 : decode cJ9_min_7cf53 2 = .ok (.if_icmp .gt 7, 3) := by decide +kernel
theorem dJ9_min_7cf53_5 : decode cJ9_min_7cf53 5 = .ok (.iload_n 0, 1) := by decide +kernel
theorem dJ9_min_7cf53_6 : decode cJ9_min_7cf53 6 = .ok (.goto 4, 3) := by decide +kernel
theorem dJ9_min_7cf53_9 : decode cJ9_min_7cf53 9 = .ok (.iload_n 1, 1) := by decide +kernel
theorem dJ9_min_7cf53_10 : decode cJ9_min_7cf53 10 = .ok (.ireturn, 1) := by decide +kernel
theorem dJ0_length_8abf5_0 : decode cJ0_length_8abf5 0 = .ok (.aload_n 0, 1) := by decide +kernel
theorem dJ0_length_8abf5_1 : decode cJ0_length_8abf5 1 = .ok (.getfield 9, 3) := by decide +kernel
theorem dJ0_length_8abf5_4 : decode cJ0_length_8abf5 4 = .ok (.arraylength, 1) := by decide +kernel
theorem dJ0_length_8abf5_5 : decode cJ0_length_8abf5 5 = .ok (.aload_n 0, 1) := by decide +kernel
theorem dJ0_length_8abf5_6 : decode cJ0_length_8abf5 6 = .ok (.invokevirtual 335, 3) := by decide +kernel
theorem dJ0_length_8abf5_9 : decode cJ0_length_8abf5 9 = .ok (.ishr, 1) := by decide +kernel
theorem dJ0_length_8abf5_10 : decode cJ0_length_8abf5 10 = .ok (.ireturn, 1) := by decide +kernel
theorem dJ0_charAt_5068e_0 : decode cJ0_charAt_5068e 0 = .ok (.aload_n 0, 1) := by decide +kernel
theorem dJ0_charAt_5068e_1 : decode cJ0_charAt_5068e 1 = .ok (.invokevirtual 492, 3) := by decide +kernel
theorem dJ0_charAt_5068e_4 : decode cJ0_charAt_5068e 4 = .ok (.ifCond .eq 12, 3) := by decide +kernel
theorem dJ0_charAt_5068e_7 : decode cJ0_charAt_5068e 7 = .ok (.aload_n 0, 1) := by decide +kernel
theorem dJ0_charAt_5068e_8 : decode cJ0_charAt_5068e 8 = .ok (.getfield 9, 3) := by decide +kernel
theorem dJ0_charAt_5068e_11 : decode cJ0_charAt_5068e 11 = .ok (.iload_n 1, 1) := by decide +kernel
theorem dJ0_charAt_5068e_12 : decode cJ0_charAt_5068e 12 = .ok (.invokestatic 495, 3) := by decide +kernel
theorem dJ0_charAt_5068e_15 : decode cJ0_charAt_5068e 15 = .ok (.ireturn, 1) := by decide +kernel
theorem dJ0_charAt_5068e_16 : decode cJ0_charAt_5068e 16 = .ok (.aload_n 0, 1) := by decide +kernel
theorem dJ0_charAt_5068e_17 : decode cJ0_charAt_5068e 17 = .ok (.getfield 9, 3) := by decide +kernel
theorem dJ0_charAt_5068e_20 : decode cJ0_charAt_5068e 20 = .ok (.iload_n 1, 1) := by decide +kernel
theorem dJ0_charAt_5068e_21 : decode cJ0_charAt_5068e 21 = .ok (.invokestatic 498, 3) := by decide +kernel
theorem dJ0_charAt_5068e_24 : decode cJ0_charAt_5068e 24 = .ok (.ireturn, 1) := by decide +kernel
theorem dJ0_coder_7d493_0 : decode cJ0_coder_7d493 0 = .ok (.getstatic 38, 3) := by decide +kernel
theorem dJ0_coder_7d493_3 : decode cJ0_coder_7d493 3 = .ok (.ifCond .eq 10, 3) := by decide +kernel
theorem dJ0_coder_7d493_6 : decode cJ0_coder_7d493 6 = .ok (.aload_n 0, 1) := by decide +kernel
theorem dJ0_coder_7d493_7 : decode cJ0_coder_7d493 7 = .ok (.getfield 15, 3) := by decide +kernel
theorem dJ0_coder_7d493_10 : decode cJ0_coder_7d493 10 = .ok (.goto 4, 3) := by decide +kernel
theorem dJ0_coder_7d493_13 : decode cJ0_coder_7d493 13 = .ok (.iconst 1, 1) := by decide +kernel
theorem dJ0_coder_7d493_14 : decode cJ0_coder_7d493 14 = .ok (.ireturn, 1) := by decide +kernel
theorem dJ0_isLatin1_aae02_0 : decode cJ0_isLatin1_aae02 0 = .ok (.getstatic 38, 3) := by decide +kernel
theorem dJ0_isLatin1_aae02_3 : decode cJ0_isLatin1_aae02 3 = .ok (.ifCond .eq 14, 3) := by decide +kernel
theorem dJ0_isLatin1_aae02_6 : decode cJ0_isLatin1_aae02 6 = .ok (.aload_n 0, 1) := by decide +kernel
theorem dJ0_isLatin1_aae02_7 : decode cJ0_isLatin1_aae02 7 = .ok (.getfield 15, 3) := by decide +kernel
theorem dJ0_isLatin1_aae02_10 : decode cJ0_isLatin1_aae02 10 = .ok (.ifCond .ne 7, 3) := by decide +kernel
theorem dJ0_isLatin1_aae02_13 : decode cJ0_isLatin1_aae02 13 = .ok (.iconst 1, 1) := by decide +kernel
theorem dJ0_isLatin1_aae02_14 : decode cJ0_isLatin1_aae02 14 = .ok (.goto 4, 3) := by decide +kernel
theorem dJ0_isLatin1_aae02_17 : decode cJ0_isLatin1_aae02 17 = .ok (.iconst 0, 1) := by decide +kernel
theorem dJ0_isLatin1_aae02_18 : decode cJ0_isLatin1_aae02 18 = .ok (.ireturn, 1) := by decide +kernel
theorem dJ0_checkIndex_df160_0 : decode cJ0_checkIndex_df160 0 = .ok (.iload_n 0, 1) := by decide +kernel
theorem dJ0_checkIndex_df160_1 : decode cJ0_checkIndex_df160 1 = .ok (.iload_n 1, 1) := by decide +kernel
theorem dJ0_checkIndex_df160_2 : decode cJ0_checkIndex_df160 2 = .ok (.getstatic 1053, 3) := by decide +kernel
theorem dJ0_checkIndex_df160_5 : decode cJ0_checkIndex_df160 5 = .ok (.invokestatic 1059, 3) := by decide +kernel
theorem dJ0_checkIndex_df160_8 : decode cJ0_checkIndex_df160 8 = .ok (.pop, 1) := by decide +kernel
theorem dJ0_checkIndex_df160_9 : decode cJ0_checkIndex_df160 9 = .ok (.return_, 1) := by decide +kernel
theorem dJ1_charAt_3b067_0 : decode cJ1_charAt_3b067 0 = .ok (.iload_n 1, 1) := by decide +kernel
theorem dJ1_charAt_3b067_1 : decode cJ1_charAt_3b067 1 = .ok (.aload_n 0, 1) := by decide +kernel
theorem dJ1_charAt_3b067_2 : decode cJ1_charAt_3b067 2 = .ok (.arraylength, 1) := by decide +kernel
theorem dJ1_charAt_3b067_3 : decode cJ1_charAt_3b067 3 = .ok (.invokestatic 9, 3) := by decide +kernel
theorem dJ1_charAt_3b067_6 : decode cJ1_charAt_3b067 6 = .ok (.aload_n 0, 1) := by decide +kernel
theorem dJ1_charAt_3b067_7 : decode cJ1_charAt_3b067 7 = .ok (.iload_n 1, 1) := by decide +kernel
theorem dJ1_charAt_3b067_8 : decode cJ1_charAt_3b067 8 = .ok (.baload, 1) := by decide +kernel
theorem dJ1_charAt_3b067_9 : decode cJ1_charAt_3b067 9 = .ok (.sipush 255, 3) := by decide +kernel
theorem dJ1_charAt_3b067_12 : decode cJ1_charAt_3b067 12 = .ok (.iand, 1) := by decide +kernel
theorem dJ1_charAt_3b067_13 : decode cJ1_charAt_3b067 13 = .ok (.i2c, 1) := by decide +kernel
theorem dJ1_charAt_3b067_14 : decode cJ1_charAt_3b067 14 = .ok (.ireturn, 1) := by decide +kernel
theorem dJ2_getChar_3b067_0 : decode cJ2_getChar_3b067 0 = .ok (.getstatic 44, 3) := by decide +kernel
theorem dJ2_getChar_3b067_3 : decode cJ2_getChar_3b067 3 = .ok (.ifCond .ne 25, 3) := by decide +kernel
theorem dJ2_getChar_3b067_6 : decode cJ2_getChar_3b067 6 = .ok (.iload_n 1, 1) := by decide +kernel
theorem dJ2_getChar_3b067_7 : decode cJ2_getChar_3b067 7 = .ok (.ifCond .lt 11, 3) := by decide +kernel
theorem dJ2_getChar_3b067_10 : decode cJ2_getChar_3b067 10 = .ok (.iload_n 1, 1) := by decide +kernel
theorem dJ2_getChar_3b067_11 : decode cJ2_getChar_3b067 11 = .ok (.aload_n 0, 1) := by decide +kernel
theorem dJ2_getChar_3b067_12 : decode cJ2_getChar_3b067 12 = .ok (.invokestatic 48, 3) := by decide +kernel
theorem dJ2_getChar_3b067_15 : decode cJ2_getChar_3b067 15 = .ok (.if_icmp .lt 13, 3) := by decide +kernel
theorem dJ2_getChar_3b067_18 : decode cJ2_getChar_3b067 18 = .ok (.new 52, 3) := by decide +kernel
theorem dJ2_getChar_3b067_21 : decode cJ2_getChar_3b067 21 = .ok (.dup, 1) := by decide +kernel
theorem dJ2_getChar_3b067_22 : decode cJ2_getChar_3b067 22 = .ok (.ldc 54, 2) := by decide +kernel
theorem dJ2_getChar_3b067_24 : decode cJ2_getChar_3b067 24 = .ok (.invokespecial 56, 3) := by decide +kernel
theorem dJ2_getChar_3b067_27 : decode cJ2_getChar_3b067 27 = .ok (.athrow, 1) := by decide +kernel
theorem dJ2_getChar_3b067_28 : decode cJ2_getChar_3b067 28 = .ok (.iload_n 1, 1) := by decide +kernel
theorem dJ2_getChar_3b067_29 : decode cJ2_getChar_3b067 29 = .ok (.iconst 1, 1) := by decide +kernel
theorem dJ2_getChar_3b067_30 : decode cJ2_getChar_3b067 30 = .ok (.ishl, 1) := by decide +kernel
theorem dJ2_getChar_3b067_31 : decode cJ2_getChar_3b067 31 = .ok (.istore_n 1, 1) := by decide +kernel
theorem dJ2_getChar_3b067_32 : decode cJ2_getChar_3b067 32 = .ok (.aload_n 0, 1) := by decide +kernel
theorem dJ2_getChar_3b067_33 : decode cJ2_getChar_3b067 33 = .ok (.iload_n 1, 1) := by decide +kernel
theorem dJ2_getChar_3b067_34 : decode cJ2_getChar_3b067 34 = .ok (.iinc 1 1, 3) := by decide +kernel
theorem dJ2_getChar_3b067_37 : decode cJ2_getChar_3b067 37 = .ok (.baload, 1) := by decide +kernel
theorem dJ2_getChar_3b067_38 : decode cJ2_getChar_3b067 38 = .ok (.sipush 255, 3) := by decide +kernel
theorem dJ2_getChar_3b067_41 : decode cJ2_getChar_3b067 41 = .ok (.iand, 1) := by decide +kernel
theorem dJ2_getChar_3b067_42 : decode cJ2_getChar_3b067 42 = .ok (.getstatic 59, 3) := by decide +kernel
theorem dJ2_getChar_3b067_45 : decode cJ2_getChar_3b067 45 = .ok (.ishl, 1) := by decide +kernel
theorem dJ2_getChar_3b067_46 : decode cJ2_getChar_3b067 46 = .ok (.aload_n 0, 1) := by decide +kernel
theorem dJ2_getChar_3b067_47 : decode cJ2_getChar_3b067 47 = .ok (.iload_n 1, 1) := by decide +kernel
theorem dJ2_getChar_3b067_48 : decode cJ2_getChar_3b067 48 = .ok (.baload, 1) := by decide +kernel
theorem dJ2_getChar_3b067_49 : decode cJ2_getChar_3b067 49 = .ok (.sipush 255, 3) := by decide +kernel
theorem dJ2_getChar_3b067_52 : decode cJ2_getChar_3b067 52 = .ok (.iand, 1) := by decide +kernel
theorem dJ2_getChar_3b067_53 : decode cJ2_getChar_3b067 53 = .ok (.getstatic 63, 3) := by decide +kernel
theorem dJ2_getChar_3b067_56 : decode cJ2_getChar_3b067 56 = .ok (.ishl, 1) := by decide +kernel
theorem dJ2_getChar_3b067_57 : decode cJ2_getChar_3b067 57 = .ok (.ior, 1) := by decide +kernel
theorem dJ2_getChar_3b067_58 : decode cJ2_getChar_3b067 58 = .ok (.i2c, 1) := by decide +kernel
theorem dJ2_getChar_3b067_59 : decode cJ2_getChar_3b067 59 = .ok (.ireturn, 1) := by decide +kernel
theorem dJ2_length_9d52b_0 : decode cJ2_length_9d52b 0 = .ok (.aload_n 0, 1) := by decide +kernel
theorem dJ2_length_9d52b_1 : decode cJ2_length_9d52b 1 = .ok (.arraylength, 1) := by decide +kernel
theorem dJ2_length_9d52b_2 : decode cJ2_length_9d52b 2 = .ok (.iconst 1, 1) := by decide +kernel
theorem dJ2_length_9d52b_3 : decode cJ2_length_9d52b 3 = .ok (.ishr, 1) := by decide +kernel
theorem dJ2_length_9d52b_4 : decode cJ2_length_9d52b 4 = .ok (.ireturn, 1) := by decide +kernel
theorem dJ2_charAt_3b067_0 : decode cJ2_charAt_3b067 0 = .ok (.iload_n 1, 1) := by decide +kernel
theorem dJ2_charAt_3b067_1 : decode cJ2_charAt_3b067 1 = .ok (.aload_n 0, 1) := by decide +kernel
theorem dJ2_charAt_3b067_2 : decode cJ2_charAt_3b067 2 = .ok (.invokestatic 67, 3) := by decide +kernel
theorem dJ2_charAt_3b067_5 : decode cJ2_charAt_3b067 5 = .ok (.aload_n 0, 1) := by decide +kernel
theorem dJ2_charAt_3b067_6 : decode cJ2_charAt_3b067 6 = .ok (.iload_n 1, 1) := by decide +kernel
theorem dJ2_charAt_3b067_7 : decode cJ2_charAt_3b067 7 = .ok (.invokestatic 71, 3) := by decide +kernel
theorem dJ2_charAt_3b067_10 : decode cJ2_charAt_3b067 10 = .ok (.ireturn, 1) := by decide +kernel
theorem dJ2_checkIndex_2214a_0 : decode cJ2_checkIndex_2214a 0 = .ok (.iload_n 0, 1) := by decide +kernel
theorem dJ2_checkIndex_2214a_1 : decode cJ2_checkIndex_2214a 1 = .ok (.aload_n 1, 1) := by decide +kernel
theorem dJ2_checkIndex_2214a_2 : decode cJ2_checkIndex_2214a 2 = .ok (.invokestatic 48, 3) := by decide +kernel
theorem dJ2_checkIndex_2214a_5 : decode cJ2_checkIndex_2214a 5 = .ok (.invokestatic 414, 3) := by decide +kernel
theorem dJ2_checkIndex_2214a_8 : decode cJ2_checkIndex_2214a 8 = .ok (.return_, 1) := by decide +kernel
theorem dJ3_checkIndex_8e157_0 : decode cJ3_checkIndex_8e157 0 = .ok (.iload_n 0, 1) := by decide +kernel
theorem dJ3_checkIndex_8e157_1 : decode cJ3_checkIndex_8e157 1 = .ok (.ifCond .lt 8, 3) := by decide +kernel
theorem dJ3_checkIndex_8e157_4 : decode cJ3_checkIndex_8e157 4 = .ok (.iload_n 0, 1) := by decide +kernel
theorem dJ3_checkIndex_8e157_5 : decode cJ3_checkIndex_8e157 5 = .ok (.iload_n 1, 1) := by decide +kernel
theorem dJ3_checkIndex_8e157_6 : decode cJ3_checkIndex_8e157 6 = .ok (.if_icmp .lt 10, 3) := by decide +kernel
theorem dJ3_checkIndex_8e157_9 : decode cJ3_checkIndex_8e157 9 = .ok (.aload_n 2, 1) := by decide +kernel
theorem dJ3_checkIndex_8e157_10 : decode cJ3_checkIndex_8e157 10 = .ok (.iload_n 0, 1) := by decide +kernel
theorem dJ3_checkIndex_8e157_11 : decode cJ3_checkIndex_8e157 11 = .ok (.iload_n 1, 1) := by decide +kernel
theorem dJ3_checkIndex_8e157_12 : decode cJ3_checkIndex_8e157 12 = .ok (.invokestatic 95, 3) := by decide +kernel
theorem dJ3_checkIndex_8e157_15 : decode cJ3_checkIndex_8e157 15 = .ok (.athrow, 1) := by decide +kernel
theorem dJ3_checkIndex_8e157_16 : decode cJ3_checkIndex_8e157 16 = .ok (.iload_n 0, 1) := by decide +kernel
theorem dJ3_checkIndex_8e157_17 : decode cJ3_checkIndex_8e157 17 = .ok (.ireturn, 1) := by decide +kernel
end
section
theorem dX0_init_0 : decode cX0_init 0 = .ok (.aload_n 0, 1) := by decide +kernel
theorem dX0_init_1 : decode cX0_init 1 = .ok (.invokespecial 3, 3) := by decide +kernel
theorem dX0_init_4 : decode cX0_init 4 = .ok (.return_, 1) := by decide +kernel
theorem dX0_become_0 : decode cX0_become 0 = .ok (.aload_n 0, 1) := by decide +kernel
theorem dX0_become_1 : decode cX0_become 1 = .ok (.aload_n 1, 1) := by decide +kernel
theorem dX0_become_2 : decode cX0_become 2 = .ok (.getfield 9, 3) := by decide +kernel
theorem dX0_become_5 : decode cX0_become 5 = .ok (.putfield 9, 3) := by decide +kernel
theorem dX0_become_8 : decode cX0_become 8 = .ok (.aload_n 0, 1) := by decide +kernel
theorem dX0_become_9 : decode cX0_become 9 = .ok (.aload_n 1, 1) := by decide +kernel
theorem dX0_become_10 : decode cX0_become 10 = .ok (.getfield 15, 3) := by decide +kernel
theorem dX0_become_13 : decode cX0_become 13 = .ok (.putfield 15, 3) := by decide +kernel
theorem dX0_become_16 : decode cX0_become 16 = .ok (.aload_n 0, 1) := by decide +kernel
theorem dX0_become_17 : decode cX0_become 17 = .ok (.aload_n 1, 1) := by decide +kernel
theorem dX0_become_18 : decode cX0_become 18 = .ok (.getfield 18, 3) := by decide +kernel
theorem dX0_become_21 : decode cX0_become 21 = .ok (.putfield 18, 3) := by decide +kernel
theorem dX0_become_24 : decode cX0_become 24 = .ok (.aload_n 0, 1) := by decide +kernel
theorem dX0_become_25 : decode cX0_become 25 = .ok (.aload_n 1, 1) := by decide +kernel
theorem dX0_become_26 : decode cX0_become 26 = .ok (.getfield 21, 3) := by decide +kernel
theorem dX0_become_29 : decode cX0_become 29 = .ok (.putfield 21, 3) := by decide +kernel
theorem dX0_become_32 : decode cX0_become 32 = .ok (.aload_n 0, 1) := by decide +kernel
theorem dX0_become_33 : decode cX0_become 33 = .ok (.aload_n 1, 1) := by decide +kernel
theorem dX0_become_34 : decode cX0_become 34 = .ok (.getfield 24, 3) := by decide +kernel
theorem dX0_become_37 : decode cX0_become 37 = .ok (.putfield 24, 3) := by decide +kernel
theorem dX0_become_40 : decode cX0_become 40 = .ok (.return_, 1) := by decide +kernel
theorem dX0_change_0 : decode cX0_change 0 = .ok (.iload_n 1, 1) := by decide +kernel
theorem dX0_change_1 : decode cX0_change 1 = .ok (.lookupswitch 43 #[(0, 27), (1, 35)], 27) := by decide +kernel
theorem dX0_change_28 : decode cX0_change 28 = .ok (.aload_n 0, 1) := by decide +kernel
theorem dX0_change_29 : decode cX0_change 29 = .ok (.iload_n 2, 1) := by decide +kernel
theorem dX0_change_30 : decode cX0_change 30 = .ok (.putfield 18, 3) := by decide +kernel
theorem dX0_change_33 : decode cX0_change 33 = .ok (.goto 23, 3) := by decide +kernel
theorem dX0_change_36 : decode cX0_change 36 = .ok (.aload_n 0, 1) := by decide +kernel
theorem dX0_change_37 : decode cX0_change 37 = .ok (.iload_n 2, 1) := by decide +kernel
theorem dX0_change_38 : decode cX0_change 38 = .ok (.putfield 9, 3) := by decide +kernel
theorem dX0_change_41 : decode cX0_change 41 = .ok (.goto 15, 3) := by decide +kernel
theorem dX0_change_44 : decode cX0_change 44 = .ok (.aload_n 0, 1) := by decide +kernel
theorem dX0_change_45 : decode cX0_change 45 = .ok (.dup, 1) := by decide +kernel
theorem dX0_change_46 : decode cX0_change 46 = .ok (.getfield 21, 3) := by decide +kernel
theorem dX0_change_49 : decode cX0_change 49 = .ok (.iconst 1, 1) := by decide +kernel
theorem dX0_change_50 : decode cX0_change 50 = .ok (.iload_n 2, 1) := by decide +kernel
theorem dX0_change_51 : decode cX0_change 51 = .ok (.ishl, 1) := by decide +kernel
theorem dX0_change_52 : decode cX0_change 52 = .ok (.ixor, 1) := by decide +kernel
theorem dX0_change_53 : decode cX0_change 53 = .ok (.putfield 21, 3) := by decide +kernel
theorem dX0_change_56 : decode cX0_change 56 = .ok (.return_, 1) := by decide +kernel
theorem dX0_lengthTo_0 : decode cX0_lengthTo 0 = .ok (.aload_n 0, 1) := by decide +kernel
theorem dX0_lengthTo_1 : decode cX0_lengthTo 1 = .ok (.getfield 9, 3) := by decide +kernel
theorem dX0_lengthTo_4 : decode cX0_lengthTo 4 = .ok (.iconst 3, 1) := by decide +kernel
theorem dX0_lengthTo_5 : decode cX0_lengthTo 5 = .ok (.if_icmp .ne 19, 3) := by decide +kernel
theorem dX0_lengthTo_8 : decode cX0_lengthTo 8 = .ok (.aload_n 1, 1) := by decide +kernel
theorem dX0_lengthTo_9 : decode cX0_lengthTo 9 = .ok (.getfield 27, 3) := by decide +kernel
theorem dX0_lengthTo_12 : decode cX0_lengthTo 12 = .ok (.bipush 6, 2) := by decide +kernel
theorem dX0_lengthTo_14 : decode cX0_lengthTo 14 = .ok (.if_icmp .le 10, 3) := by decide +kernel
theorem dX0_lengthTo_17 : decode cX0_lengthTo 17 = .ok (.aload_n 1, 1) := by decide +kernel
theorem dX0_lengthTo_18 : decode cX0_lengthTo 18 = .ok (.getfield 27, 3) := by decide +kernel
theorem dX0_lengthTo_21 : decode cX0_lengthTo 21 = .ok (.iconst 1, 1) := by decide +kernel
theorem dX0_lengthTo_22 : decode cX0_lengthTo 22 = .ok (.isub, 1) := by decide +kernel
theorem dX0_lengthTo_23 : decode cX0_lengthTo 23 = .ok (.ireturn, 1) := by decide +kernel
theorem dX0_lengthTo_24 : decode cX0_lengthTo 24 = .ok (.aload_n 1, 1) := by decide +kernel
theorem dX0_lengthTo_25 : decode cX0_lengthTo 25 = .ok (.getfield 27, 3) := by decide +kernel
theorem dX0_lengthTo_28 : decode cX0_lengthTo 28 = .ok (.ireturn, 1) := by decide +kernel
theorem dX0_toneTo_0 : decode cX0_toneTo 0 = .ok (.aload_n 0, 1) := by decide +kernel
theorem dX0_toneTo_1 : decode cX0_toneTo 1 = .ok (.aload_n 1, 1) := by decide +kernel
theorem dX0_toneTo_2 : decode cX0_toneTo 2 = .ok (.iload_n 2, 1) := by decide +kernel
theorem dX0_toneTo_3 : decode cX0_toneTo 3 = .ok (.invokevirtual 32, 3) := by decide +kernel
theorem dX0_toneTo_6 : decode cX0_toneTo 6 = .ok (.aload_n 0, 1) := by decide +kernel
theorem dX0_toneTo_7 : decode cX0_toneTo 7 = .ok (.getfield 18, 3) := by decide +kernel
theorem dX0_toneTo_10 : decode cX0_toneTo 10 = .ok (.iadd, 1) := by decide +kernel
theorem dX0_toneTo_11 : decode cX0_toneTo 11 = .ok (.istore_n 3, 1) := by decide +kernel
theorem dX0_toneTo_12 : decode cX0_toneTo 12 = .ok (.aload_n 0, 1) := by decide +kernel
theorem dX0_toneTo_13 : decode cX0_toneTo 13 = .ok (.iload_n 2, 1) := by decide +kernel
theorem dX0_toneTo_14 : decode cX0_toneTo 14 = .ok (.invokevirtual 36, 3) := by decide +kernel
theorem dX0_toneTo_17 : decode cX0_toneTo 17 = .ok (.ifCond .eq 6, 3) := by decide +kernel
theorem dX0_toneTo_20 : decode cX0_toneTo 20 = .ok (.iinc 3 6, 3) := by decide +kernel
theorem dX0_toneTo_23 : decode cX0_toneTo 23 = .ok (.iload_n 3, 1) := by decide +kernel
theorem dX0_toneTo_24 : decode cX0_toneTo 24 = .ok (.bipush 12, 2) := by decide +kernel
theorem dX0_toneTo_26 : decode cX0_toneTo 26 = .ok (.invokestatic 40, 3) := by decide +kernel
theorem dX0_toneTo_29 : decode cX0_toneTo 29 = .ok (.ireturn, 1) := by decide +kernel
theorem dX0_writeTo_0 : decode cX0_writeTo 0 = .ok (.aload_n 0, 1) := by decide +kernel
theorem dX0_writeTo_1 : decode cX0_writeTo 1 = .ok (.aload_n 1, 1) := by decide +kernel
theorem dX0_writeTo_2 : decode cX0_writeTo 2 = .ok (.invokevirtual 46, 3) := by decide +kernel
theorem dX0_writeTo_5 : decode cX0_writeTo 5 = .ok (.istore_n 3, 1) := by decide +kernel
theorem dX0_writeTo_6 : decode cX0_writeTo 6 = .ok (.aload_n 2, 1) := by decide +kernel
theorem dX0_writeTo_7 : decode cX0_writeTo 7 = .ok (.invokevirtual 50, 3) := by decide +kernel
theorem dX0_writeTo_10 : decode cX0_writeTo 10 = .ok (.iconst 0, 1) := by decide +kernel
theorem dX0_writeTo_11 : decode cX0_writeTo 11 = .ok (.istore 4, 2) := by decide +kernel
theorem dX0_writeTo_13 : decode cX0_writeTo 13 = .ok (.iload 4, 2) := by decide +kernel
theorem dX0_writeTo_15 : decode cX0_writeTo 15 = .ok (.iload_n 3, 1) := by decide +kernel
theorem dX0_writeTo_16 : decode cX0_writeTo 16 = .ok (.if_icmp .ge 20, 3) := by decide +kernel
theorem dX0_writeTo_19 : decode cX0_writeTo 19 = .ok (.aload_n 2, 1) := by decide +kernel
theorem dX0_writeTo_20 : decode cX0_writeTo 20 = .ok (.aload_n 0, 1) := by decide +kernel
theorem dX0_writeTo_21 : decode cX0_writeTo 21 = .ok (.aload_n 1, 1) := by decide +kernel
theorem dX0_writeTo_22 : decode cX0_writeTo 22 = .ok (.iload 4, 2) := by decide +kernel
theorem dX0_writeTo_24 : decode cX0_writeTo 24 = .ok (.invokevirtual 53, 3) := by decide +kernel
theorem dX0_writeTo_27 : decode cX0_writeTo 27 = .ok (.invokevirtual 56, 3) := by decide +kernel
theorem dX0_writeTo_30 : decode cX0_writeTo 30 = .ok (.iinc 4 1, 3) := by decide +kernel
theorem dX0_writeTo_33 : decode cX0_writeTo 33 = .ok (.goto (-20), 3) := by decide +kernel
theorem dX0_writeTo_36 : decode cX0_writeTo 36 = .ok (.aload_n 0, 1) := by decide +kernel
theorem dX0_writeTo_37 : decode cX0_writeTo 37 = .ok (.aload_n 0, 1) := by decide +kernel
theorem dX0_writeTo_38 : decode cX0_writeTo 38 = .ok (.getfield 24, 3) := by decide +kernel
theorem dX0_writeTo_41 : decode cX0_writeTo 41 = .ok (.iconst 1, 1) := by decide +kernel
theorem dX0_writeTo_42 : decode cX0_writeTo 42 = .ok (.iadd, 1) := by decide +kernel
theorem dX0_writeTo_43 : decode cX0_writeTo 43 = .ok (.sipush 9999, 3) := by decide +kernel
theorem dX0_writeTo_46 : decode cX0_writeTo 46 = .ok (.invokestatic 60, 3) := by decide +kernel
theorem dX0_writeTo_49 : decode cX0_writeTo 49 = .ok (.putfield 24, 3) := by decide +kernel
theorem dX0_writeTo_52 : decode cX0_writeTo 52 = .ok (.return_, 1) := by decide +kernel
theorem dX0_isBlotted_0 : decode cX0_isBlotted 0 = .ok (.iload_n 1, 1) := by decide +kernel
theorem dX0_isBlotted_1 : decode cX0_isBlotted 1 = .ok (.ifCond .lt 25, 3) := by decide +kernel
theorem dX0_isBlotted_4 : decode cX0_isBlotted 4 = .ok (.iload_n 1, 1) := by decide +kernel
theorem dX0_isBlotted_5 : decode cX0_isBlotted 5 = .ok (.bipush 12, 2) := by decide +kernel
theorem dX0_isBlotted_7 : decode cX0_isBlotted 7 = .ok (.if_icmp .ge 19, 3) := by decide +kernel
theorem dX0_isBlotted_10 : decode cX0_isBlotted 10 = .ok (.aload_n 0, 1) := by decide +kernel
theorem dX0_isBlotted_11 : decode cX0_isBlotted 11 = .ok (.getfield 21, 3) := by decide +kernel
theorem dX0_isBlotted_14 : decode cX0_isBlotted 14 = .ok (.iload_n 1, 1) := by decide +kernel
theorem dX0_isBlotted_15 : decode cX0_isBlotted 15 = .ok (.ishr, 1) := by decide +kernel
theorem dX0_isBlotted_16 : decode cX0_isBlotted 16 = .ok (.iconst 1, 1) := by decide +kernel
theorem dX0_isBlotted_17 : decode cX0_isBlotted 17 = .ok (.iand, 1) := by decide +kernel
theorem dX0_isBlotted_18 : decode cX0_isBlotted 18 = .ok (.iconst 1, 1) := by decide +kernel
theorem dX0_isBlotted_19 : decode cX0_isBlotted 19 = .ok (.if_icmp .ne 7, 3) := by decide +kernel
theorem dX0_isBlotted_22 : decode cX0_isBlotted 22 = .ok (.iconst 1, 1) := by decide +kernel
theorem dX0_isBlotted_23 : decode cX0_isBlotted 23 = .ok (.goto 4, 3) := by decide +kernel
theorem dX0_isBlotted_26 : decode cX0_isBlotted 26 = .ok (.iconst 0, 1) := by decide +kernel
theorem dX0_isBlotted_27 : decode cX0_isBlotted 27 = .ok (.ireturn, 1) := by decide +kernel
theorem dX0_turnedAbout_0 : decode cX0_turnedAbout 0 = .ok (.iload_n 2, 1) := by decide +kernel
theorem dX0_turnedAbout_1 : decode cX0_turnedAbout 1 = .ok (.ifCond .lt 11, 3) := by decide +kernel
theorem dX0_turnedAbout_4 : decode cX0_turnedAbout 4 = .ok (.iload_n 2, 1) := by decide +kernel
theorem dX0_turnedAbout_5 : decode cX0_turnedAbout 5 = .ok (.aload_n 1, 1) := by decide +kernel
theorem dX0_turnedAbout_6 : decode cX0_turnedAbout 6 = .ok (.getfield 27, 3) := by decide +kernel
theorem dX0_turnedAbout_9 : decode cX0_turnedAbout 9 = .ok (.if_icmp .lt 5, 3) := by decide +kernel
theorem dX0_turnedAbout_12 : decode cX0_turnedAbout 12 = .ok (.iconst 0, 1) := by decide +kernel
theorem dX0_turnedAbout_13 : decode cX0_turnedAbout 13 = .ok (.ireturn, 1) := by decide +kernel
theorem dX0_turnedAbout_14 : decode cX0_turnedAbout 14 = .ok (.aload_n 1, 1) := by decide +kernel
theorem dX0_turnedAbout_15 : decode cX0_turnedAbout 15 = .ok (.getfield 63, 3) := by decide +kernel
theorem dX0_turnedAbout_18 : decode cX0_turnedAbout 18 = .ok (.astore_n 3, 1) := by decide +kernel
theorem dX0_turnedAbout_19 : decode cX0_turnedAbout 19 = .ok (.aload_n 1, 1) := by decide +kernel
theorem dX0_turnedAbout_20 : decode cX0_turnedAbout 20 = .ok (.getfield 27, 3) := by decide +kernel
theorem dX0_turnedAbout_23 : decode cX0_turnedAbout 23 = .ok (.iconst 1, 1) := by decide +kernel
theorem dX0_turnedAbout_24 : decode cX0_turnedAbout 24 = .ok (.isub, 1) := by decide +kernel
theorem dX0_turnedAbout_25 : decode cX0_turnedAbout 25 = .ok (.istore 4, 2) := by decide +kernel
theorem dX0_turnedAbout_27 : decode cX0_turnedAbout 27 = .ok (.aload_n 0, 1) := by decide +kernel
theorem dX0_turnedAbout_28 : decode cX0_turnedAbout 28 = .ok (.getfield 9, 3) := by decide +kernel
theorem dX0_turnedAbout_31 : decode cX0_turnedAbout 31 = .ok (.tableswitch 79 1 5 #[33, 43, 50, 54, 68], 33) := by decide +kernel
theorem dX0_turnedAbout_64 : decode cX0_turnedAbout 64 = .ok (.iconst 2, 1) := by decide +kernel
theorem dX0_turnedAbout_65 : decode cX0_turnedAbout 65 = .ok (.aload_n 3, 1) := by decide +kernel
theorem dX0_turnedAbout_66 : decode cX0_turnedAbout 66 = .ok (.iconst 0, 1) := by decide +kernel
theorem dX0_turnedAbout_67 : decode cX0_turnedAbout 67 = .ok (.iaload, 1) := by decide +kernel
theorem dX0_turnedAbout_68 : decode cX0_turnedAbout 68 = .ok (.imul, 1) := by decide +kernel
theorem dX0_turnedAbout_69 : decode cX0_turnedAbout 69 = .ok (.aload_n 3, 1) := by decide +kernel
theorem dX0_turnedAbout_70 : decode cX0_turnedAbout 70 = .ok (.iload_n 2, 1) := by decide +kernel
theorem dX0_turnedAbout_71 : decode cX0_turnedAbout 71 = .ok (.iaload, 1) := by decide +kernel
theorem dX0_turnedAbout_72 : decode cX0_turnedAbout 72 = .ok (.isub, 1) := by decide +kernel
theorem dX0_turnedAbout_73 : decode cX0_turnedAbout 73 = .ok (.ireturn, 1) := by decide +kernel
theorem dX0_turnedAbout_74 : decode cX0_turnedAbout 74 = .ok (.aload_n 3, 1) := by decide +kernel
theorem dX0_turnedAbout_75 : decode cX0_turnedAbout 75 = .ok (.iload 4, 2) := by decide +kernel
theorem dX0_turnedAbout_77 : decode cX0_turnedAbout 77 = .ok (.iload_n 2, 1) := by decide +kernel
theorem dX0_turnedAbout_78 : decode cX0_turnedAbout 78 = .ok (.isub, 1) := by decide +kernel
theorem dX0_turnedAbout_79 : decode cX0_turnedAbout 79 = .ok (.iaload, 1) := by decide +kernel
theorem dX0_turnedAbout_80 : decode cX0_turnedAbout 80 = .ok (.ireturn, 1) := by decide +kernel
theorem dX0_turnedAbout_81 : decode cX0_turnedAbout 81 = .ok (.aload_n 3, 1) := by decide +kernel
theorem dX0_turnedAbout_82 : decode cX0_turnedAbout 82 = .ok (.iconst 0, 1) := by decide +kernel
theorem dX0_turnedAbout_83 : decode cX0_turnedAbout 83 = .ok (.iaload, 1) := by decide +kernel
theorem dX0_turnedAbout_84 : decode cX0_turnedAbout 84 = .ok (.ireturn, 1) := by decide +kernel
theorem dX0_turnedAbout_85 : decode cX0_turnedAbout 85 = .ok (.iconst 2, 1) := by decide +kernel
theorem dX0_turnedAbout_86 : decode cX0_turnedAbout 86 = .ok (.aload_n 3, 1) := by decide +kernel
theorem dX0_turnedAbout_87 : decode cX0_turnedAbout 87 = .ok (.iload 4, 2) := by decide +kernel
theorem dX0_turnedAbout_89 : decode cX0_turnedAbout 89 = .ok (.iaload, 1) := by decide +kernel
theorem dX0_turnedAbout_90 : decode cX0_turnedAbout 90 = .ok (.imul, 1) := by decide +kernel
theorem dX0_turnedAbout_91 : decode cX0_turnedAbout 91 = .ok (.aload_n 3, 1) := by decide +kernel
theorem dX0_turnedAbout_92 : decode cX0_turnedAbout 92 = .ok (.iload 4, 2) := by decide +kernel
theorem dX0_turnedAbout_94 : decode cX0_turnedAbout 94 = .ok (.iload_n 2, 1) := by decide +kernel
theorem dX0_turnedAbout_95 : decode cX0_turnedAbout 95 = .ok (.isub, 1) := by decide +kernel
theorem dX0_turnedAbout_96 : decode cX0_turnedAbout 96 = .ok (.iaload, 1) := by decide +kernel
theorem dX0_turnedAbout_97 : decode cX0_turnedAbout 97 = .ok (.isub, 1) := by decide +kernel
theorem dX0_turnedAbout_98 : decode cX0_turnedAbout 98 = .ok (.ireturn, 1) := by decide +kernel
theorem dX0_turnedAbout_99 : decode cX0_turnedAbout 99 = .ok (.aload_n 3, 1) := by decide +kernel
theorem dX0_turnedAbout_100 : decode cX0_turnedAbout 100 = .ok (.iload 4, 2) := by decide +kernel
theorem dX0_turnedAbout_102 : decode cX0_turnedAbout 102 = .ok (.iload_n 2, 1) := by decide +kernel
theorem dX0_turnedAbout_103 : decode cX0_turnedAbout 103 = .ok (.isub, 1) := by decide +kernel
theorem dX0_turnedAbout_104 : decode cX0_turnedAbout 104 = .ok (.iaload, 1) := by decide +kernel
theorem dX0_turnedAbout_105 : decode cX0_turnedAbout 105 = .ok (.iload_n 2, 1) := by decide +kernel
theorem dX0_turnedAbout_106 : decode cX0_turnedAbout 106 = .ok (.iconst 1, 1) := by decide +kernel
theorem dX0_turnedAbout_107 : decode cX0_turnedAbout 107 = .ok (.iand, 1) := by decide +kernel
theorem dX0_turnedAbout_108 : decode cX0_turnedAbout 108 = .ok (.iadd, 1) := by decide +kernel
theorem dX0_turnedAbout_109 : decode cX0_turnedAbout 109 = .ok (.ireturn, 1) := by decide +kernel
theorem dX0_turnedAbout_110 : decode cX0_turnedAbout 110 = .ok (.aload_n 3, 1) := by decide +kernel
theorem dX0_turnedAbout_111 : decode cX0_turnedAbout 111 = .ok (.iload_n 2, 1) := by decide +kernel
theorem dX0_turnedAbout_112 : decode cX0_turnedAbout 112 = .ok (.iaload, 1) := by decide +kernel
theorem dX0_turnedAbout_113 : decode cX0_turnedAbout 113 = .ok (.ireturn, 1) := by decide +kernel
theorem dX1_init_0 : decode cX1_init 0 = .ok (.aload_n 0, 1) := by decide +kernel
theorem dX1_init_1 : decode cX1_init 1 = .ok (.invokespecial 3, 3) := by decide +kernel
theorem dX1_init_4 : decode cX1_init 4 = .ok (.aload_n 0, 1) := by decide +kernel
theorem dX1_init_5 : decode cX1_init 5 = .ok (.new 9, 3) := by decide +kernel
theorem dX1_init_8 : decode cX1_init 8 = .ok (.dup, 1) := by decide +kernel
theorem dX1_init_9 : decode cX1_init 9 = .ok (.invokespecial 11, 3) := by decide +kernel
theorem dX1_init_12 : decode cX1_init 12 = .ok (.putfield 12, 3) := by decide +kernel
theorem dX1_init_15 : decode cX1_init 15 = .ok (.aload_n 0, 1) := by decide +kernel
theorem dX1_init_16 : decode cX1_init 16 = .ok (.new 9, 3) := by decide +kernel
theorem dX1_init_19 : decode cX1_init 19 = .ok (.dup, 1) := by decide +kernel
theorem dX1_init_20 : decode cX1_init 20 = .ok (.invokespecial 11, 3) := by decide +kernel
theorem dX1_init_23 : decode cX1_init 23 = .ok (.putfield 18, 3) := by decide +kernel
theorem dX1_init_26 : decode cX1_init 26 = .ok (.aload_n 0, 1) := by decide +kernel
theorem dX1_init_27 : decode cX1_init 27 = .ok (.bipush 8, 2) := by decide +kernel
theorem dX1_init_29 : decode cX1_init 29 = .ok (.anewarray 21, 3) := by decide +kernel
theorem dX1_init_32 : decode cX1_init 32 = .ok (.putfield 23, 3) := by decide +kernel
theorem dX1_init_35 : decode cX1_init 35 = .ok (.iconst 0, 1) := by decide +kernel
theorem dX1_init_36 : decode cX1_init 36 = .ok (.istore_n 1, 1) := by decide +kernel
theorem dX1_init_37 : decode cX1_init 37 = .ok (.iload_n 1, 1) := by decide +kernel
theorem dX1_init_38 : decode cX1_init 38 = .ok (.bipush 8, 2) := by decide +kernel
theorem dX1_init_40 : decode cX1_init 40 = .ok (.if_icmp .ge 22, 3) := by decide +kernel
theorem dX1_init_43 : decode cX1_init 43 = .ok (.aload_n 0, 1) := by decide +kernel
theorem dX1_init_44 : decode cX1_init 44 = .ok (.getfield 23, 3) := by decide +kernel
theorem dX1_init_47 : decode cX1_init 47 = .ok (.iload_n 1, 1) := by decide +kernel
theorem dX1_init_48 : decode cX1_init 48 = .ok (.new 21, 3) := by decide +kernel
theorem dX1_init_51 : decode cX1_init 51 = .ok (.dup, 1) := by decide +kernel
theorem dX1_init_52 : decode cX1_init 52 = .ok (.invokespecial 27, 3) := by decide +kernel
theorem dX1_init_55 : decode cX1_init 55 = .ok (.aastore, 1) := by decide +kernel
theorem dX1_init_56 : decode cX1_init 56 = .ok (.iinc 1 1, 3) := by decide +kernel
theorem dX1_init_59 : decode cX1_init 59 = .ok (.goto (-22), 3) := by decide +kernel
theorem dX1_init_62 : decode cX1_init 62 = .ok (.aload_n 0, 1) := by decide +kernel
theorem dX1_init_63 : decode cX1_init 63 = .ok (.iconst 0, 1) := by decide +kernel
theorem dX1_init_64 : decode cX1_init 64 = .ok (.putfield 28, 3) := by decide +kernel
theorem dX1_init_67 : decode cX1_init 67 = .ok (.aload_n 0, 1) := by decide +kernel
theorem dX1_init_68 : decode cX1_init 68 = .ok (.iconst 0, 1) := by decide +kernel
theorem dX1_init_69 : decode cX1_init 69 = .ok (.putfield 32, 3) := by decide +kernel
theorem dX1_init_72 : decode cX1_init 72 = .ok (.return_, 1) := by decide +kernel
theorem dX1_become_0 : decode cX1_become 0 = .ok (.aload_n 0, 1) := by decide +kernel
theorem dX1_become_1 : decode cX1_become 1 = .ok (.getfield 12, 3) := by decide +kernel
theorem dX1_become_4 : decode cX1_become 4 = .ok (.aload_n 1, 1) := by decide +kernel
theorem dX1_become_5 : decode cX1_become 5 = .ok (.getfield 12, 3) := by decide +kernel
theorem dX1_become_8 : decode cX1_become 8 = .ok (.invokevirtual 35, 3) := by decide +kernel
theorem dX1_become_11 : decode cX1_become 11 = .ok (.aload_n 0, 1) := by decide +kernel
theorem dX1_become_12 : decode cX1_become 12 = .ok (.getfield 18, 3) := by decide +kernel
theorem dX1_become_15 : decode cX1_become 15 = .ok (.aload_n 1, 1) := by decide +kernel
theorem dX1_become_16 : decode cX1_become 16 = .ok (.getfield 18, 3) := by decide +kernel
theorem dX1_become_19 : decode cX1_become 19 = .ok (.invokevirtual 35, 3) := by decide +kernel
theorem dX1_become_22 : decode cX1_become 22 = .ok (.iconst 0, 1) := by decide +kernel
theorem dX1_become_23 : decode cX1_become 23 = .ok (.istore_n 2, 1) := by decide +kernel
theorem dX1_become_24 : decode cX1_become 24 = .ok (.iload_n 2, 1) := by decide +kernel
theorem dX1_become_25 : decode cX1_become 25 = .ok (.aload_n 1, 1) := by decide +kernel
theorem dX1_become_26 : decode cX1_become 26 = .ok (.getfield 28, 3) := by decide +kernel
theorem dX1_become_29 : decode cX1_become 29 = .ok (.if_icmp .ge 24, 3) := by decide +kernel
theorem dX1_become_32 : decode cX1_become 32 = .ok (.aload_n 0, 1) := by decide +kernel
theorem dX1_become_33 : decode cX1_become 33 = .ok (.getfield 23, 3) := by decide +kernel
theorem dX1_become_36 : decode cX1_become 36 = .ok (.iload_n 2, 1) := by decide +kernel
theorem dX1_become_37 : decode cX1_become 37 = .ok (.aaload, 1) := by decide +kernel
theorem dX1_become_38 : decode cX1_become 38 = .ok (.aload_n 1, 1) := by decide +kernel
theorem dX1_become_39 : decode cX1_become 39 = .ok (.getfield 23, 3) := by decide +kernel
theorem dX1_become_42 : decode cX1_become 42 = .ok (.iload_n 2, 1) := by decide +kernel
theorem dX1_become_43 : decode cX1_become 43 = .ok (.aaload, 1) := by decide +kernel
theorem dX1_become_44 : decode cX1_become 44 = .ok (.invokevirtual 39, 3) := by decide +kernel
theorem dX1_become_47 : decode cX1_become 47 = .ok (.iinc 2 1, 3) := by decide +kernel
theorem dX1_become_50 : decode cX1_become 50 = .ok (.goto (-26), 3) := by decide +kernel
theorem dX1_become_53 : decode cX1_become 53 = .ok (.aload_n 0, 1) := by decide +kernel
theorem dX1_become_54 : decode cX1_become 54 = .ok (.aload_n 1, 1) := by decide +kernel
theorem dX1_become_55 : decode cX1_become 55 = .ok (.getfield 28, 3) := by decide +kernel
theorem dX1_become_58 : decode cX1_become 58 = .ok (.putfield 28, 3) := by decide +kernel
theorem dX1_become_61 : decode cX1_become 61 = .ok (.aload_n 0, 1) := by decide +kernel
theorem dX1_become_62 : decode cX1_become 62 = .ok (.aload_n 1, 1) := by decide +kernel
theorem dX1_become_63 : decode cX1_become 63 = .ok (.getfield 32, 3) := by decide +kernel
theorem dX1_become_66 : decode cX1_become 66 = .ok (.putfield 32, 3) := by decide +kernel
theorem dX1_become_69 : decode cX1_become 69 = .ok (.return_, 1) := by decide +kernel
theorem dX1_tuneOf_0 : decode cX1_tuneOf 0 = .ok (.iload_n 1, 1) := by decide +kernel
theorem dX1_tuneOf_1 : decode cX1_tuneOf 1 = .ok (.ifCond .ne 10, 3) := by decide +kernel
theorem dX1_tuneOf_4 : decode cX1_tuneOf 4 = .ok (.aload_n 0, 1) := by decide +kernel
theorem dX1_tuneOf_5 : decode cX1_tuneOf 5 = .ok (.getfield 12, 3) := by decide +kernel
theorem dX1_tuneOf_8 : decode cX1_tuneOf 8 = .ok (.goto 7, 3) := by decide +kernel
theorem dX1_tuneOf_11 : decode cX1_tuneOf 11 = .ok (.aload_n 0, 1) := by decide +kernel
theorem dX1_tuneOf_12 : decode cX1_tuneOf 12 = .ok (.getfield 18, 3) := by decide +kernel
theorem dX1_tuneOf_15 : decode cX1_tuneOf 15 = .ok (.areturn, 1) := by decide +kernel
theorem dX1_heardBy_0 : decode cX1_heardBy 0 = .ok (.aload_n 0, 1) := by decide +kernel
theorem dX1_heardBy_1 : decode cX1_heardBy 1 = .ok (.iconst 1, 1) := by decide +kernel
theorem dX1_heardBy_2 : decode cX1_heardBy 2 = .ok (.aload_n 1, 1) := by decide +kernel
theorem dX1_heardBy_3 : decode cX1_heardBy 3 = .ok (.getfield 42, 3) := by decide +kernel
theorem dX1_heardBy_6 : decode cX1_heardBy 6 = .ok (.isub, 1) := by decide +kernel
theorem dX1_heardBy_7 : decode cX1_heardBy 7 = .ok (.invokevirtual 45, 3) := by decide +kernel
theorem dX1_heardBy_10 : decode cX1_heardBy 10 = .ok (.areturn, 1) := by decide +kernel
theorem dX1_has_0 : decode cX1_has 0 = .ok (.iload_n 1, 1) := by decide +kernel
theorem dX1_has_1 : decode cX1_has 1 = .ok (.ifCond .lt 15, 3) := by decide +kernel
theorem dX1_has_4 : decode cX1_has 4 = .ok (.iload_n 1, 1) := by decide +kernel
theorem dX1_has_5 : decode cX1_has 5 = .ok (.aload_n 0, 1) := by decide +kernel
theorem dX1_has_6 : decode cX1_has 6 = .ok (.getfield 28, 3) := by decide +kernel
theorem dX1_has_9 : decode cX1_has 9 = .ok (.if_icmp .ge 7, 3) := by decide +kernel
theorem dX1_has_12 : decode cX1_has 12 = .ok (.iconst 1, 1) := by decide +kernel
theorem dX1_has_13 : decode cX1_has 13 = .ok (.goto 4, 3) := by decide +kernel
theorem dX1_has_16 : decode cX1_has 16 = .ok (.iconst 0, 1) := by decide +kernel
theorem dX1_has_17 : decode cX1_has 17 = .ok (.ireturn, 1) := by decide +kernel
theorem dX1_isFull_0 : decode cX1_isFull 0 = .ok (.aload_n 0, 1) := by decide +kernel
theorem dX1_isFull_1 : decode cX1_isFull 1 = .ok (.getfield 28, 3) := by decide +kernel
theorem dX1_isFull_4 : decode cX1_isFull 4 = .ok (.bipush 8, 2) := by decide +kernel
theorem dX1_isFull_6 : decode cX1_isFull 6 = .ok (.if_icmp .lt 7, 3) := by decide +kernel
theorem dX1_isFull_9 : decode cX1_isFull 9 = .ok (.iconst 1, 1) := by decide +kernel
theorem dX1_isFull_10 : decode cX1_isFull 10 = .ok (.goto 4, 3) := by decide +kernel
theorem dX1_isFull_13 : decode cX1_isFull 13 = .ok (.iconst 0, 1) := by decide +kernel
theorem dX1_isFull_14 : decode cX1_isFull 14 = .ok (.ireturn, 1) := by decide +kernel
theorem dX1_engage_0 : decode cX1_engage 0 = .ok (.aload_n 0, 1) := by decide +kernel
theorem dX1_engage_1 : decode cX1_engage 1 = .ok (.invokevirtual 49, 3) := by decide +kernel
theorem dX1_engage_4 : decode cX1_engage 4 = .ok (.ifCond .eq 4, 3) := by decide +kernel
theorem dX1_engage_7 : decode cX1_engage 7 = .ok (.return_, 1) := by decide +kernel
theorem dX1_engage_8 : decode cX1_engage 8 = .ok (.aload_n 0, 1) := by decide +kernel
theorem dX1_engage_9 : decode cX1_engage 9 = .ok (.getfield 23, 3) := by decide +kernel
theorem dX1_engage_12 : decode cX1_engage 12 = .ok (.aload_n 0, 1) := by decide +kernel
theorem dX1_engage_13 : decode cX1_engage 13 = .ok (.getfield 28, 3) := by decide +kernel
theorem dX1_engage_16 : decode cX1_engage 16 = .ok (.aaload, 1) := by decide +kernel
theorem dX1_engage_17 : decode cX1_engage 17 = .ok (.astore 5, 2) := by decide +kernel
theorem dX1_engage_19 : decode cX1_engage 19 = .ok (.aload 5, 2) := by decide +kernel
theorem dX1_engage_21 : decode cX1_engage 21 = .ok (.iload_n 1, 1) := by decide +kernel
theorem dX1_engage_22 : decode cX1_engage 22 = .ok (.putfield 53, 3) := by decide +kernel
theorem dX1_engage_25 : decode cX1_engage 25 = .ok (.aload 5, 2) := by decide +kernel
theorem dX1_engage_27 : decode cX1_engage 27 = .ok (.iload_n 2, 1) := by decide +kernel
theorem dX1_engage_28 : decode cX1_engage 28 = .ok (.putfield 42, 3) := by decide +kernel
theorem dX1_engage_31 : decode cX1_engage 31 = .ok (.aload 5, 2) := by decide +kernel
theorem dX1_engage_33 : decode cX1_engage 33 = .ok (.iload_n 3, 1) := by decide +kernel
theorem dX1_engage_34 : decode cX1_engage 34 = .ok (.putfield 56, 3) := by decide +kernel
theorem dX1_engage_37 : decode cX1_engage 37 = .ok (.aload 5, 2) := by decide +kernel
theorem dX1_engage_39 : decode cX1_engage 39 = .ok (.iload 4, 2) := by decide +kernel
theorem dX1_engage_41 : decode cX1_engage 41 = .ok (.putfield 59, 3) := by decide +kernel
theorem dX1_engage_44 : decode cX1_engage 44 = .ok (.aload 5, 2) := by decide +kernel
theorem dX1_engage_46 : decode cX1_engage 46 = .ok (.iconst 0, 1) := by decide +kernel
theorem dX1_engage_47 : decode cX1_engage 47 = .ok (.putfield 62, 3) := by decide +kernel
theorem dX1_engage_50 : decode cX1_engage 50 = .ok (.aload_n 0, 1) := by decide +kernel
theorem dX1_engage_51 : decode cX1_engage 51 = .ok (.dup, 1) := by decide +kernel
theorem dX1_engage_52 : decode cX1_engage 52 = .ok (.getfield 28, 3) := by decide +kernel
theorem dX1_engage_55 : decode cX1_engage 55 = .ok (.iconst 1, 1) := by decide +kernel
theorem dX1_engage_56 : decode cX1_engage 56 = .ok (.iadd, 1) := by decide +kernel
theorem dX1_engage_57 : decode cX1_engage 57 = .ok (.putfield 28, 3) := by decide +kernel
theorem dX1_engage_60 : decode cX1_engage 60 = .ok (.return_, 1) := by decide +kernel
theorem dX1_attachesOf_0 : decode cX1_attachesOf 0 = .ok (.iconst 0, 1) := by decide +kernel
theorem dX1_attachesOf_1 : decode cX1_attachesOf 1 = .ok (.istore_n 2, 1) := by decide +kernel
theorem dX1_attachesOf_2 : decode cX1_attachesOf 2 = .ok (.iconst 0, 1) := by decide +kernel
theorem dX1_attachesOf_3 : decode cX1_attachesOf 3 = .ok (.istore_n 3, 1) := by decide +kernel
theorem dX1_attachesOf_4 : decode cX1_attachesOf 4 = .ok (.iload_n 3, 1) := by decide +kernel
theorem dX1_attachesOf_5 : decode cX1_attachesOf 5 = .ok (.aload_n 0, 1) := by decide +kernel
theorem dX1_attachesOf_6 : decode cX1_attachesOf 6 = .ok (.getfield 28, 3) := by decide +kernel
theorem dX1_attachesOf_9 : decode cX1_attachesOf 9 = .ok (.if_icmp .ge 25, 3) := by decide +kernel
theorem dX1_attachesOf_12 : decode cX1_attachesOf 12 = .ok (.aload_n 0, 1) := by decide +kernel
theorem dX1_attachesOf_13 : decode cX1_attachesOf 13 = .ok (.getfield 23, 3) := by decide +kernel
theorem dX1_attachesOf_16 : decode cX1_attachesOf 16 = .ok (.iload_n 3, 1) := by decide +kernel
theorem dX1_attachesOf_17 : decode cX1_attachesOf 17 = .ok (.aaload, 1) := by decide +kernel
theorem dX1_attachesOf_18 : decode cX1_attachesOf 18 = .ok (.getfield 42, 3) := by decide +kernel
theorem dX1_attachesOf_21 : decode cX1_attachesOf 21 = .ok (.iload_n 1, 1) := by decide +kernel
theorem dX1_attachesOf_22 : decode cX1_attachesOf 22 = .ok (.if_icmp .ne 6, 3) := by decide +kernel
theorem dX1_attachesOf_25 : decode cX1_attachesOf 25 = .ok (.iinc 2 1, 3) := by decide +kernel
theorem dX1_attachesOf_28 : decode cX1_attachesOf 28 = .ok (.iinc 3 1, 3) := by decide +kernel
theorem dX1_attachesOf_31 : decode cX1_attachesOf 31 = .ok (.goto (-27), 3) := by decide +kernel
theorem dX1_attachesOf_34 : decode cX1_attachesOf 34 = .ok (.iload_n 2, 1) := by decide +kernel
theorem dX1_attachesOf_35 : decode cX1_attachesOf 35 = .ok (.ireturn, 1) := by decide +kernel
theorem dX1_writingSide_0 : decode cX1_writingSide 0 = .ok (.aload_n 0, 1) := by decide +kernel
theorem dX1_writingSide_1 : decode cX1_writingSide 1 = .ok (.getfield 32, 3) := by decide +kernel
theorem dX1_writingSide_4 : decode cX1_writingSide 4 = .ok (.iconst 2, 1) := by decide +kernel
theorem dX1_writingSide_5 : decode cX1_writingSide 5 = .ok (.irem, 1) := by decide +kernel
theorem dX1_writingSide_6 : decode cX1_writingSide 6 = .ok (.ireturn, 1) := by decide +kernel
theorem dX1_writer_0 : decode cX1_writer 0 = .ok (.aload_n 0, 1) := by decide +kernel
theorem dX1_writer_1 : decode cX1_writer 1 = .ok (.invokevirtual 65, 3) := by decide +kernel
theorem dX1_writer_4 : decode cX1_writer 4 = .ok (.istore_n 1, 1) := by decide +kernel
theorem dX1_writer_5 : decode cX1_writer 5 = .ok (.aload_n 0, 1) := by decide +kernel
theorem dX1_writer_6 : decode cX1_writer 6 = .ok (.iload_n 1, 1) := by decide +kernel
theorem dX1_writer_7 : decode cX1_writer 7 = .ok (.invokevirtual 69, 3) := by decide +kernel
theorem dX1_writer_10 : decode cX1_writer 10 = .ok (.istore_n 2, 1) := by decide +kernel
theorem dX1_writer_11 : decode cX1_writer 11 = .ok (.iload_n 2, 1) := by decide +kernel
theorem dX1_writer_12 : decode cX1_writer 12 = .ok (.ifCond .ne 5, 3) := by decide +kernel
theorem dX1_writer_15 : decode cX1_writer 15 = .ok (.iconst (-1), 1) := by decide +kernel
theorem dX1_writer_16 : decode cX1_writer 16 = .ok (.ireturn, 1) := by decide +kernel
theorem dX1_writer_17 : decode cX1_writer 17 = .ok (.aload_n 0, 1) := by decide +kernel
theorem dX1_writer_18 : decode cX1_writer 18 = .ok (.getfield 32, 3) := by decide +kernel
theorem dX1_writer_21 : decode cX1_writer 21 = .ok (.iconst 2, 1) := by decide +kernel
theorem dX1_writer_22 : decode cX1_writer 22 = .ok (.idiv, 1) := by decide +kernel
theorem dX1_writer_23 : decode cX1_writer 23 = .ok (.iload_n 2, 1) := by decide +kernel
theorem dX1_writer_24 : decode cX1_writer 24 = .ok (.irem, 1) := by decide +kernel
theorem dX1_writer_25 : decode cX1_writer 25 = .ok (.istore_n 3, 1) := by decide +kernel
theorem dX1_writer_26 : decode cX1_writer 26 = .ok (.iconst 0, 1) := by decide +kernel
theorem dX1_writer_27 : decode cX1_writer 27 = .ok (.istore 4, 2) := by decide +kernel
theorem dX1_writer_29 : decode cX1_writer 29 = .ok (.iload 4, 2) := by decide +kernel
theorem dX1_writer_31 : decode cX1_writer 31 = .ok (.aload_n 0, 1) := by decide +kernel
theorem dX1_writer_32 : decode cX1_writer 32 = .ok (.getfield 28, 3) := by decide +kernel
theorem dX1_writer_35 : decode cX1_writer 35 = .ok (.if_icmp .ge 33, 3) := by decide +kernel
theorem dX1_writer_38 : decode cX1_writer 38 = .ok (.aload_n 0, 1) := by decide +kernel
theorem dX1_writer_39 : decode cX1_writer 39 = .ok (.getfield 23, 3) := by decide +kernel
theorem dX1_writer_42 : decode cX1_writer 42 = .ok (.iload 4, 2) := by decide +kernel
theorem dX1_writer_44 : decode cX1_writer 44 = .ok (.aaload, 1) := by decide +kernel
theorem dX1_writer_45 : decode cX1_writer 45 = .ok (.getfield 42, 3) := by decide +kernel
theorem dX1_writer_48 : decode cX1_writer 48 = .ok (.iload_n 1, 1) := by decide +kernel
theorem dX1_writer_49 : decode cX1_writer 49 = .ok (.if_icmp .ne 13, 3) := by decide +kernel
theorem dX1_writer_52 : decode cX1_writer 52 = .ok (.iload_n 3, 1) := by decide +kernel
theorem dX1_writer_53 : decode cX1_writer 53 = .ok (.ifCond .ne 6, 3) := by decide +kernel
theorem dX1_writer_56 : decode cX1_writer 56 = .ok (.iload 4, 2) := by decide +kernel
theorem dX1_writer_58 : decode cX1_writer 58 = .ok (.ireturn, 1) := by decide +kernel
theorem dX1_writer_59 : decode cX1_writer 59 = .ok (.iinc 3 (-1), 3) := by decide +kernel
theorem dX1_writer_62 : decode cX1_writer 62 = .ok (.iinc 4 1, 3) := by decide +kernel
theorem dX1_writer_65 : decode cX1_writer 65 = .ok (.goto (-36), 3) := by decide +kernel
theorem dX1_writer_68 : decode cX1_writer 68 = .ok (.iconst (-1), 1) := by decide +kernel
theorem dX1_writer_69 : decode cX1_writer 69 = .ok (.ireturn, 1) := by decide +kernel
theorem dX1_passDay_0 : decode cX1_passDay 0 = .ok (.aload_n 0, 1) := by decide +kernel
theorem dX1_passDay_1 : decode cX1_passDay 1 = .ok (.invokevirtual 73, 3) := by decide +kernel
theorem dX1_passDay_4 : decode cX1_passDay 4 = .ok (.istore_n 1, 1) := by decide +kernel
theorem dX1_passDay_5 : decode cX1_passDay 5 = .ok (.aload_n 0, 1) := by decide +kernel
theorem dX1_passDay_6 : decode cX1_passDay 6 = .ok (.iload_n 1, 1) := by decide +kernel
theorem dX1_passDay_7 : decode cX1_passDay 7 = .ok (.invokevirtual 76, 3) := by decide +kernel
theorem dX1_passDay_10 : decode cX1_passDay 10 = .ok (.ifCond .eq 36, 3) := by decide +kernel
theorem dX1_passDay_13 : decode cX1_passDay 13 = .ok (.aload_n 0, 1) := by decide +kernel
theorem dX1_passDay_14 : decode cX1_passDay 14 = .ok (.getfield 23, 3) := by decide +kernel
theorem dX1_passDay_17 : decode cX1_passDay 17 = .ok (.iload_n 1, 1) := by decide +kernel
theorem dX1_passDay_18 : decode cX1_passDay 18 = .ok (.aaload, 1) := by decide +kernel
theorem dX1_passDay_19 : decode cX1_passDay 19 = .ok (.astore_n 2, 1) := by decide +kernel
theorem dX1_passDay_20 : decode cX1_passDay 20 = .ok (.aload_n 0, 1) := by decide +kernel
theorem dX1_passDay_21 : decode cX1_passDay 21 = .ok (.aload_n 2, 1) := by decide +kernel
theorem dX1_passDay_22 : decode cX1_passDay 22 = .ok (.invokevirtual 80, 3) := by decide +kernel
theorem dX1_passDay_25 : decode cX1_passDay 25 = .ok (.astore_n 3, 1) := by decide +kernel
theorem dX1_passDay_26 : decode cX1_passDay 26 = .ok (.aload_n 3, 1) := by decide +kernel
theorem dX1_passDay_27 : decode cX1_passDay 27 = .ok (.getfield 84, 3) := by decide +kernel
theorem dX1_passDay_30 : decode cX1_passDay 30 = .ok (.ifCond .le 16, 3) := by decide +kernel
theorem dX1_passDay_33 : decode cX1_passDay 33 = .ok (.aload_n 2, 1) := by decide +kernel
theorem dX1_passDay_34 : decode cX1_passDay 34 = .ok (.aload_n 3, 1) := by decide +kernel
theorem dX1_passDay_35 : decode cX1_passDay 35 = .ok (.aload_n 0, 1) := by decide +kernel
theorem dX1_passDay_36 : decode cX1_passDay 36 = .ok (.aload_n 2, 1) := by decide +kernel
theorem dX1_passDay_37 : decode cX1_passDay 37 = .ok (.getfield 42, 3) := by decide +kernel
theorem dX1_passDay_40 : decode cX1_passDay 40 = .ok (.invokevirtual 45, 3) := by decide +kernel
theorem dX1_passDay_43 : decode cX1_passDay 43 = .ok (.invokevirtual 87, 3) := by decide +kernel
theorem dX1_passDay_46 : decode cX1_passDay 46 = .ok (.aload_n 0, 1) := by decide +kernel
theorem dX1_passDay_47 : decode cX1_passDay 47 = .ok (.dup, 1) := by decide +kernel
theorem dX1_passDay_48 : decode cX1_passDay 48 = .ok (.getfield 32, 3) := by decide +kernel
theorem dX1_passDay_51 : decode cX1_passDay 51 = .ok (.iconst 1, 1) := by decide +kernel
theorem dX1_passDay_52 : decode cX1_passDay 52 = .ok (.iadd, 1) := by decide +kernel
theorem dX1_passDay_53 : decode cX1_passDay 53 = .ok (.putfield 32, 3) := by decide +kernel
theorem dX1_passDay_56 : decode cX1_passDay 56 = .ok (.return_, 1) := by decide +kernel
theorem dX1_passDays_0 : decode cX1_passDays 0 = .ok (.iconst 0, 1) := by decide +kernel
theorem dX1_passDays_1 : decode cX1_passDays 1 = .ok (.istore_n 2, 1) := by decide +kernel
theorem dX1_passDays_2 : decode cX1_passDays 2 = .ok (.iload_n 2, 1) := by decide +kernel
theorem dX1_passDays_3 : decode cX1_passDays 3 = .ok (.iload_n 1, 1) := by decide +kernel
theorem dX1_passDays_4 : decode cX1_passDays 4 = .ok (.if_icmp .ge 13, 3) := by decide +kernel
theorem dX1_passDays_7 : decode cX1_passDays 7 = .ok (.aload_n 0, 1) := by decide +kernel
theorem dX1_passDays_8 : decode cX1_passDays 8 = .ok (.invokevirtual 91, 3) := by decide +kernel
theorem dX1_passDays_11 : decode cX1_passDays 11 = .ok (.iinc 2 1, 3) := by decide +kernel
theorem dX1_passDays_14 : decode cX1_passDays 14 = .ok (.goto (-12), 3) := by decide +kernel
theorem dX1_passDays_17 : decode cX1_passDays 17 = .ok (.return_, 1) := by decide +kernel
theorem dX1_passDaysUntilHome_0 : decode cX1_passDaysUntilHome 0 = .ok (.aload_n 0, 1) := by decide +kernel
theorem dX1_passDaysUntilHome_1 : decode cX1_passDaysUntilHome 1 = .ok (.iload_n 1, 1) := by decide +kernel
theorem dX1_passDaysUntilHome_2 : decode cX1_passDaysUntilHome 2 = .ok (.invokevirtual 45, 3) := by decide +kernel
theorem dX1_passDaysUntilHome_5 : decode cX1_passDaysUntilHome 5 = .ok (.astore_n 3, 1) := by decide +kernel
theorem dX1_passDaysUntilHome_6 : decode cX1_passDaysUntilHome 6 = .ok (.iconst 0, 1) := by decide +kernel
theorem dX1_passDaysUntilHome_7 : decode cX1_passDaysUntilHome 7 = .ok (.istore 4, 2) := by decide +kernel
theorem dX1_passDaysUntilHome_9 : decode cX1_passDaysUntilHome 9 = .ok (.iload 4, 2) := by decide +kernel
theorem dX1_passDaysUntilHome_11 : decode cX1_passDaysUntilHome 11 = .ok (.iload_n 2, 1) := by decide +kernel
theorem dX1_passDaysUntilHome_12 : decode cX1_passDaysUntilHome 12 = .ok (.if_icmp .gt 23, 3) := by decide +kernel
theorem dX1_passDaysUntilHome_15 : decode cX1_passDaysUntilHome 15 = .ok (.aload_n 3, 1) := by decide +kernel
theorem dX1_passDaysUntilHome_16 : decode cX1_passDaysUntilHome 16 = .ok (.invokevirtual 94, 3) := by decide +kernel
theorem dX1_passDaysUntilHome_19 : decode cX1_passDaysUntilHome 19 = .ok (.ifCond .eq 6, 3) := by decide +kernel
theorem dX1_passDaysUntilHome_22 : decode cX1_passDaysUntilHome 22 = .ok (.iload 4, 2) := by decide +kernel
theorem dX1_passDaysUntilHome_24 : decode cX1_passDaysUntilHome 24 = .ok (.ireturn, 1) := by decide +kernel
theorem dX1_passDaysUntilHome_25 : decode cX1_passDaysUntilHome 25 = .ok (.aload_n 0, 1) := by decide +kernel
theorem dX1_passDaysUntilHome_26 : decode cX1_passDaysUntilHome 26 = .ok (.invokevirtual 91, 3) := by decide +kernel
theorem dX1_passDaysUntilHome_29 : decode cX1_passDaysUntilHome 29 = .ok (.iinc 4 1, 3) := by decide +kernel
theorem dX1_passDaysUntilHome_32 : decode cX1_passDaysUntilHome 32 = .ok (.goto (-23), 3) := by decide +kernel
theorem dX1_passDaysUntilHome_35 : decode cX1_passDaysUntilHome 35 = .ok (.iload_n 2, 1) := by decide +kernel
theorem dX1_passDaysUntilHome_36 : decode cX1_passDaysUntilHome 36 = .ok (.iconst 1, 1) := by decide +kernel
theorem dX1_passDaysUntilHome_37 : decode cX1_passDaysUntilHome 37 = .ok (.iadd, 1) := by decide +kernel
theorem dX1_passDaysUntilHome_38 : decode cX1_passDaysUntilHome 38 = .ok (.ireturn, 1) := by decide +kernel
theorem dX1_passDaysUntilAlike_0 : decode cX1_passDaysUntilAlike 0 = .ok (.iconst 0, 1) := by decide +kernel
theorem dX1_passDaysUntilAlike_1 : decode cX1_passDaysUntilAlike 1 = .ok (.istore_n 2, 1) := by decide +kernel
theorem dX1_passDaysUntilAlike_2 : decode cX1_passDaysUntilAlike 2 = .ok (.iload_n 2, 1) := by decide +kernel
theorem dX1_passDaysUntilAlike_3 : decode cX1_passDaysUntilAlike 3 = .ok (.iload_n 1, 1) := by decide +kernel
theorem dX1_passDaysUntilAlike_4 : decode cX1_passDaysUntilAlike 4 = .ok (.if_icmp .gt 22, 3) := by decide +kernel
theorem dX1_passDaysUntilAlike_7 : decode cX1_passDaysUntilAlike 7 = .ok (.aload_n 0, 1) := by decide +kernel
theorem dX1_passDaysUntilAlike_8 : decode cX1_passDaysUntilAlike 8 = .ok (.invokevirtual 97, 3) := by decide +kernel
theorem dX1_passDaysUntilAlike_11 : decode cX1_passDaysUntilAlike 11 = .ok (.ifCond .eq 5, 3) := by decide +kernel
theorem dX1_passDaysUntilAlike_14 : decode cX1_passDaysUntilAlike 14 = .ok (.iload_n 2, 1) := by decide +kernel
theorem dX1_passDaysUntilAlike_15 : decode cX1_passDaysUntilAlike 15 = .ok (.ireturn, 1) := by decide +kernel
theorem dX1_passDaysUntilAlike_16 : decode cX1_passDaysUntilAlike 16 = .ok (.aload_n 0, 1) := by decide +kernel
theorem dX1_passDaysUntilAlike_17 : decode cX1_passDaysUntilAlike 17 = .ok (.invokevirtual 91, 3) := by decide +kernel
theorem dX1_passDaysUntilAlike_20 : decode cX1_passDaysUntilAlike 20 = .ok (.iinc 2 1, 3) := by decide +kernel
theorem dX1_passDaysUntilAlike_23 : decode cX1_passDaysUntilAlike 23 = .ok (.goto (-21), 3) := by decide +kernel
theorem dX1_passDaysUntilAlike_26 : decode cX1_passDaysUntilAlike 26 = .ok (.iload_n 1, 1) := by decide +kernel
theorem dX1_passDaysUntilAlike_27 : decode cX1_passDaysUntilAlike 27 = .ok (.iconst 1, 1) := by decide +kernel
theorem dX1_passDaysUntilAlike_28 : decode cX1_passDaysUntilAlike 28 = .ok (.iadd, 1) := by decide +kernel
theorem dX1_passDaysUntilAlike_29 : decode cX1_passDaysUntilAlike 29 = .ok (.ireturn, 1) := by decide +kernel
theorem dX1_isAlike_0 : decode cX1_isAlike 0 = .ok (.aload_n 0, 1) := by decide +kernel
theorem dX1_isAlike_1 : decode cX1_isAlike 1 = .ok (.getfield 12, 3) := by decide +kernel
theorem dX1_isAlike_4 : decode cX1_isAlike 4 = .ok (.getfield 84, 3) := by decide +kernel
theorem dX1_isAlike_7 : decode cX1_isAlike 7 = .ok (.ifCond .le 21, 3) := by decide +kernel
theorem dX1_isAlike_10 : decode cX1_isAlike 10 = .ok (.aload_n 0, 1) := by decide +kernel
theorem dX1_isAlike_11 : decode cX1_isAlike 11 = .ok (.getfield 12, 3) := by decide +kernel
theorem dX1_isAlike_14 : decode cX1_isAlike 14 = .ok (.aload_n 0, 1) := by decide +kernel
theorem dX1_isAlike_15 : decode cX1_isAlike 15 = .ok (.getfield 18, 3) := by decide +kernel
theorem dX1_isAlike_18 : decode cX1_isAlike 18 = .ok (.invokevirtual 100, 3) := by decide +kernel
theorem dX1_isAlike_21 : decode cX1_isAlike 21 = .ok (.ifCond .eq 7, 3) := by decide +kernel
theorem dX1_isAlike_24 : decode cX1_isAlike 24 = .ok (.iconst 1, 1) := by decide +kernel
theorem dX1_isAlike_25 : decode cX1_isAlike 25 = .ok (.goto 4, 3) := by decide +kernel
theorem dX1_isAlike_28 : decode cX1_isAlike 28 = .ok (.iconst 0, 1) := by decide +kernel
theorem dX1_isAlike_29 : decode cX1_isAlike 29 = .ok (.ireturn, 1) := by decide +kernel
theorem dX1_homeSides_0 : decode cX1_homeSides 0 = .ok (.aload_n 0, 1) := by decide +kernel
theorem dX1_homeSides_1 : decode cX1_homeSides 1 = .ok (.getfield 12, 3) := by decide +kernel
theorem dX1_homeSides_4 : decode cX1_homeSides 4 = .ok (.invokevirtual 94, 3) := by decide +kernel
theorem dX1_homeSides_7 : decode cX1_homeSides 7 = .ok (.ifCond .eq 7, 3) := by decide +kernel
theorem dX1_homeSides_10 : decode cX1_homeSides 10 = .ok (.iconst 1, 1) := by decide +kernel
theorem dX1_homeSides_11 : decode cX1_homeSides 11 = .ok (.goto 4, 3) := by decide +kernel
theorem dX1_homeSides_14 : decode cX1_homeSides 14 = .ok (.iconst 0, 1) := by decide +kernel
theorem dX1_homeSides_15 : decode cX1_homeSides 15 = .ok (.aload_n 0, 1) := by decide +kernel
theorem dX1_homeSides_16 : decode cX1_homeSides 16 = .ok (.getfield 18, 3) := by decide +kernel
theorem dX1_homeSides_19 : decode cX1_homeSides 19 = .ok (.invokevirtual 94, 3) := by decide +kernel
theorem dX1_homeSides_22 : decode cX1_homeSides 22 = .ok (.ifCond .eq 7, 3) := by decide +kernel
theorem dX1_homeSides_25 : decode cX1_homeSides 25 = .ok (.iconst 2, 1) := by decide +kernel
theorem dX1_homeSides_26 : decode cX1_homeSides 26 = .ok (.goto 4, 3) := by decide +kernel
theorem dX1_homeSides_29 : decode cX1_homeSides 29 = .ok (.iconst 0, 1) := by decide +kernel
theorem dX1_homeSides_30 : decode cX1_homeSides 30 = .ok (.ior, 1) := by decide +kernel
theorem dX1_homeSides_31 : decode cX1_homeSides 31 = .ok (.ireturn, 1) := by decide +kernel
theorem dX1_wroteTogether_0 : decode cX1_wroteTogether 0 = .ok (.iconst 0, 1) := by decide +kernel
theorem dX1_wroteTogether_1 : decode cX1_wroteTogether 1 = .ok (.istore_n 1, 1) := by decide +kernel
theorem dX1_wroteTogether_2 : decode cX1_wroteTogether 2 = .ok (.iconst 0, 1) := by decide +kernel
theorem dX1_wroteTogether_3 : decode cX1_wroteTogether 3 = .ok (.istore_n 2, 1) := by decide +kernel
theorem dX1_wroteTogether_4 : decode cX1_wroteTogether 4 = .ok (.iload_n 2, 1) := by decide +kernel
theorem dX1_wroteTogether_5 : decode cX1_wroteTogether 5 = .ok (.aload_n 0, 1) := by decide +kernel
theorem dX1_wroteTogether_6 : decode cX1_wroteTogether 6 = .ok (.getfield 28, 3) := by decide +kernel
theorem dX1_wroteTogether_9 : decode cX1_wroteTogether 9 = .ok (.if_icmp .ge 21, 3) := by decide +kernel
theorem dX1_wroteTogether_12 : decode cX1_wroteTogether 12 = .ok (.iload_n 1, 1) := by decide +kernel
theorem dX1_wroteTogether_13 : decode cX1_wroteTogether 13 = .ok (.aload_n 0, 1) := by decide +kernel
theorem dX1_wroteTogether_14 : decode cX1_wroteTogether 14 = .ok (.getfield 23, 3) := by decide +kernel
theorem dX1_wroteTogether_17 : decode cX1_wroteTogether 17 = .ok (.iload_n 2, 1) := by decide +kernel
theorem dX1_wroteTogether_18 : decode cX1_wroteTogether 18 = .ok (.aaload, 1) := by decide +kernel
theorem dX1_wroteTogether_19 : decode cX1_wroteTogether 19 = .ok (.getfield 62, 3) := by decide +kernel
theorem dX1_wroteTogether_22 : decode cX1_wroteTogether 22 = .ok (.iadd, 1) := by decide +kernel
theorem dX1_wroteTogether_23 : decode cX1_wroteTogether 23 = .ok (.istore_n 1, 1) := by decide +kernel
theorem dX1_wroteTogether_24 : decode cX1_wroteTogether 24 = .ok (.iinc 2 1, 3) := by decide +kernel
theorem dX1_wroteTogether_27 : decode cX1_wroteTogether 27 = .ok (.goto (-23), 3) := by decide +kernel
theorem dX1_wroteTogether_30 : decode cX1_wroteTogether 30 = .ok (.iload_n 1, 1) := by decide +kernel
theorem dX1_wroteTogether_31 : decode cX1_wroteTogether 31 = .ok (.ireturn, 1) := by decide +kernel
theorem dX1_blotsTogether_0 : decode cX1_blotsTogether 0 = .ok (.iconst 0, 1) := by decide +kernel
theorem dX1_blotsTogether_1 : decode cX1_blotsTogether 1 = .ok (.istore_n 1, 1) := by decide +kernel
theorem dX1_blotsTogether_2 : decode cX1_blotsTogether 2 = .ok (.iconst 0, 1) := by decide +kernel
theorem dX1_blotsTogether_3 : decode cX1_blotsTogether 3 = .ok (.istore_n 2, 1) := by decide +kernel
theorem dX1_blotsTogether_4 : decode cX1_blotsTogether 4 = .ok (.iload_n 2, 1) := by decide +kernel
theorem dX1_blotsTogether_5 : decode cX1_blotsTogether 5 = .ok (.aload_n 0, 1) := by decide +kernel
theorem dX1_blotsTogether_6 : decode cX1_blotsTogether 6 = .ok (.getfield 28, 3) := by decide +kernel
theorem dX1_blotsTogether_9 : decode cX1_blotsTogether 9 = .ok (.if_icmp .ge 24, 3) := by decide +kernel
theorem dX1_blotsTogether_12 : decode cX1_blotsTogether 12 = .ok (.iload_n 1, 1) := by decide +kernel
theorem dX1_blotsTogether_13 : decode cX1_blotsTogether 13 = .ok (.aload_n 0, 1) := by decide +kernel
theorem dX1_blotsTogether_14 : decode cX1_blotsTogether 14 = .ok (.getfield 23, 3) := by decide +kernel
theorem dX1_blotsTogether_17 : decode cX1_blotsTogether 17 = .ok (.iload_n 2, 1) := by decide +kernel
theorem dX1_blotsTogether_18 : decode cX1_blotsTogether 18 = .ok (.aaload, 1) := by decide +kernel
theorem dX1_blotsTogether_19 : decode cX1_blotsTogether 19 = .ok (.getfield 59, 3) := by decide +kernel
theorem dX1_blotsTogether_22 : decode cX1_blotsTogether 22 = .ok (.invokestatic 104, 3) := by decide +kernel
theorem dX1_blotsTogether_25 : decode cX1_blotsTogether 25 = .ok (.iadd, 1) := by decide +kernel
theorem dX1_blotsTogether_26 : decode cX1_blotsTogether 26 = .ok (.istore_n 1, 1) := by decide +kernel
theorem dX1_blotsTogether_27 : decode cX1_blotsTogether 27 = .ok (.iinc 2 1, 3) := by decide +kernel
theorem dX1_blotsTogether_30 : decode cX1_blotsTogether 30 = .ok (.goto (-26), 3) := by decide +kernel
theorem dX1_blotsTogether_33 : decode cX1_blotsTogether 33 = .ok (.iload_n 1, 1) := by decide +kernel
theorem dX1_blotsTogether_34 : decode cX1_blotsTogether 34 = .ok (.ireturn, 1) := by decide +kernel
theorem dX2_init_0 : decode cX2_init 0 = .ok (.aload_n 0, 1) := by decide +kernel
theorem dX2_init_1 : decode cX2_init 1 = .ok (.invokespecial 3, 3) := by decide +kernel
theorem dX2_init_4 : decode cX2_init 4 = .ok (.aload_n 0, 1) := by decide +kernel
theorem dX2_init_5 : decode cX2_init 5 = .ok (.aload_n 1, 1) := by decide +kernel
theorem dX2_init_6 : decode cX2_init 6 = .ok (.putfield 9, 3) := by decide +kernel
theorem dX2_init_9 : decode cX2_init 9 = .ok (.aload_n 0, 1) := by decide +kernel
theorem dX2_init_10 : decode cX2_init 10 = .ok (.iconst 0, 1) := by decide +kernel
theorem dX2_init_11 : decode cX2_init 11 = .ok (.putfield 15, 3) := by decide +kernel
theorem dX2_init_14 : decode cX2_init 14 = .ok (.aload_n 0, 1) := by decide +kernel
theorem dX2_init_15 : decode cX2_init 15 = .ok (.iconst 0, 1) := by decide +kernel
theorem dX2_init_16 : decode cX2_init 16 = .ok (.putfield 19, 3) := by decide +kernel
theorem dX2_init_19 : decode cX2_init 19 = .ok (.aload_n 0, 1) := by decide +kernel
theorem dX2_init_20 : decode cX2_init 20 = .ok (.iconst 0, 1) := by decide +kernel
theorem dX2_init_21 : decode cX2_init 21 = .ok (.putfield 22, 3) := by decide +kernel
theorem dX2_init_24 : decode cX2_init 24 = .ok (.aload_n 0, 1) := by decide +kernel
theorem dX2_init_25 : decode cX2_init 25 = .ok (.iconst 0, 1) := by decide +kernel
theorem dX2_init_26 : decode cX2_init 26 = .ok (.putfield 25, 3) := by decide +kernel
theorem dX2_init_29 : decode cX2_init 29 = .ok (.return_, 1) := by decide +kernel
theorem dX2_tellTo_0 : decode cX2_tellTo 0 = .ok (.aload_n 0, 1) := by decide +kernel
theorem dX2_tellTo_1 : decode cX2_tellTo 1 = .ok (.iconst 0, 1) := by decide +kernel
theorem dX2_tellTo_2 : decode cX2_tellTo 2 = .ok (.putfield 22, 3) := by decide +kernel
theorem dX2_tellTo_5 : decode cX2_tellTo 5 = .ok (.aload_n 0, 1) := by decide +kernel
theorem dX2_tellTo_6 : decode cX2_tellTo 6 = .ok (.invokevirtual 28, 3) := by decide +kernel
theorem dX2_tellTo_9 : decode cX2_tellTo 9 = .ok (.iconst 1, 1) := by decide +kernel
theorem dX2_tellTo_10 : decode cX2_tellTo 10 = .ok (.istore_n 2, 1) := by decide +kernel
theorem dX2_tellTo_11 : decode cX2_tellTo 11 = .ok (.iload_n 2, 1) := by decide +kernel
theorem dX2_tellTo_12 : decode cX2_tellTo 12 = .ok (.bipush 120, 2) := by decide +kernel
theorem dX2_tellTo_14 : decode cX2_tellTo 14 = .ok (.if_icmp .gt 44, 3) := by decide +kernel
theorem dX2_tellTo_17 : decode cX2_tellTo 17 = .ok (.aload_n 0, 1) := by decide +kernel
theorem dX2_tellTo_18 : decode cX2_tellTo 18 = .ok (.aload_n 1, 1) := by decide +kernel
theorem dX2_tellTo_19 : decode cX2_tellTo 19 = .ok (.invokevirtual 31, 3) := by decide +kernel
theorem dX2_tellTo_22 : decode cX2_tellTo 22 = .ok (.ifCond .ne 6, 3) := by decide +kernel
theorem dX2_tellTo_25 : decode cX2_tellTo 25 = .ok (.goto 33, 3) := by decide +kernel
theorem dX2_tellTo_28 : decode cX2_tellTo 28 = .ok (.aload_n 0, 1) := by decide +kernel
theorem dX2_tellTo_29 : decode cX2_tellTo 29 = .ok (.getfield 15, 3) := by decide +kernel
theorem dX2_tellTo_32 : decode cX2_tellTo 32 = .ok (.ifCond .ne 5, 3) := by decide +kernel
theorem dX2_tellTo_35 : decode cX2_tellTo 35 = .ok (.iload_n 2, 1) := by decide +kernel
theorem dX2_tellTo_36 : decode cX2_tellTo 36 = .ok (.ireturn, 1) := by decide +kernel
theorem dX2_tellTo_37 : decode cX2_tellTo 37 = .ok (.aload_n 0, 1) := by decide +kernel
theorem dX2_tellTo_38 : decode cX2_tellTo 38 = .ok (.getfield 15, 3) := by decide +kernel
theorem dX2_tellTo_41 : decode cX2_tellTo 41 = .ok (.iconst 3, 1) := by decide +kernel
theorem dX2_tellTo_42 : decode cX2_tellTo 42 = .ok (.if_icmp .eq 6, 3) := by decide +kernel
theorem dX2_tellTo_45 : decode cX2_tellTo 45 = .ok (.goto 13, 3) := by decide +kernel
theorem dX2_tellTo_48 : decode cX2_tellTo 48 = .ok (.aload_n 0, 1) := by decide +kernel
theorem dX2_tellTo_49 : decode cX2_tellTo 49 = .ok (.invokevirtual 28, 3) := by decide +kernel
theorem dX2_tellTo_52 : decode cX2_tellTo 52 = .ok (.iinc 2 1, 3) := by decide +kernel
theorem dX2_tellTo_55 : decode cX2_tellTo 55 = .ok (.goto (-44), 3) := by decide +kernel
theorem dX2_tellTo_58 : decode cX2_tellTo 58 = .ok (.iconst (-1), 1) := by decide +kernel
theorem dX2_tellTo_59 : decode cX2_tellTo 59 = .ok (.aload_n 0, 1) := by decide +kernel
theorem dX2_tellTo_60 : decode cX2_tellTo 60 = .ok (.getfield 19, 3) := by decide +kernel
theorem dX2_tellTo_63 : decode cX2_tellTo 63 = .ok (.isub, 1) := by decide +kernel
theorem dX2_tellTo_64 : decode cX2_tellTo 64 = .ok (.ireturn, 1) := by decide +kernel
theorem dX2_tellItem_0 : decode cX2_tellItem 0 = .ok (.aload_n 0, 1) := by decide +kernel
theorem dX2_tellItem_1 : decode cX2_tellItem 1 = .ok (.ldc 35, 2) := by decide +kernel
theorem dX2_tellItem_3 : decode cX2_tellItem 3 = .ok (.invokevirtual 37, 3) := by decide +kernel
theorem dX2_tellItem_6 : decode cX2_tellItem 6 = .ok (.ifCond .eq 9, 3) := by decide +kernel
theorem dX2_tellItem_9 : decode cX2_tellItem 9 = .ok (.aload_n 0, 1) := by decide +kernel
theorem dX2_tellItem_10 : decode cX2_tellItem 10 = .ok (.aload_n 1, 1) := by decide +kernel
theorem dX2_tellItem_11 : decode cX2_tellItem 11 = .ok (.invokevirtual 41, 3) := by decide +kernel
theorem dX2_tellItem_14 : decode cX2_tellItem 14 = .ok (.ireturn, 1) := by decide +kernel
theorem dX2_tellItem_15 : decode cX2_tellItem 15 = .ok (.aload_n 0, 1) := by decide +kernel
theorem dX2_tellItem_16 : decode cX2_tellItem 16 = .ok (.invokevirtual 44, 3) := by decide +kernel
theorem dX2_tellItem_19 : decode cX2_tellItem 19 = .ok (.istore_n 2, 1) := by decide +kernel
theorem dX2_tellItem_20 : decode cX2_tellItem 20 = .ok (.iload_n 2, 1) := by decide +kernel
theorem dX2_tellItem_21 : decode cX2_tellItem 21 = .ok (.iconst (-1), 1) := by decide +kernel
theorem dX2_tellItem_22 : decode cX2_tellItem 22 = .ok (.if_icmp .eq 10, 3) := by decide +kernel
theorem dX2_tellItem_25 : decode cX2_tellItem 25 = .ok (.aload_n 1, 1) := by decide +kernel
theorem dX2_tellItem_26 : decode cX2_tellItem 26 = .ok (.invokevirtual 48, 3) := by decide +kernel
theorem dX2_tellItem_29 : decode cX2_tellItem 29 = .ok (.ifCond .eq 5, 3) := by decide +kernel
theorem dX2_tellItem_32 : decode cX2_tellItem 32 = .ok (.iconst 0, 1) := by decide +kernel
theorem dX2_tellItem_33 : decode cX2_tellItem 33 = .ok (.ireturn, 1) := by decide +kernel
theorem dX2_tellItem_34 : decode cX2_tellItem 34 = .ok (.aload_n 0, 1) := by decide +kernel
theorem dX2_tellItem_35 : decode cX2_tellItem 35 = .ok (.aload_n 1, 1) := by decide +kernel
theorem dX2_tellItem_36 : decode cX2_tellItem 36 = .ok (.iload_n 2, 1) := by decide +kernel
theorem dX2_tellItem_37 : decode cX2_tellItem 37 = .ok (.invokevirtual 54, 3) := by decide +kernel
theorem dX2_tellItem_40 : decode cX2_tellItem 40 = .ok (.ireturn, 1) := by decide +kernel
theorem dX2_tellTune_0 : decode cX2_tellTune 0 = .ok (.aload_n 0, 1) := by decide +kernel
theorem dX2_tellTune_1 : decode cX2_tellTune 1 = .ok (.invokevirtual 28, 3) := by decide +kernel
theorem dX2_tellTune_4 : decode cX2_tellTune 4 = .ok (.aload_n 0, 1) := by decide +kernel
theorem dX2_tellTune_5 : decode cX2_tellTune 5 = .ok (.iconst 1, 1) := by decide +kernel
theorem dX2_tellTune_6 : decode cX2_tellTune 6 = .ok (.invokevirtual 58, 3) := by decide +kernel
theorem dX2_tellTune_9 : decode cX2_tellTune 9 = .ok (.ifCond .ne 5, 3) := by decide +kernel
theorem dX2_tellTune_12 : decode cX2_tellTune 12 = .ok (.iconst 0, 1) := by decide +kernel
theorem dX2_tellTune_13 : decode cX2_tellTune 13 = .ok (.ireturn, 1) := by decide +kernel
theorem dX2_tellTune_14 : decode cX2_tellTune 14 = .ok (.aload_n 1, 1) := by decide +kernel
theorem dX2_tellTune_15 : decode cX2_tellTune 15 = .ok (.aload_n 0, 1) := by decide +kernel
theorem dX2_tellTune_16 : decode cX2_tellTune 16 = .ok (.getfield 25, 3) := by decide +kernel
theorem dX2_tellTune_19 : decode cX2_tellTune 19 = .ok (.invokevirtual 62, 3) := by decide +kernel
theorem dX2_tellTune_22 : decode cX2_tellTune 22 = .ok (.astore_n 2, 1) := by decide +kernel
theorem dX2_tellTune_23 : decode cX2_tellTune 23 = .ok (.aload_n 2, 1) := by decide +kernel
theorem dX2_tellTune_24 : decode cX2_tellTune 24 = .ok (.invokevirtual 66, 3) := by decide +kernel
theorem dX2_tellTune_27 : decode cX2_tellTune 27 = .ok (.aload_n 0, 1) := by decide +kernel
theorem dX2_tellTune_28 : decode cX2_tellTune 28 = .ok (.invokevirtual 28, 3) := by decide +kernel
theorem dX2_tellTune_31 : decode cX2_tellTune 31 = .ok (.iconst 0, 1) := by decide +kernel
theorem dX2_tellTune_32 : decode cX2_tellTune 32 = .ok (.istore_n 3, 1) := by decide +kernel
theorem dX2_tellTune_33 : decode cX2_tellTune 33 = .ok (.iload_n 3, 1) := by decide +kernel
theorem dX2_tellTune_34 : decode cX2_tellTune 34 = .ok (.bipush 12, 2) := by decide +kernel
theorem dX2_tellTune_36 : decode cX2_tellTune 36 = .ok (.if_icmp .ge 30, 3) := by decide +kernel
theorem dX2_tellTune_39 : decode cX2_tellTune 39 = .ok (.aload_n 0, 1) := by decide +kernel
theorem dX2_tellTune_40 : decode cX2_tellTune 40 = .ok (.bipush 11, 2) := by decide +kernel
theorem dX2_tellTune_42 : decode cX2_tellTune 42 = .ok (.invokevirtual 58, 3) := by decide +kernel
theorem dX2_tellTune_45 : decode cX2_tellTune 45 = .ok (.ifCond .eq 21, 3) := by decide +kernel
theorem dX2_tellTune_48 : decode cX2_tellTune 48 = .ok (.aload_n 2, 1) := by decide +kernel
theorem dX2_tellTune_49 : decode cX2_tellTune 49 = .ok (.aload_n 0, 1) := by decide +kernel
theorem dX2_tellTune_50 : decode cX2_tellTune 50 = .ok (.getfield 25, 3) := by decide +kernel
theorem dX2_tellTune_53 : decode cX2_tellTune 53 = .ok (.invokevirtual 71, 3) := by decide +kernel
theorem dX2_tellTune_56 : decode cX2_tellTune 56 = .ok (.aload_n 0, 1) := by decide +kernel
theorem dX2_tellTune_57 : decode cX2_tellTune 57 = .ok (.invokevirtual 28, 3) := by decide +kernel
theorem dX2_tellTune_60 : decode cX2_tellTune 60 = .ok (.iinc 3 1, 3) := by decide +kernel
theorem dX2_tellTune_63 : decode cX2_tellTune 63 = .ok (.goto (-30), 3) := by decide +kernel
theorem dX2_tellTune_66 : decode cX2_tellTune 66 = .ok (.aload_n 2, 1) := by decide +kernel
theorem dX2_tellTune_67 : decode cX2_tellTune 67 = .ok (.getfield 75, 3) := by decide +kernel
theorem dX2_tellTune_70 : decode cX2_tellTune 70 = .ok (.ifCond .le 15, 3) := by decide +kernel
theorem dX2_tellTune_73 : decode cX2_tellTune 73 = .ok (.aload_n 0, 1) := by decide +kernel
theorem dX2_tellTune_74 : decode cX2_tellTune 74 = .ok (.getfield 15, 3) := by decide +kernel
theorem dX2_tellTune_77 : decode cX2_tellTune 77 = .ok (.iconst 2, 1) := by decide +kernel
theorem dX2_tellTune_78 : decode cX2_tellTune 78 = .ok (.if_icmp .eq 7, 3) := by decide +kernel
theorem dX2_tellTune_81 : decode cX2_tellTune 81 = .ok (.iconst 1, 1) := by decide +kernel
theorem dX2_tellTune_82 : decode cX2_tellTune 82 = .ok (.goto 4, 3) := by decide +kernel
theorem dX2_tellTune_85 : decode cX2_tellTune 85 = .ok (.iconst 0, 1) := by decide +kernel
theorem dX2_tellTune_86 : decode cX2_tellTune 86 = .ok (.ireturn, 1) := by decide +kernel
theorem dX2_tellAttache_0 : decode cX2_tellAttache 0 = .ok (.aload_n 0, 1) := by decide +kernel
theorem dX2_tellAttache_1 : decode cX2_tellAttache 1 = .ok (.invokevirtual 28, 3) := by decide +kernel
theorem dX2_tellAttache_4 : decode cX2_tellAttache 4 = .ok (.aload_n 0, 1) := by decide +kernel
theorem dX2_tellAttache_5 : decode cX2_tellAttache 5 = .ok (.ldc 78, 2) := by decide +kernel
theorem dX2_tellAttache_7 : decode cX2_tellAttache 7 = .ok (.invokevirtual 37, 3) := by decide +kernel
theorem dX2_tellAttache_10 : decode cX2_tellAttache 10 = .ok (.ifCond .ne 5, 3) := by decide +kernel
theorem dX2_tellAttache_13 : decode cX2_tellAttache 13 = .ok (.iconst 0, 1) := by decide +kernel
theorem dX2_tellAttache_14 : decode cX2_tellAttache 14 = .ok (.ireturn, 1) := by decide +kernel
theorem dX2_tellAttache_15 : decode cX2_tellAttache 15 = .ok (.aload_n 0, 1) := by decide +kernel
theorem dX2_tellAttache_16 : decode cX2_tellAttache 16 = .ok (.invokevirtual 28, 3) := by decide +kernel
theorem dX2_tellAttache_19 : decode cX2_tellAttache 19 = .ok (.aload_n 0, 1) := by decide +kernel
theorem dX2_tellAttache_20 : decode cX2_tellAttache 20 = .ok (.iconst 1, 1) := by decide +kernel
theorem dX2_tellAttache_21 : decode cX2_tellAttache 21 = .ok (.invokevirtual 58, 3) := by decide +kernel
theorem dX2_tellAttache_24 : decode cX2_tellAttache 24 = .ok (.ifCond .ne 5, 3) := by decide +kernel
theorem dX2_tellAttache_27 : decode cX2_tellAttache 27 = .ok (.iconst 0, 1) := by decide +kernel
theorem dX2_tellAttache_28 : decode cX2_tellAttache 28 = .ok (.ireturn, 1) := by decide +kernel
theorem dX2_tellAttache_29 : decode cX2_tellAttache 29 = .ok (.aload_n 0, 1) := by decide +kernel
theorem dX2_tellAttache_30 : decode cX2_tellAttache 30 = .ok (.getfield 25, 3) := by decide +kernel
theorem dX2_tellAttache_33 : decode cX2_tellAttache 33 = .ok (.istore_n 3, 1) := by decide +kernel
theorem dX2_tellAttache_34 : decode cX2_tellAttache 34 = .ok (.iconst 0, 1) := by decide +kernel
theorem dX2_tellAttache_35 : decode cX2_tellAttache 35 = .ok (.istore 4, 2) := by decide +kernel
theorem dX2_tellAttache_37 : decode cX2_tellAttache 37 = .ok (.iconst 0, 1) := by decide +kernel
theorem dX2_tellAttache_38 : decode cX2_tellAttache 38 = .ok (.istore 5, 2) := by decide +kernel
theorem dX2_tellAttache_40 : decode cX2_tellAttache 40 = .ok (.aload_n 0, 1) := by decide +kernel
theorem dX2_tellAttache_41 : decode cX2_tellAttache 41 = .ok (.invokevirtual 28, 3) := by decide +kernel
theorem dX2_tellAttache_44 : decode cX2_tellAttache 44 = .ok (.aload_n 0, 1) := by decide +kernel
theorem dX2_tellAttache_45 : decode cX2_tellAttache 45 = .ok (.ldc 80, 2) := by decide +kernel
theorem dX2_tellAttache_47 : decode cX2_tellAttache 47 = .ok (.invokevirtual 37, 3) := by decide +kernel
theorem dX2_tellAttache_50 : decode cX2_tellAttache 50 = .ok (.ifCond .eq 28, 3) := by decide +kernel
theorem dX2_tellAttache_53 : decode cX2_tellAttache 53 = .ok (.aload_n 0, 1) := by decide +kernel
theorem dX2_tellAttache_54 : decode cX2_tellAttache 54 = .ok (.invokevirtual 28, 3) := by decide +kernel
theorem dX2_tellAttache_57 : decode cX2_tellAttache 57 = .ok (.aload_n 0, 1) := by decide +kernel
theorem dX2_tellAttache_58 : decode cX2_tellAttache 58 = .ok (.bipush 11, 2) := by decide +kernel
theorem dX2_tellAttache_60 : decode cX2_tellAttache 60 = .ok (.invokevirtual 58, 3) := by decide +kernel
theorem dX2_tellAttache_63 : decode cX2_tellAttache 63 = .ok (.ifCond .ne 5, 3) := by decide +kernel
theorem dX2_tellAttache_66 : decode cX2_tellAttache 66 = .ok (.iconst 0, 1) := by decide +kernel
theorem dX2_tellAttache_67 : decode cX2_tellAttache 67 = .ok (.ireturn, 1) := by decide +kernel
theorem dX2_tellAttache_68 : decode cX2_tellAttache 68 = .ok (.aload_n 0, 1) := by decide +kernel
theorem dX2_tellAttache_69 : decode cX2_tellAttache 69 = .ok (.getfield 25, 3) := by decide +kernel
theorem dX2_tellAttache_72 : decode cX2_tellAttache 72 = .ok (.istore 4, 2) := by decide +kernel
theorem dX2_tellAttache_74 : decode cX2_tellAttache 74 = .ok (.aload_n 0, 1) := by decide +kernel
theorem dX2_tellAttache_75 : decode cX2_tellAttache 75 = .ok (.invokevirtual 28, 3) := by decide +kernel
theorem dX2_tellAttache_78 : decode cX2_tellAttache 78 = .ok (.aload_n 0, 1) := by decide +kernel
theorem dX2_tellAttache_79 : decode cX2_tellAttache 79 = .ok (.ldc 82, 2) := by decide +kernel
theorem dX2_tellAttache_81 : decode cX2_tellAttache 81 = .ok (.invokevirtual 37, 3) := by decide +kernel
theorem dX2_tellAttache_84 : decode cX2_tellAttache 84 = .ok (.ifCond .eq 30, 3) := by decide +kernel
theorem dX2_tellAttache_87 : decode cX2_tellAttache 87 = .ok (.aload_n 0, 1) := by decide +kernel
theorem dX2_tellAttache_88 : decode cX2_tellAttache 88 = .ok (.invokevirtual 28, 3) := by decide +kernel
theorem dX2_tellAttache_91 : decode cX2_tellAttache 91 = .ok (.aload_n 0, 1) := by decide +kernel
theorem dX2_tellAttache_92 : decode cX2_tellAttache 92 = .ok (.bipush 11, 2) := by decide +kernel
theorem dX2_tellAttache_94 : decode cX2_tellAttache 94 = .ok (.invokevirtual 58, 3) := by decide +kernel
theorem dX2_tellAttache_97 : decode cX2_tellAttache 97 = .ok (.ifCond .ne 5, 3) := by decide +kernel
theorem dX2_tellAttache_100 : decode cX2_tellAttache 100 = .ok (.iconst 0, 1) := by decide +kernel
theorem dX2_tellAttache_101 : decode cX2_tellAttache 101 = .ok (.ireturn, 1) := by decide +kernel
theorem dX2_tellAttache_102 : decode cX2_tellAttache 102 = .ok (.iconst 1, 1) := by decide +kernel
theorem dX2_tellAttache_103 : decode cX2_tellAttache 103 = .ok (.aload_n 0, 1) := by decide +kernel
theorem dX2_tellAttache_104 : decode cX2_tellAttache 104 = .ok (.getfield 25, 3) := by decide +kernel
theorem dX2_tellAttache_107 : decode cX2_tellAttache 107 = .ok (.ishl, 1) := by decide +kernel
theorem dX2_tellAttache_108 : decode cX2_tellAttache 108 = .ok (.istore 5, 2) := by decide +kernel
theorem dX2_tellAttache_110 : decode cX2_tellAttache 110 = .ok (.aload_n 0, 1) := by decide +kernel
theorem dX2_tellAttache_111 : decode cX2_tellAttache 111 = .ok (.invokevirtual 28, 3) := by decide +kernel
theorem dX2_tellAttache_114 : decode cX2_tellAttache 114 = .ok (.aload_n 1, 1) := by decide +kernel
theorem dX2_tellAttache_115 : decode cX2_tellAttache 115 = .ok (.iload_n 2, 1) := by decide +kernel
theorem dX2_tellAttache_116 : decode cX2_tellAttache 116 = .ok (.iload_n 3, 1) := by decide +kernel
theorem dX2_tellAttache_117 : decode cX2_tellAttache 117 = .ok (.iload 4, 2) := by decide +kernel
theorem dX2_tellAttache_119 : decode cX2_tellAttache 119 = .ok (.iload 5, 2) := by decide +kernel
theorem dX2_tellAttache_121 : decode cX2_tellAttache 121 = .ok (.invokevirtual 84, 3) := by decide +kernel
theorem dX2_tellAttache_124 : decode cX2_tellAttache 124 = .ok (.iconst 1, 1) := by decide +kernel
theorem dX2_tellAttache_125 : decode cX2_tellAttache 125 = .ok (.ireturn, 1) := by decide +kernel
theorem dX2_kindNamed_0 : decode cX2_kindNamed 0 = .ok (.iconst 0, 1) := by decide +kernel
theorem dX2_kindNamed_1 : decode cX2_kindNamed 1 = .ok (.istore_n 1, 1) := by decide +kernel
theorem dX2_kindNamed_2 : decode cX2_kindNamed 2 = .ok (.iload_n 1, 1) := by decide +kernel
theorem dX2_kindNamed_3 : decode cX2_kindNamed 3 = .ok (.bipush 6, 2) := by decide +kernel
theorem dX2_kindNamed_5 : decode cX2_kindNamed 5 = .ok (.if_icmp .ge 22, 3) := by decide +kernel
theorem dX2_kindNamed_8 : decode cX2_kindNamed 8 = .ok (.aload_n 0, 1) := by decide +kernel
theorem dX2_kindNamed_9 : decode cX2_kindNamed 9 = .ok (.iload_n 1, 1) := by decide +kernel
theorem dX2_kindNamed_10 : decode cX2_kindNamed 10 = .ok (.invokestatic 88, 3) := by decide +kernel
theorem dX2_kindNamed_13 : decode cX2_kindNamed 13 = .ok (.invokevirtual 37, 3) := by decide +kernel
theorem dX2_kindNamed_16 : decode cX2_kindNamed 16 = .ok (.ifCond .eq 5, 3) := by decide +kernel
theorem dX2_kindNamed_19 : decode cX2_kindNamed 19 = .ok (.iload_n 1, 1) := by decide +kernel
theorem dX2_kindNamed_20 : decode cX2_kindNamed 20 = .ok (.ireturn, 1) := by decide +kernel
theorem dX2_kindNamed_21 : decode cX2_kindNamed 21 = .ok (.iinc 1 1, 3) := by decide +kernel
theorem dX2_kindNamed_24 : decode cX2_kindNamed 24 = .ok (.goto (-22), 3) := by decide +kernel
theorem dX2_kindNamed_27 : decode cX2_kindNamed 27 = .ok (.iconst (-1), 1) := by decide +kernel
theorem dX2_kindNamed_28 : decode cX2_kindNamed 28 = .ok (.ireturn, 1) := by decide +kernel
theorem dX2_nameOf_0 : decode cX2_nameOf 0 = .ok (.iload_n 0, 1) := by decide +kernel
theorem dX2_nameOf_1 : decode cX2_nameOf 1 = .ok (.tableswitch 50 1 5 #[35, 38, 41, 44, 47], 35) := by decide +kernel
theorem dX2_nameOf_36 : decode cX2_nameOf 36 = .ok (.ldc 92, 2) := by decide +kernel
theorem dX2_nameOf_38 : decode cX2_nameOf 38 = .ok (.areturn, 1) := by decide +kernel
theorem dX2_nameOf_39 : decode cX2_nameOf 39 = .ok (.ldc 94, 2) := by decide +kernel
theorem dX2_nameOf_41 : decode cX2_nameOf 41 = .ok (.areturn, 1) := by decide +kernel
theorem dX2_nameOf_42 : decode cX2_nameOf 42 = .ok (.ldc 96, 2) := by decide +kernel
theorem dX2_nameOf_44 : decode cX2_nameOf 44 = .ok (.areturn, 1) := by decide +kernel
theorem dX2_nameOf_45 : decode cX2_nameOf 45 = .ok (.ldc 98, 2) := by decide +kernel
theorem dX2_nameOf_47 : decode cX2_nameOf 47 = .ok (.areturn, 1) := by decide +kernel
theorem dX2_nameOf_48 : decode cX2_nameOf 48 = .ok (.ldc 100, 2) := by decide +kernel
theorem dX2_nameOf_50 : decode cX2_nameOf 50 = .ok (.areturn, 1) := by decide +kernel
theorem dX2_nameOf_51 : decode cX2_nameOf 51 = .ok (.ldc 102, 2) := by decide +kernel
theorem dX2_nameOf_53 : decode cX2_nameOf 53 = .ok (.areturn, 1) := by decide +kernel
theorem dX2_isNumberTo_0 : decode cX2_isNumberTo 0 = .ok (.aload_n 0, 1) := by decide +kernel
theorem dX2_isNumberTo_1 : decode cX2_isNumberTo 1 = .ok (.getfield 15, 3) := by decide +kernel
theorem dX2_isNumberTo_4 : decode cX2_isNumberTo 4 = .ok (.iconst 2, 1) := by decide +kernel
theorem dX2_isNumberTo_5 : decode cX2_isNumberTo 5 = .ok (.if_icmp .ne 15, 3) := by decide +kernel
theorem dX2_isNumberTo_8 : decode cX2_isNumberTo 8 = .ok (.aload_n 0, 1) := by decide +kernel
theorem dX2_isNumberTo_9 : decode cX2_isNumberTo 9 = .ok (.getfield 25, 3) := by decide +kernel
theorem dX2_isNumberTo_12 : decode cX2_isNumberTo 12 = .ok (.iload_n 1, 1) := by decide +kernel
theorem dX2_isNumberTo_13 : decode cX2_isNumberTo 13 = .ok (.if_icmp .gt 7, 3) := by decide +kernel
theorem dX2_isNumberTo_16 : decode cX2_isNumberTo 16 = .ok (.iconst 1, 1) := by decide +kernel
theorem dX2_isNumberTo_17 : decode cX2_isNumberTo 17 = .ok (.goto 4, 3) := by decide +kernel
theorem dX2_isNumberTo_20 : decode cX2_isNumberTo 20 = .ok (.iconst 0, 1) := by decide +kernel
theorem dX2_isNumberTo_21 : decode cX2_isNumberTo 21 = .ok (.ireturn, 1) := by decide +kernel
theorem dX2_isWord_0 : decode cX2_isWord 0 = .ok (.aload_n 0, 1) := by decide +kernel
theorem dX2_isWord_1 : decode cX2_isWord 1 = .ok (.getfield 15, 3) := by decide +kernel
theorem dX2_isWord_4 : decode cX2_isWord 4 = .ok (.iconst 1, 1) := by decide +kernel
theorem dX2_isWord_5 : decode cX2_isWord 5 = .ok (.if_icmp .ne 19, 3) := by decide +kernel
theorem dX2_isWord_8 : decode cX2_isWord 8 = .ok (.aload_n 0, 1) := by decide +kernel
theorem dX2_isWord_9 : decode cX2_isWord 9 = .ok (.getfield 22, 3) := by decide +kernel
theorem dX2_isWord_12 : decode cX2_isWord 12 = .ok (.aload_n 0, 1) := by decide +kernel
theorem dX2_isWord_13 : decode cX2_isWord 13 = .ok (.getfield 19, 3) := by decide +kernel
theorem dX2_isWord_16 : decode cX2_isWord 16 = .ok (.isub, 1) := by decide +kernel
theorem dX2_isWord_17 : decode cX2_isWord 17 = .ok (.aload_n 1, 1) := by decide +kernel
theorem dX2_isWord_18 : decode cX2_isWord 18 = .ok (.invokevirtual 104, 3) := by decide +kernel
theorem dX2_isWord_21 : decode cX2_isWord 21 = .ok (.if_icmp .eq 5, 3) := by decide +kernel
theorem dX2_isWord_24 : decode cX2_isWord 24 = .ok (.iconst 0, 1) := by decide +kernel
theorem dX2_isWord_25 : decode cX2_isWord 25 = .ok (.ireturn, 1) := by decide +kernel
theorem dX2_isWord_26 : decode cX2_isWord 26 = .ok (.iconst 0, 1) := by decide +kernel
theorem dX2_isWord_27 : decode cX2_isWord 27 = .ok (.istore_n 2, 1) := by decide +kernel
theorem dX2_isWord_28 : decode cX2_isWord 28 = .ok (.iload_n 2, 1) := by decide +kernel
theorem dX2_isWord_29 : decode cX2_isWord 29 = .ok (.aload_n 1, 1) := by decide +kernel
theorem dX2_isWord_30 : decode cX2_isWord 30 = .ok (.invokevirtual 104, 3) := by decide +kernel
theorem dX2_isWord_33 : decode cX2_isWord 33 = .ok (.if_icmp .ge 32, 3) := by decide +kernel
theorem dX2_isWord_36 : decode cX2_isWord 36 = .ok (.aload_n 0, 1) := by decide +kernel
theorem dX2_isWord_37 : decode cX2_isWord 37 = .ok (.getfield 9, 3) := by decide +kernel
theorem dX2_isWord_40 : decode cX2_isWord 40 = .ok (.aload_n 0, 1) := by decide +kernel
theorem dX2_isWord_41 : decode cX2_isWord 41 = .ok (.getfield 19, 3) := by decide +kernel
theorem dX2_isWord_44 : decode cX2_isWord 44 = .ok (.iload_n 2, 1) := by decide +kernel
theorem dX2_isWord_45 : decode cX2_isWord 45 = .ok (.iadd, 1) := by decide +kernel
theorem dX2_isWord_46 : decode cX2_isWord 46 = .ok (.invokevirtual 108, 3) := by decide +kernel
theorem dX2_isWord_49 : decode cX2_isWord 49 = .ok (.aload_n 1, 1) := by decide +kernel
theorem dX2_isWord_50 : decode cX2_isWord 50 = .ok (.iload_n 2, 1) := by decide +kernel
theorem dX2_isWord_51 : decode cX2_isWord 51 = .ok (.invokevirtual 114, 3) := by decide +kernel
theorem dX2_isWord_54 : decode cX2_isWord 54 = .ok (.if_icmp .eq 5, 3) := by decide +kernel
theorem dX2_isWord_57 : decode cX2_isWord 57 = .ok (.iconst 0, 1) := by decide +kernel
theorem dX2_isWord_58 : decode cX2_isWord 58 = .ok (.ireturn, 1) := by decide +kernel
theorem dX2_isWord_59 : decode cX2_isWord 59 = .ok (.iinc 2 1, 3) := by decide +kernel
theorem dX2_isWord_62 : decode cX2_isWord 62 = .ok (.goto (-34), 3) := by decide +kernel
theorem dX2_isWord_65 : decode cX2_isWord 65 = .ok (.iconst 1, 1) := by decide +kernel
theorem dX2_isWord_66 : decode cX2_isWord 66 = .ok (.ireturn, 1) := by decide +kernel
theorem dX2_advance_0 : decode cX2_advance 0 = .ok (.aload_n 0, 1) := by decide +kernel
theorem dX2_advance_1 : decode cX2_advance 1 = .ok (.aload_n 0, 1) := by decide +kernel
theorem dX2_advance_2 : decode cX2_advance 2 = .ok (.getfield 22, 3) := by decide +kernel
theorem dX2_advance_5 : decode cX2_advance 5 = .ok (.putfield 19, 3) := by decide +kernel
theorem dX2_advance_8 : decode cX2_advance 8 = .ok (.aload_n 0, 1) := by decide +kernel
theorem dX2_advance_9 : decode cX2_advance 9 = .ok (.getfield 19, 3) := by decide +kernel
theorem dX2_advance_12 : decode cX2_advance 12 = .ok (.aload_n 0, 1) := by decide +kernel
theorem dX2_advance_13 : decode cX2_advance 13 = .ok (.getfield 9, 3) := by decide +kernel
theorem dX2_advance_16 : decode cX2_advance 16 = .ok (.getfield 118, 3) := by decide +kernel
theorem dX2_advance_19 : decode cX2_advance 19 = .ok (.if_icmp .ge 32, 3) := by decide +kernel
theorem dX2_advance_22 : decode cX2_advance 22 = .ok (.aload_n 0, 1) := by decide +kernel
theorem dX2_advance_23 : decode cX2_advance 23 = .ok (.getfield 9, 3) := by decide +kernel
theorem dX2_advance_26 : decode cX2_advance 26 = .ok (.aload_n 0, 1) := by decide +kernel
theorem dX2_advance_27 : decode cX2_advance 27 = .ok (.getfield 19, 3) := by decide +kernel
theorem dX2_advance_30 : decode cX2_advance 30 = .ok (.invokevirtual 108, 3) := by decide +kernel
theorem dX2_advance_33 : decode cX2_advance 33 = .ok (.bipush 32, 2) := by decide +kernel
theorem dX2_advance_35 : decode cX2_advance 35 = .ok (.if_icmp .ne 16, 3) := by decide +kernel
theorem dX2_advance_38 : decode cX2_advance 38 = .ok (.aload_n 0, 1) := by decide +kernel
theorem dX2_advance_39 : decode cX2_advance 39 = .ok (.dup, 1) := by decide +kernel
theorem dX2_advance_40 : decode cX2_advance 40 = .ok (.getfield 19, 3) := by decide +kernel
theorem dX2_advance_43 : decode cX2_advance 43 = .ok (.iconst 1, 1) := by decide +kernel
theorem dX2_advance_44 : decode cX2_advance 44 = .ok (.iadd, 1) := by decide +kernel
theorem dX2_advance_45 : decode cX2_advance 45 = .ok (.putfield 19, 3) := by decide +kernel
theorem dX2_advance_48 : decode cX2_advance 48 = .ok (.goto (-40), 3) := by decide +kernel
theorem dX2_advance_51 : decode cX2_advance 51 = .ok (.aload_n 0, 1) := by decide +kernel
theorem dX2_advance_52 : decode cX2_advance 52 = .ok (.aload_n 0, 1) := by decide +kernel
theorem dX2_advance_53 : decode cX2_advance 53 = .ok (.getfield 19, 3) := by decide +kernel
theorem dX2_advance_56 : decode cX2_advance 56 = .ok (.putfield 22, 3) := by decide +kernel
theorem dX2_advance_59 : decode cX2_advance 59 = .ok (.aload_n 0, 1) := by decide +kernel
theorem dX2_advance_60 : decode cX2_advance 60 = .ok (.getfield 19, 3) := by decide +kernel
theorem dX2_advance_63 : decode cX2_advance 63 = .ok (.aload_n 0, 1) := by decide +kernel
theorem dX2_advance_64 : decode cX2_advance 64 = .ok (.getfield 9, 3) := by decide +kernel
theorem dX2_advance_67 : decode cX2_advance 67 = .ok (.getfield 118, 3) := by decide +kernel
theorem dX2_advance_70 : decode cX2_advance 70 = .ok (.if_icmp .lt 11, 3) := by decide +kernel
theorem dX2_advance_73 : decode cX2_advance 73 = .ok (.aload_n 0, 1) := by decide +kernel
theorem dX2_advance_74 : decode cX2_advance 74 = .ok (.iconst 0, 1) := by decide +kernel
theorem dX2_advance_75 : decode cX2_advance 75 = .ok (.putfield 15, 3) := by decide +kernel
theorem dX2_advance_78 : decode cX2_advance 78 = .ok (.goto 86, 3) := by decide +kernel
theorem dX2_advance_81 : decode cX2_advance 81 = .ok (.aload_n 0, 1) := by decide +kernel
theorem dX2_advance_82 : decode cX2_advance 82 = .ok (.getfield 9, 3) := by decide +kernel
theorem dX2_advance_85 : decode cX2_advance 85 = .ok (.aload_n 0, 1) := by decide +kernel
theorem dX2_advance_86 : decode cX2_advance 86 = .ok (.getfield 19, 3) := by decide +kernel
theorem dX2_advance_89 : decode cX2_advance 89 = .ok (.invokevirtual 108, 3) := by decide +kernel
theorem dX2_advance_92 : decode cX2_advance 92 = .ok (.invokestatic 119, 3) := by decide +kernel
theorem dX2_advance_95 : decode cX2_advance 95 = .ok (.ifCond .eq 10, 3) := by decide +kernel
theorem dX2_advance_98 : decode cX2_advance 98 = .ok (.aload_n 0, 1) := by decide +kernel
theorem dX2_advance_99 : decode cX2_advance 99 = .ok (.invokevirtual 122, 3) := by decide +kernel
theorem dX2_advance_102 : decode cX2_advance 102 = .ok (.goto 62, 3) := by decide +kernel
theorem dX2_advance_105 : decode cX2_advance 105 = .ok (.aload_n 0, 1) := by decide +kernel
theorem dX2_advance_106 : decode cX2_advance 106 = .ok (.getfield 9, 3) := by decide +kernel
theorem dX2_advance_109 : decode cX2_advance 109 = .ok (.aload_n 0, 1) := by decide +kernel
theorem dX2_advance_110 : decode cX2_advance 110 = .ok (.getfield 19, 3) := by decide +kernel
theorem dX2_advance_113 : decode cX2_advance 113 = .ok (.invokevirtual 108, 3) := by decide +kernel
theorem dX2_advance_116 : decode cX2_advance 116 = .ok (.invokestatic 125, 3) := by decide +kernel
theorem dX2_advance_119 : decode cX2_advance 119 = .ok (.ifCond .eq 10, 3) := by decide +kernel
theorem dX2_advance_122 : decode cX2_advance 122 = .ok (.aload_n 0, 1) := by decide +kernel
theorem dX2_advance_123 : decode cX2_advance 123 = .ok (.invokevirtual 128, 3) := by decide +kernel
theorem dX2_advance_126 : decode cX2_advance 126 = .ok (.goto 38, 3) := by decide +kernel
theorem dX2_advance_129 : decode cX2_advance 129 = .ok (.aload_n 0, 1) := by decide +kernel
theorem dX2_advance_130 : decode cX2_advance 130 = .ok (.aload_n 0, 1) := by decide +kernel
theorem dX2_advance_131 : decode cX2_advance 131 = .ok (.getfield 9, 3) := by decide +kernel
theorem dX2_advance_134 : decode cX2_advance 134 = .ok (.aload_n 0, 1) := by decide +kernel
theorem dX2_advance_135 : decode cX2_advance 135 = .ok (.getfield 19, 3) := by decide +kernel
theorem dX2_advance_138 : decode cX2_advance 138 = .ok (.invokevirtual 108, 3) := by decide +kernel
theorem dX2_advance_141 : decode cX2_advance 141 = .ok (.bipush 59, 2) := by decide +kernel
theorem dX2_advance_143 : decode cX2_advance 143 = .ok (.if_icmp .ne 7, 3) := by decide +kernel
theorem dX2_advance_146 : decode cX2_advance 146 = .ok (.iconst 3, 1) := by decide +kernel
theorem dX2_advance_147 : decode cX2_advance 147 = .ok (.goto 4, 3) := by decide +kernel
theorem dX2_advance_150 : decode cX2_advance 150 = .ok (.iconst 4, 1) := by decide +kernel
theorem dX2_advance_151 : decode cX2_advance 151 = .ok (.putfield 15, 3) := by decide +kernel
theorem dX2_advance_154 : decode cX2_advance 154 = .ok (.aload_n 0, 1) := by decide +kernel
theorem dX2_advance_155 : decode cX2_advance 155 = .ok (.aload_n 0, 1) := by decide +kernel
theorem dX2_advance_156 : decode cX2_advance 156 = .ok (.getfield 19, 3) := by decide +kernel
theorem dX2_advance_159 : decode cX2_advance 159 = .ok (.iconst 1, 1) := by decide +kernel
theorem dX2_advance_160 : decode cX2_advance 160 = .ok (.iadd, 1) := by decide +kernel
theorem dX2_advance_161 : decode cX2_advance 161 = .ok (.putfield 22, 3) := by decide +kernel
theorem dX2_advance_164 : decode cX2_advance 164 = .ok (.return_, 1) := by decide +kernel
theorem dX2_isLetter_0 : decode cX2_isLetter 0 = .ok (.iload_n 0, 1) := by decide +kernel
theorem dX2_isLetter_1 : decode cX2_isLetter 1 = .ok (.bipush 97, 2) := by decide +kernel
theorem dX2_isLetter_3 : decode cX2_isLetter 3 = .ok (.if_icmp .lt 13, 3) := by decide +kernel
theorem dX2_isLetter_6 : decode cX2_isLetter 6 = .ok (.iload_n 0, 1) := by decide +kernel
theorem dX2_isLetter_7 : decode cX2_isLetter 7 = .ok (.bipush 122, 2) := by decide +kernel
theorem dX2_isLetter_9 : decode cX2_isLetter 9 = .ok (.if_icmp .gt 7, 3) := by decide +kernel
theorem dX2_isLetter_12 : decode cX2_isLetter 12 = .ok (.iconst 1, 1) := by decide +kernel
theorem dX2_isLetter_13 : decode cX2_isLetter 13 = .ok (.goto 4, 3) := by decide +kernel
theorem dX2_isLetter_16 : decode cX2_isLetter 16 = .ok (.iconst 0, 1) := by decide +kernel
theorem dX2_isLetter_17 : decode cX2_isLetter 17 = .ok (.ireturn, 1) := by decide +kernel
theorem dX2_isDigit_0 : decode cX2_isDigit 0 = .ok (.iload_n 0, 1) := by decide +kernel
theorem dX2_isDigit_1 : decode cX2_isDigit 1 = .ok (.bipush 48, 2) := by decide +kernel
theorem dX2_isDigit_3 : decode cX2_isDigit 3 = .ok (.if_icmp .lt 13, 3) := by decide +kernel
theorem dX2_isDigit_6 : decode cX2_isDigit 6 = .ok (.iload_n 0, 1) := by decide +kernel
theorem dX2_isDigit_7 : decode cX2_isDigit 7 = .ok (.bipush 57, 2) := by decide +kernel
theorem dX2_isDigit_9 : decode cX2_isDigit 9 = .ok (.if_icmp .gt 7, 3) := by decide +kernel
theorem dX2_isDigit_12 : decode cX2_isDigit 12 = .ok (.iconst 1, 1) := by decide +kernel
theorem dX2_isDigit_13 : decode cX2_isDigit 13 = .ok (.goto 4, 3) := by decide +kernel
theorem dX2_isDigit_16 : decode cX2_isDigit 16 = .ok (.iconst 0, 1) := by decide +kernel
theorem dX2_isDigit_17 : decode cX2_isDigit 17 = .ok (.ireturn, 1) := by decide +kernel
theorem dX2_takeWord_0 : decode cX2_takeWord 0 = .ok (.aload_n 0, 1) := by decide +kernel
theorem dX2_takeWord_1 : decode cX2_takeWord 1 = .ok (.iconst 1, 1) := by decide +kernel
theorem dX2_takeWord_2 : decode cX2_takeWord 2 = .ok (.putfield 15, 3) := by decide +kernel
theorem dX2_takeWord_5 : decode cX2_takeWord 5 = .ok (.aload_n 0, 1) := by decide +kernel
theorem dX2_takeWord_6 : decode cX2_takeWord 6 = .ok (.getfield 22, 3) := by decide +kernel
theorem dX2_takeWord_9 : decode cX2_takeWord 9 = .ok (.aload_n 0, 1) := by decide +kernel
theorem dX2_takeWord_10 : decode cX2_takeWord 10 = .ok (.getfield 9, 3) := by decide +kernel
theorem dX2_takeWord_13 : decode cX2_takeWord 13 = .ok (.getfield 118, 3) := by decide +kernel
theorem dX2_takeWord_16 : decode cX2_takeWord 16 = .ok (.if_icmp .ge 33, 3) := by decide +kernel
theorem dX2_takeWord_19 : decode cX2_takeWord 19 = .ok (.aload_n 0, 1) := by decide +kernel
theorem dX2_takeWord_20 : decode cX2_takeWord 20 = .ok (.getfield 9, 3) := by decide +kernel
theorem dX2_takeWord_23 : decode cX2_takeWord 23 = .ok (.aload_n 0, 1) := by decide +kernel
theorem dX2_takeWord_24 : decode cX2_takeWord 24 = .ok (.getfield 22, 3) := by decide +kernel
theorem dX2_takeWord_27 : decode cX2_takeWord 27 = .ok (.invokevirtual 108, 3) := by decide +kernel
theorem dX2_takeWord_30 : decode cX2_takeWord 30 = .ok (.invokestatic 119, 3) := by decide +kernel
theorem dX2_takeWord_33 : decode cX2_takeWord 33 = .ok (.ifCond .eq 16, 3) := by decide +kernel
theorem dX2_takeWord_36 : decode cX2_takeWord 36 = .ok (.aload_n 0, 1) := by decide +kernel
theorem dX2_takeWord_37 : decode cX2_takeWord 37 = .ok (.dup, 1) := by decide +kernel
theorem dX2_takeWord_38 : decode cX2_takeWord 38 = .ok (.getfield 22, 3) := by decide +kernel
theorem dX2_takeWord_41 : decode cX2_takeWord 41 = .ok (.iconst 1, 1) := by decide +kernel
theorem dX2_takeWord_42 : decode cX2_takeWord 42 = .ok (.iadd, 1) := by decide +kernel
theorem dX2_takeWord_43 : decode cX2_takeWord 43 = .ok (.putfield 22, 3) := by decide +kernel
theorem dX2_takeWord_46 : decode cX2_takeWord 46 = .ok (.goto (-41), 3) := by decide +kernel
theorem dX2_takeWord_49 : decode cX2_takeWord 49 = .ok (.return_, 1) := by decide +kernel
theorem dX2_takeNumber_0 : decode cX2_takeNumber 0 = .ok (.aload_n 0, 1) := by decide +kernel
theorem dX2_takeNumber_1 : decode cX2_takeNumber 1 = .ok (.iconst 2, 1) := by decide +kernel
theorem dX2_takeNumber_2 : decode cX2_takeNumber 2 = .ok (.putfield 15, 3) := by decide +kernel
theorem dX2_takeNumber_5 : decode cX2_takeNumber 5 = .ok (.aload_n 0, 1) := by decide +kernel
theorem dX2_takeNumber_6 : decode cX2_takeNumber 6 = .ok (.iconst 0, 1) := by decide +kernel
theorem dX2_takeNumber_7 : decode cX2_takeNumber 7 = .ok (.putfield 25, 3) := by decide +kernel
theorem dX2_takeNumber_10 : decode cX2_takeNumber 10 = .ok (.aload_n 0, 1) := by decide +kernel
theorem dX2_takeNumber_11 : decode cX2_takeNumber 11 = .ok (.getfield 22, 3) := by decide +kernel
theorem dX2_takeNumber_14 : decode cX2_takeNumber 14 = .ok (.aload_n 0, 1) := by decide +kernel
theorem dX2_takeNumber_15 : decode cX2_takeNumber 15 = .ok (.getfield 9, 3) := by decide +kernel
theorem dX2_takeNumber_18 : decode cX2_takeNumber 18 = .ok (.getfield 118, 3) := by decide +kernel
theorem dX2_takeNumber_21 : decode cX2_takeNumber 21 = .ok (.if_icmp .ge 65, 3) := by decide +kernel
theorem dX2_takeNumber_24 : decode cX2_takeNumber 24 = .ok (.aload_n 0, 1) := by decide +kernel
theorem dX2_takeNumber_25 : decode cX2_takeNumber 25 = .ok (.getfield 9, 3) := by decide +kernel
theorem dX2_takeNumber_28 : decode cX2_takeNumber 28 = .ok (.aload_n 0, 1) := by decide +kernel
theorem dX2_takeNumber_29 : decode cX2_takeNumber 29 = .ok (.getfield 22, 3) := by decide +kernel
theorem dX2_takeNumber_32 : decode cX2_takeNumber 32 = .ok (.invokevirtual 108, 3) := by decide +kernel
theorem dX2_takeNumber_35 : decode cX2_takeNumber 35 = .ok (.invokestatic 125, 3) := by decide +kernel
theorem dX2_takeNumber_38 : decode cX2_takeNumber 38 = .ok (.ifCond .eq 48, 3) := by decide +kernel
theorem dX2_takeNumber_41 : decode cX2_takeNumber 41 = .ok (.aload_n 0, 1) := by decide +kernel
theorem dX2_takeNumber_42 : decode cX2_takeNumber 42 = .ok (.bipush 10, 2) := by decide +kernel
theorem dX2_takeNumber_44 : decode cX2_takeNumber 44 = .ok (.aload_n 0, 1) := by decide +kernel
theorem dX2_takeNumber_45 : decode cX2_takeNumber 45 = .ok (.getfield 25, 3) := by decide +kernel
theorem dX2_takeNumber_48 : decode cX2_takeNumber 48 = .ok (.imul, 1) := by decide +kernel
theorem dX2_takeNumber_49 : decode cX2_takeNumber 49 = .ok (.aload_n 0, 1) := by decide +kernel
theorem dX2_takeNumber_50 : decode cX2_takeNumber 50 = .ok (.getfield 9, 3) := by decide +kernel
theorem dX2_takeNumber_53 : decode cX2_takeNumber 53 = .ok (.aload_n 0, 1) := by decide +kernel
theorem dX2_takeNumber_54 : decode cX2_takeNumber 54 = .ok (.getfield 22, 3) := by decide +kernel
theorem dX2_takeNumber_57 : decode cX2_takeNumber 57 = .ok (.invokevirtual 108, 3) := by decide +kernel
theorem dX2_takeNumber_60 : decode cX2_takeNumber 60 = .ok (.iadd, 1) := by decide +kernel
theorem dX2_takeNumber_61 : decode cX2_takeNumber 61 = .ok (.bipush 48, 2) := by decide +kernel
theorem dX2_takeNumber_63 : decode cX2_takeNumber 63 = .ok (.isub, 1) := by decide +kernel
theorem dX2_takeNumber_64 : decode cX2_takeNumber 64 = .ok (.sipush 1000, 3) := by decide +kernel
theorem dX2_takeNumber_67 : decode cX2_takeNumber 67 = .ok (.invokestatic 131, 3) := by decide +kernel
theorem dX2_takeNumber_70 : decode cX2_takeNumber 70 = .ok (.putfield 25, 3) := by decide +kernel
theorem dX2_takeNumber_73 : decode cX2_takeNumber 73 = .ok (.aload_n 0, 1) := by decide +kernel
theorem dX2_takeNumber_74 : decode cX2_takeNumber 74 = .ok (.dup, 1) := by decide +kernel
theorem dX2_takeNumber_75 : decode cX2_takeNumber 75 = .ok (.getfield 22, 3) := by decide +kernel
theorem dX2_takeNumber_78 : decode cX2_takeNumber 78 = .ok (.iconst 1, 1) := by decide +kernel
theorem dX2_takeNumber_79 : decode cX2_takeNumber 79 = .ok (.iadd, 1) := by decide +kernel
theorem dX2_takeNumber_80 : decode cX2_takeNumber 80 = .ok (.putfield 22, 3) := by decide +kernel
theorem dX2_takeNumber_83 : decode cX2_takeNumber 83 = .ok (.goto (-73), 3) := by decide +kernel
theorem dX2_takeNumber_86 : decode cX2_takeNumber 86 = .ok (.return_, 1) := by decide +kernel
theorem dX3_init_0 : decode cX3_init 0 = .ok (.aload_n 0, 1) := by decide +kernel
theorem dX3_init_1 : decode cX3_init 1 = .ok (.invokespecial 3, 3) := by decide +kernel
theorem dX3_init_4 : decode cX3_init 4 = .ok (.aload_n 0, 1) := by decide +kernel
theorem dX3_init_5 : decode cX3_init 5 = .ok (.bipush 40, 2) := by decide +kernel
theorem dX3_init_7 : decode cX3_init 7 = .ok (.newarray .long, 2) := by decide +kernel
theorem dX3_init_9 : decode cX3_init 9 = .ok (.putfield 9, 3) := by decide +kernel
theorem dX3_init_12 : decode cX3_init 12 = .ok (.aload_n 0, 1) := by decide +kernel
theorem dX3_init_13 : decode cX3_init 13 = .ok (.iconst 0, 1) := by decide +kernel
theorem dX3_init_14 : decode cX3_init 14 = .ok (.putfield 15, 3) := by decide +kernel
theorem dX3_init_17 : decode cX3_init 17 = .ok (.aload_n 0, 1) := by decide +kernel
theorem dX3_init_18 : decode cX3_init 18 = .ok (.iconst 0, 1) := by decide +kernel
theorem dX3_init_19 : decode cX3_init 19 = .ok (.putfield 19, 3) := by decide +kernel
theorem dX3_init_22 : decode cX3_init 22 = .ok (.return_, 1) := by decide +kernel
theorem dX3_begin_0 : decode cX3_begin 0 = .ok (.aload_n 0, 1) := by decide +kernel
theorem dX3_begin_1 : decode cX3_begin 1 = .ok (.iload_n 1, 1) := by decide +kernel
theorem dX3_begin_2 : decode cX3_begin 2 = .ok (.putfield 15, 3) := by decide +kernel
theorem dX3_begin_5 : decode cX3_begin 5 = .ok (.aload_n 0, 1) := by decide +kernel
theorem dX3_begin_6 : decode cX3_begin 6 = .ok (.iload_n 2, 1) := by decide +kernel
theorem dX3_begin_7 : decode cX3_begin 7 = .ok (.putfield 19, 3) := by decide +kernel
theorem dX3_begin_10 : decode cX3_begin 10 = .ok (.iconst 0, 1) := by decide +kernel
theorem dX3_begin_11 : decode cX3_begin 11 = .ok (.istore_n 3, 1) := by decide +kernel
theorem dX3_begin_12 : decode cX3_begin 12 = .ok (.iload_n 3, 1) := by decide +kernel
theorem dX3_begin_13 : decode cX3_begin 13 = .ok (.bipush 40, 2) := by decide +kernel
theorem dX3_begin_15 : decode cX3_begin 15 = .ok (.if_icmp .ge 16, 3) := by decide +kernel
theorem dX3_begin_18 : decode cX3_begin 18 = .ok (.aload_n 0, 1) := by decide +kernel
theorem dX3_begin_19 : decode cX3_begin 19 = .ok (.getfield 9, 3) := by decide +kernel
theorem dX3_begin_22 : decode cX3_begin 22 = .ok (.iload_n 3, 1) := by decide +kernel
theorem dX3_begin_23 : decode cX3_begin 23 = .ok (.lconst 0, 1) := by decide +kernel
theorem dX3_begin_24 : decode cX3_begin 24 = .ok (.lastore, 1) := by decide +kernel
theorem dX3_begin_25 : decode cX3_begin 25 = .ok (.iinc 3 1, 3) := by decide +kernel
theorem dX3_begin_28 : decode cX3_begin 28 = .ok (.goto (-16), 3) := by decide +kernel
theorem dX3_begin_31 : decode cX3_begin 31 = .ok (.return_, 1) := by decide +kernel
theorem dX3_isMissing_0 : decode cX3_isMissing 0 = .ok (.aload_n 0, 1) := by decide +kernel
theorem dX3_isMissing_1 : decode cX3_isMissing 1 = .ok (.getfield 15, 3) := by decide +kernel
theorem dX3_isMissing_4 : decode cX3_isMissing 4 = .ok (.ifCond .ne 7, 3) := by decide +kernel
theorem dX3_isMissing_7 : decode cX3_isMissing 7 = .ok (.iconst 1, 1) := by decide +kernel
theorem dX3_isMissing_8 : decode cX3_isMissing 8 = .ok (.goto 4, 3) := by decide +kernel
theorem dX3_isMissing_11 : decode cX3_isMissing 11 = .ok (.iconst 0, 1) := by decide +kernel
theorem dX3_isMissing_12 : decode cX3_isMissing 12 = .ok (.ireturn, 1) := by decide +kernel
theorem dX3_hasRow_0 : decode cX3_hasRow 0 = .ok (.iload_n 1, 1) := by decide +kernel
theorem dX3_hasRow_1 : decode cX3_hasRow 1 = .ok (.ifCond .lt 29, 3) := by decide +kernel
theorem dX3_hasRow_4 : decode cX3_hasRow 4 = .ok (.iload_n 2, 1) := by decide +kernel
theorem dX3_hasRow_5 : decode cX3_hasRow 5 = .ok (.ifCond .lt 25, 3) := by decide +kernel
theorem dX3_hasRow_8 : decode cX3_hasRow 8 = .ok (.iload_n 2, 1) := by decide +kernel
theorem dX3_hasRow_9 : decode cX3_hasRow 9 = .ok (.aload_n 0, 1) := by decide +kernel
theorem dX3_hasRow_10 : decode cX3_hasRow 10 = .ok (.getfield 19, 3) := by decide +kernel
theorem dX3_hasRow_13 : decode cX3_hasRow 13 = .ok (.if_icmp .gt 17, 3) := by decide +kernel
theorem dX3_hasRow_16 : decode cX3_hasRow 16 = .ok (.iload_n 1, 1) := by decide +kernel
theorem dX3_hasRow_17 : decode cX3_hasRow 17 = .ok (.aload_n 0, 1) := by decide +kernel
theorem dX3_hasRow_18 : decode cX3_hasRow 18 = .ok (.getfield 19, 3) := by decide +kernel
theorem dX3_hasRow_21 : decode cX3_hasRow 21 = .ok (.iload_n 2, 1) := by decide +kernel
theorem dX3_hasRow_22 : decode cX3_hasRow 22 = .ok (.isub, 1) := by decide +kernel
theorem dX3_hasRow_23 : decode cX3_hasRow 23 = .ok (.if_icmp .gt 7, 3) := by decide +kernel
theorem dX3_hasRow_26 : decode cX3_hasRow 26 = .ok (.iconst 1, 1) := by decide +kernel
theorem dX3_hasRow_27 : decode cX3_hasRow 27 = .ok (.goto 4, 3) := by decide +kernel
theorem dX3_hasRow_30 : decode cX3_hasRow 30 = .ok (.iconst 0, 1) := by decide +kernel
theorem dX3_hasRow_31 : decode cX3_hasRow 31 = .ok (.ireturn, 1) := by decide +kernel
theorem dX3_put_0 : decode cX3_put 0 = .ok (.iload_n 1, 1) := by decide +kernel
theorem dX3_put_1 : decode cX3_put 1 = .ok (.ifCond .lt 22, 3) := by decide +kernel
theorem dX3_put_4 : decode cX3_put 4 = .ok (.iload_n 1, 1) := by decide +kernel
theorem dX3_put_5 : decode cX3_put 5 = .ok (.aload_n 0, 1) := by decide +kernel
theorem dX3_put_6 : decode cX3_put 6 = .ok (.getfield 19, 3) := by decide +kernel
theorem dX3_put_9 : decode cX3_put 9 = .ok (.if_icmp .ge 14, 3) := by decide +kernel
theorem dX3_put_12 : decode cX3_put 12 = .ok (.aload_n 0, 1) := by decide +kernel
theorem dX3_put_13 : decode cX3_put 13 = .ok (.getfield 9, 3) := by decide +kernel
theorem dX3_put_16 : decode cX3_put 16 = .ok (.iload_n 1, 1) := by decide +kernel
theorem dX3_put_17 : decode cX3_put 17 = .ok (.aload_n 0, 1) := by decide +kernel
theorem dX3_put_18 : decode cX3_put 18 = .ok (.lload_n 2, 1) := by decide +kernel
theorem dX3_put_19 : decode cX3_put 19 = .ok (.invokevirtual 22, 3) := by decide +kernel
theorem dX3_put_22 : decode cX3_put 22 = .ok (.lastore, 1) := by decide +kernel
theorem dX3_put_23 : decode cX3_put 23 = .ok (.return_, 1) := by decide +kernel
theorem dX3_lowestBits_0 : decode cX3_lowestBits 0 = .ok (.aload_n 0, 1) := by decide +kernel
theorem dX3_lowestBits_1 : decode cX3_lowestBits 1 = .ok (.getfield 15, 3) := by decide +kernel
theorem dX3_lowestBits_4 : decode cX3_lowestBits 4 = .ok (.lookupswitch 38 #[(8, 28), (16, 33)], 28) := by decide +kernel
theorem dX3_lowestBits_32 : decode cX3_lowestBits 32 = .ok (.lload_n 1, 1) := by decide +kernel
theorem dX3_lowestBits_33 : decode cX3_lowestBits 33 = .ok (.l2i, 1) := by decide +kernel
theorem dX3_lowestBits_34 : decode cX3_lowestBits 34 = .ok (.i2b, 1) := by decide +kernel
theorem dX3_lowestBits_35 : decode cX3_lowestBits 35 = .ok (.i2l, 1) := by decide +kernel
theorem dX3_lowestBits_36 : decode cX3_lowestBits 36 = .ok (.lreturn, 1) := by decide +kernel
theorem dX3_lowestBits_37 : decode cX3_lowestBits 37 = .ok (.lload_n 1, 1) := by decide +kernel
theorem dX3_lowestBits_38 : decode cX3_lowestBits 38 = .ok (.l2i, 1) := by decide +kernel
theorem dX3_lowestBits_39 : decode cX3_lowestBits 39 = .ok (.i2s, 1) := by decide +kernel
theorem dX3_lowestBits_40 : decode cX3_lowestBits 40 = .ok (.i2l, 1) := by decide +kernel
theorem dX3_lowestBits_41 : decode cX3_lowestBits 41 = .ok (.lreturn, 1) := by decide +kernel
theorem dX3_lowestBits_42 : decode cX3_lowestBits 42 = .ok (.lload_n 1, 1) := by decide +kernel
theorem dX3_lowestBits_43 : decode cX3_lowestBits 43 = .ok (.lreturn, 1) := by decide +kernel
theorem dX4_init_0 : decode cX4_init 0 = .ok (.aload_n 0, 1) := by decide +kernel
theorem dX4_init_1 : decode cX4_init 1 = .ok (.invokespecial 3, 3) := by decide +kernel
theorem dX4_init_4 : decode cX4_init 4 = .ok (.aload_n 0, 1) := by decide +kernel
theorem dX4_init_5 : decode cX4_init 5 = .ok (.bipush 120, 2) := by decide +kernel
theorem dX4_init_7 : decode cX4_init 7 = .ok (.newarray .int, 2) := by decide +kernel
theorem dX4_init_9 : decode cX4_init 9 = .ok (.putfield 9, 3) := by decide +kernel
theorem dX4_init_12 : decode cX4_init 12 = .ok (.aload_n 0, 1) := by decide +kernel
theorem dX4_init_13 : decode cX4_init 13 = .ok (.iconst 0, 1) := by decide +kernel
theorem dX4_init_14 : decode cX4_init 14 = .ok (.putfield 15, 3) := by decide +kernel
theorem dX4_init_17 : decode cX4_init 17 = .ok (.return_, 1) := by decide +kernel
theorem dX4_clear_0 : decode cX4_clear 0 = .ok (.aload_n 0, 1) := by decide +kernel
theorem dX4_clear_1 : decode cX4_clear 1 = .ok (.iconst 0, 1) := by decide +kernel
theorem dX4_clear_2 : decode cX4_clear 2 = .ok (.putfield 15, 3) := by decide +kernel
theorem dX4_clear_5 : decode cX4_clear 5 = .ok (.return_, 1) := by decide +kernel
theorem dX4_append_0 : decode cX4_append 0 = .ok (.aload_n 0, 1) := by decide +kernel
theorem dX4_append_1 : decode cX4_append 1 = .ok (.getfield 15, 3) := by decide +kernel
theorem dX4_append_4 : decode cX4_append 4 = .ok (.bipush 120, 2) := by decide +kernel
theorem dX4_append_6 : decode cX4_append 6 = .ok (.if_icmp .ge 23, 3) := by decide +kernel
theorem dX4_append_9 : decode cX4_append 9 = .ok (.aload_n 0, 1) := by decide +kernel
theorem dX4_append_10 : decode cX4_append 10 = .ok (.getfield 9, 3) := by decide +kernel
theorem dX4_append_13 : decode cX4_append 13 = .ok (.aload_n 0, 1) := by decide +kernel
theorem dX4_append_14 : decode cX4_append 14 = .ok (.getfield 15, 3) := by decide +kernel
theorem dX4_append_17 : decode cX4_append 17 = .ok (.iload_n 1, 1) := by decide +kernel
theorem dX4_append_18 : decode cX4_append 18 = .ok (.iastore, 1) := by decide +kernel
theorem dX4_append_19 : decode cX4_append 19 = .ok (.aload_n 0, 1) := by decide +kernel
theorem dX4_append_20 : decode cX4_append 20 = .ok (.dup, 1) := by decide +kernel
theorem dX4_append_21 : decode cX4_append 21 = .ok (.getfield 15, 3) := by decide +kernel
theorem dX4_append_24 : decode cX4_append 24 = .ok (.iconst 1, 1) := by decide +kernel
theorem dX4_append_25 : decode cX4_append 25 = .ok (.iadd, 1) := by decide +kernel
theorem dX4_append_26 : decode cX4_append 26 = .ok (.putfield 15, 3) := by decide +kernel
theorem dX4_append_29 : decode cX4_append 29 = .ok (.return_, 1) := by decide +kernel
theorem dX4_byteAt_0 : decode cX4_byteAt 0 = .ok (.iload_n 1, 1) := by decide +kernel
theorem dX4_byteAt_1 : decode cX4_byteAt 1 = .ok (.ifCond .lt 20, 3) := by decide +kernel
theorem dX4_byteAt_4 : decode cX4_byteAt 4 = .ok (.iload_n 1, 1) := by decide +kernel
theorem dX4_byteAt_5 : decode cX4_byteAt 5 = .ok (.aload_n 0, 1) := by decide +kernel
theorem dX4_byteAt_6 : decode cX4_byteAt 6 = .ok (.getfield 15, 3) := by decide +kernel
theorem dX4_byteAt_9 : decode cX4_byteAt 9 = .ok (.if_icmp .ge 12, 3) := by decide +kernel
theorem dX4_byteAt_12 : decode cX4_byteAt 12 = .ok (.aload_n 0, 1) := by decide +kernel
theorem dX4_byteAt_13 : decode cX4_byteAt 13 = .ok (.getfield 9, 3) := by decide +kernel
theorem dX4_byteAt_16 : decode cX4_byteAt 16 = .ok (.iload_n 1, 1) := by decide +kernel
theorem dX4_byteAt_17 : decode cX4_byteAt 17 = .ok (.iaload, 1) := by decide +kernel
theorem dX4_byteAt_18 : decode cX4_byteAt 18 = .ok (.goto 4, 3) := by decide +kernel
theorem dX4_byteAt_21 : decode cX4_byteAt 21 = .ok (.iconst (-1), 1) := by decide +kernel
theorem dX4_byteAt_22 : decode cX4_byteAt 22 = .ok (.ireturn, 1) := by decide +kernel
theorem dX5_init_0 : decode cX5_init 0 = .ok (.aload_n 0, 1) := by decide +kernel
theorem dX5_init_1 : decode cX5_init 1 = .ok (.invokespecial 3, 3) := by decide +kernel
theorem dX5_init_4 : decode cX5_init 4 = .ok (.aload_n 0, 1) := by decide +kernel
theorem dX5_init_5 : decode cX5_init 5 = .ok (.bipush 12, 2) := by decide +kernel
theorem dX5_init_7 : decode cX5_init 7 = .ok (.newarray .int, 2) := by decide +kernel
theorem dX5_init_9 : decode cX5_init 9 = .ok (.putfield 9, 3) := by decide +kernel
theorem dX5_init_12 : decode cX5_init 12 = .ok (.aload_n 0, 1) := by decide +kernel
theorem dX5_init_13 : decode cX5_init 13 = .ok (.iconst 0, 1) := by decide +kernel
theorem dX5_init_14 : decode cX5_init 14 = .ok (.putfield 15, 3) := by decide +kernel
theorem dX5_init_17 : decode cX5_init 17 = .ok (.return_, 1) := by decide +kernel
theorem dX5_clear_0 : decode cX5_clear 0 = .ok (.aload_n 0, 1) := by decide +kernel
theorem dX5_clear_1 : decode cX5_clear 1 = .ok (.iconst 0, 1) := by decide +kernel
theorem dX5_clear_2 : decode cX5_clear 2 = .ok (.putfield 15, 3) := by decide +kernel
theorem dX5_clear_5 : decode cX5_clear 5 = .ok (.return_, 1) := by decide +kernel
theorem dX5_append_0 : decode cX5_append 0 = .ok (.aload_n 0, 1) := by decide +kernel
theorem dX5_append_1 : decode cX5_append 1 = .ok (.getfield 15, 3) := by decide +kernel
theorem dX5_append_4 : decode cX5_append 4 = .ok (.bipush 12, 2) := by decide +kernel
theorem dX5_append_6 : decode cX5_append 6 = .ok (.if_icmp .ge 23, 3) := by decide +kernel
theorem dX5_append_9 : decode cX5_append 9 = .ok (.aload_n 0, 1) := by decide +kernel
theorem dX5_append_10 : decode cX5_append 10 = .ok (.getfield 9, 3) := by decide +kernel
theorem dX5_append_13 : decode cX5_append 13 = .ok (.aload_n 0, 1) := by decide +kernel
theorem dX5_append_14 : decode cX5_append 14 = .ok (.getfield 15, 3) := by decide +kernel
theorem dX5_append_17 : decode cX5_append 17 = .ok (.iload_n 1, 1) := by decide +kernel
theorem dX5_append_18 : decode cX5_append 18 = .ok (.iastore, 1) := by decide +kernel
theorem dX5_append_19 : decode cX5_append 19 = .ok (.aload_n 0, 1) := by decide +kernel
theorem dX5_append_20 : decode cX5_append 20 = .ok (.dup, 1) := by decide +kernel
theorem dX5_append_21 : decode cX5_append 21 = .ok (.getfield 15, 3) := by decide +kernel
theorem dX5_append_24 : decode cX5_append 24 = .ok (.iconst 1, 1) := by decide +kernel
theorem dX5_append_25 : decode cX5_append 25 = .ok (.iadd, 1) := by decide +kernel
theorem dX5_append_26 : decode cX5_append 26 = .ok (.putfield 15, 3) := by decide +kernel
theorem dX5_append_29 : decode cX5_append 29 = .ok (.return_, 1) := by decide +kernel
theorem dX5_become_0 : decode cX5_become 0 = .ok (.aload_n 1, 1) := by decide +kernel
theorem dX5_become_1 : decode cX5_become 1 = .ok (.getfield 9, 3) := by decide +kernel
theorem dX5_become_4 : decode cX5_become 4 = .ok (.iconst 0, 1) := by decide +kernel
theorem dX5_become_5 : decode cX5_become 5 = .ok (.aload_n 0, 1) := by decide +kernel
theorem dX5_become_6 : decode cX5_become 6 = .ok (.getfield 9, 3) := by decide +kernel
theorem dX5_become_9 : decode cX5_become 9 = .ok (.iconst 0, 1) := by decide +kernel
theorem dX5_become_10 : decode cX5_become 10 = .ok (.bipush 12, 2) := by decide +kernel
theorem dX5_become_12 : decode cX5_become 12 = .ok (.invokestatic 19, 3) := by decide +kernel
theorem dX5_become_15 : decode cX5_become 15 = .ok (.aload_n 0, 1) := by decide +kernel
theorem dX5_become_16 : decode cX5_become 16 = .ok (.aload_n 1, 1) := by decide +kernel
theorem dX5_become_17 : decode cX5_become 17 = .ok (.getfield 15, 3) := by decide +kernel
theorem dX5_become_20 : decode cX5_become 20 = .ok (.putfield 15, 3) := by decide +kernel
theorem dX5_become_23 : decode cX5_become 23 = .ok (.return_, 1) := by decide +kernel
theorem dX5_toneAt_0 : decode cX5_toneAt 0 = .ok (.iload_n 1, 1) := by decide +kernel
theorem dX5_toneAt_1 : decode cX5_toneAt 1 = .ok (.ifCond .lt 20, 3) := by decide +kernel
theorem dX5_toneAt_4 : decode cX5_toneAt 4 = .ok (.iload_n 1, 1) := by decide +kernel
theorem dX5_toneAt_5 : decode cX5_toneAt 5 = .ok (.aload_n 0, 1) := by decide +kernel
theorem dX5_toneAt_6 : decode cX5_toneAt 6 = .ok (.getfield 15, 3) := by decide +kernel
theorem dX5_toneAt_9 : decode cX5_toneAt 9 = .ok (.if_icmp .ge 12, 3) := by decide +kernel
theorem dX5_toneAt_12 : decode cX5_toneAt 12 = .ok (.aload_n 0, 1) := by decide +kernel
theorem dX5_toneAt_13 : decode cX5_toneAt 13 = .ok (.getfield 9, 3) := by decide +kernel
theorem dX5_toneAt_16 : decode cX5_toneAt 16 = .ok (.iload_n 1, 1) := by decide +kernel
theorem dX5_toneAt_17 : decode cX5_toneAt 17 = .ok (.iaload, 1) := by decide +kernel
theorem dX5_toneAt_18 : decode cX5_toneAt 18 = .ok (.goto 4, 3) := by decide +kernel
theorem dX5_toneAt_21 : decode cX5_toneAt 21 = .ok (.iconst 0, 1) := by decide +kernel
theorem dX5_toneAt_22 : decode cX5_toneAt 22 = .ok (.ireturn, 1) := by decide +kernel
theorem dX5_isHome_0 : decode cX5_isHome 0 = .ok (.aload_n 0, 1) := by decide +kernel
theorem dX5_isHome_1 : decode cX5_isHome 1 = .ok (.getfield 15, 3) := by decide +kernel
theorem dX5_isHome_4 : decode cX5_isHome 4 = .ok (.ifCond .le 21, 3) := by decide +kernel
theorem dX5_isHome_7 : decode cX5_isHome 7 = .ok (.aload_n 0, 1) := by decide +kernel
theorem dX5_isHome_8 : decode cX5_isHome 8 = .ok (.getfield 9, 3) := by decide +kernel
theorem dX5_isHome_11 : decode cX5_isHome 11 = .ok (.aload_n 0, 1) := by decide +kernel
theorem dX5_isHome_12 : decode cX5_isHome 12 = .ok (.getfield 15, 3) := by decide +kernel
theorem dX5_isHome_15 : decode cX5_isHome 15 = .ok (.iconst 1, 1) := by decide +kernel
theorem dX5_isHome_16 : decode cX5_isHome 16 = .ok (.isub, 1) := by decide +kernel
theorem dX5_isHome_17 : decode cX5_isHome 17 = .ok (.iaload, 1) := by decide +kernel
theorem dX5_isHome_18 : decode cX5_isHome 18 = .ok (.ifCond .ne 7, 3) := by decide +kernel
theorem dX5_isHome_21 : decode cX5_isHome 21 = .ok (.iconst 1, 1) := by decide +kernel
theorem dX5_isHome_22 : decode cX5_isHome 22 = .ok (.goto 4, 3) := by decide +kernel
theorem dX5_isHome_25 : decode cX5_isHome 25 = .ok (.iconst 0, 1) := by decide +kernel
theorem dX5_isHome_26 : decode cX5_isHome 26 = .ok (.ireturn, 1) := by decide +kernel
theorem dX5_isSameAs_0 : decode cX5_isSameAs 0 = .ok (.aload_n 0, 1) := by decide +kernel
theorem dX5_isSameAs_1 : decode cX5_isSameAs 1 = .ok (.aload_n 1, 1) := by decide +kernel
theorem dX5_isSameAs_2 : decode cX5_isSameAs 2 = .ok (.invokevirtual 25, 3) := by decide +kernel
theorem dX5_isSameAs_5 : decode cX5_isSameAs 5 = .ok (.ifCond .ne 7, 3) := by decide +kernel
theorem dX5_isSameAs_8 : decode cX5_isSameAs 8 = .ok (.iconst 1, 1) := by decide +kernel
theorem dX5_isSameAs_9 : decode cX5_isSameAs 9 = .ok (.goto 4, 3) := by decide +kernel
theorem dX5_isSameAs_12 : decode cX5_isSameAs 12 = .ok (.iconst 0, 1) := by decide +kernel
theorem dX5_isSameAs_13 : decode cX5_isSameAs 13 = .ok (.ireturn, 1) := by decide +kernel
theorem dX5_placesUnlike_0 : decode cX5_placesUnlike 0 = .ok (.aload_n 0, 1) := by decide +kernel
theorem dX5_placesUnlike_1 : decode cX5_placesUnlike 1 = .ok (.getfield 15, 3) := by decide +kernel
theorem dX5_placesUnlike_4 : decode cX5_placesUnlike 4 = .ok (.aload_n 1, 1) := by decide +kernel
theorem dX5_placesUnlike_5 : decode cX5_placesUnlike 5 = .ok (.getfield 15, 3) := by decide +kernel
theorem dX5_placesUnlike_8 : decode cX5_placesUnlike 8 = .ok (.invokestatic 29, 3) := by decide +kernel
theorem dX5_placesUnlike_11 : decode cX5_placesUnlike 11 = .ok (.istore_n 2, 1) := by decide +kernel
theorem dX5_placesUnlike_12 : decode cX5_placesUnlike 12 = .ok (.aload_n 0, 1) := by decide +kernel
theorem dX5_placesUnlike_13 : decode cX5_placesUnlike 13 = .ok (.getfield 15, 3) := by decide +kernel
theorem dX5_placesUnlike_16 : decode cX5_placesUnlike 16 = .ok (.aload_n 1, 1) := by decide +kernel
theorem dX5_placesUnlike_17 : decode cX5_placesUnlike 17 = .ok (.getfield 15, 3) := by decide +kernel
theorem dX5_placesUnlike_20 : decode cX5_placesUnlike 20 = .ok (.invokestatic 35, 3) := by decide +kernel
theorem dX5_placesUnlike_23 : decode cX5_placesUnlike 23 = .ok (.iload_n 2, 1) := by decide +kernel
theorem dX5_placesUnlike_24 : decode cX5_placesUnlike 24 = .ok (.isub, 1) := by decide +kernel
theorem dX5_placesUnlike_25 : decode cX5_placesUnlike 25 = .ok (.istore_n 3, 1) := by decide +kernel
theorem dX5_placesUnlike_26 : decode cX5_placesUnlike 26 = .ok (.iconst 0, 1) := by decide +kernel
theorem dX5_placesUnlike_27 : decode cX5_placesUnlike 27 = .ok (.istore 4, 2) := by decide +kernel
theorem dX5_placesUnlike_29 : decode cX5_placesUnlike 29 = .ok (.iload 4, 2) := by decide +kernel
theorem dX5_placesUnlike_31 : decode cX5_placesUnlike 31 = .ok (.iload_n 2, 1) := by decide +kernel
theorem dX5_placesUnlike_32 : decode cX5_placesUnlike 32 = .ok (.if_icmp .ge 29, 3) := by decide +kernel
theorem dX5_placesUnlike_35 : decode cX5_placesUnlike 35 = .ok (.aload_n 0, 1) := by decide +kernel
theorem dX5_placesUnlike_36 : decode cX5_placesUnlike 36 = .ok (.getfield 9, 3) := by decide +kernel
theorem dX5_placesUnlike_39 : decode cX5_placesUnlike 39 = .ok (.iload 4, 2) := by decide +kernel
theorem dX5_placesUnlike_41 : decode cX5_placesUnlike 41 = .ok (.iaload, 1) := by decide +kernel
theorem dX5_placesUnlike_42 : decode cX5_placesUnlike 42 = .ok (.aload_n 1, 1) := by decide +kernel
theorem dX5_placesUnlike_43 : decode cX5_placesUnlike 43 = .ok (.getfield 9, 3) := by decide +kernel
theorem dX5_placesUnlike_46 : decode cX5_placesUnlike 46 = .ok (.iload 4, 2) := by decide +kernel
theorem dX5_placesUnlike_48 : decode cX5_placesUnlike 48 = .ok (.iaload, 1) := by decide +kernel
theorem dX5_placesUnlike_49 : decode cX5_placesUnlike 49 = .ok (.if_icmp .eq 6, 3) := by decide +kernel
theorem dX5_placesUnlike_52 : decode cX5_placesUnlike 52 = .ok (.iinc 3 1, 3) := by decide +kernel
theorem dX5_placesUnlike_55 : decode cX5_placesUnlike 55 = .ok (.iinc 4 1, 3) := by decide +kernel
theorem dX5_placesUnlike_58 : decode cX5_placesUnlike 58 = .ok (.goto (-29), 3) := by decide +kernel
theorem dX5_placesUnlike_61 : decode cX5_placesUnlike 61 = .ok (.iload_n 3, 1) := by decide +kernel
theorem dX5_placesUnlike_62 : decode cX5_placesUnlike 62 = .ok (.ireturn, 1) := by decide +kernel
theorem dX5_toneSet_0 : decode cX5_toneSet 0 = .ok (.iconst 0, 1) := by decide +kernel
theorem dX5_toneSet_1 : decode cX5_toneSet 1 = .ok (.istore_n 1, 1) := by decide +kernel
theorem dX5_toneSet_2 : decode cX5_toneSet 2 = .ok (.iconst 0, 1) := by decide +kernel
theorem dX5_toneSet_3 : decode cX5_toneSet 3 = .ok (.istore_n 2, 1) := by decide +kernel
theorem dX5_toneSet_4 : decode cX5_toneSet 4 = .ok (.iload_n 2, 1) := by decide +kernel
theorem dX5_toneSet_5 : decode cX5_toneSet 5 = .ok (.aload_n 0, 1) := by decide +kernel
theorem dX5_toneSet_6 : decode cX5_toneSet 6 = .ok (.getfield 15, 3) := by decide +kernel
theorem dX5_toneSet_9 : decode cX5_toneSet 9 = .ok (.if_icmp .ge 20, 3) := by decide +kernel
theorem dX5_toneSet_12 : decode cX5_toneSet 12 = .ok (.iload_n 1, 1) := by decide +kernel
theorem dX5_toneSet_13 : decode cX5_toneSet 13 = .ok (.iconst 1, 1) := by decide +kernel
theorem dX5_toneSet_14 : decode cX5_toneSet 14 = .ok (.aload_n 0, 1) := by decide +kernel
theorem dX5_toneSet_15 : decode cX5_toneSet 15 = .ok (.getfield 9, 3) := by decide +kernel
theorem dX5_toneSet_18 : decode cX5_toneSet 18 = .ok (.iload_n 2, 1) := by decide +kernel
theorem dX5_toneSet_19 : decode cX5_toneSet 19 = .ok (.iaload, 1) := by decide +kernel
theorem dX5_toneSet_20 : decode cX5_toneSet 20 = .ok (.ishl, 1) := by decide +kernel
theorem dX5_toneSet_21 : decode cX5_toneSet 21 = .ok (.ior, 1) := by decide +kernel
theorem dX5_toneSet_22 : decode cX5_toneSet 22 = .ok (.istore_n 1, 1) := by decide +kernel
theorem dX5_toneSet_23 : decode cX5_toneSet 23 = .ok (.iinc 2 1, 3) := by decide +kernel
theorem dX5_toneSet_26 : decode cX5_toneSet 26 = .ok (.goto (-22), 3) := by decide +kernel
theorem dX5_toneSet_29 : decode cX5_toneSet 29 = .ok (.iload_n 1, 1) := by decide +kernel
theorem dX5_toneSet_30 : decode cX5_toneSet 30 = .ok (.ireturn, 1) := by decide +kernel
theorem dX5_wideLeaps_0 : decode cX5_wideLeaps 0 = .ok (.iconst 0, 1) := by decide +kernel
theorem dX5_wideLeaps_1 : decode cX5_wideLeaps 1 = .ok (.istore_n 1, 1) := by decide +kernel
theorem dX5_wideLeaps_2 : decode cX5_wideLeaps 2 = .ok (.iconst 1, 1) := by decide +kernel
theorem dX5_wideLeaps_3 : decode cX5_wideLeaps 3 = .ok (.istore_n 2, 1) := by decide +kernel
theorem dX5_wideLeaps_4 : decode cX5_wideLeaps 4 = .ok (.iload_n 2, 1) := by decide +kernel
theorem dX5_wideLeaps_5 : decode cX5_wideLeaps 5 = .ok (.aload_n 0, 1) := by decide +kernel
theorem dX5_wideLeaps_6 : decode cX5_wideLeaps 6 = .ok (.getfield 15, 3) := by decide +kernel
theorem dX5_wideLeaps_9 : decode cX5_wideLeaps 9 = .ok (.if_icmp .ge 33, 3) := by decide +kernel
theorem dX5_wideLeaps_12 : decode cX5_wideLeaps 12 = .ok (.aload_n 0, 1) := by decide +kernel
theorem dX5_wideLeaps_13 : decode cX5_wideLeaps 13 = .ok (.getfield 9, 3) := by decide +kernel
theorem dX5_wideLeaps_16 : decode cX5_wideLeaps 16 = .ok (.iload_n 2, 1) := by decide +kernel
theorem dX5_wideLeaps_17 : decode cX5_wideLeaps 17 = .ok (.iconst 1, 1) := by decide +kernel
theorem dX5_wideLeaps_18 : decode cX5_wideLeaps 18 = .ok (.isub, 1) := by decide +kernel
theorem dX5_wideLeaps_19 : decode cX5_wideLeaps 19 = .ok (.iaload, 1) := by decide +kernel
theorem dX5_wideLeaps_20 : decode cX5_wideLeaps 20 = .ok (.aload_n 0, 1) := by decide +kernel
theorem dX5_wideLeaps_21 : decode cX5_wideLeaps 21 = .ok (.getfield 9, 3) := by decide +kernel
theorem dX5_wideLeaps_24 : decode cX5_wideLeaps 24 = .ok (.iload_n 2, 1) := by decide +kernel
theorem dX5_wideLeaps_25 : decode cX5_wideLeaps 25 = .ok (.iaload, 1) := by decide +kernel
theorem dX5_wideLeaps_26 : decode cX5_wideLeaps 26 = .ok (.invokestatic 38, 3) := by decide +kernel
theorem dX5_wideLeaps_29 : decode cX5_wideLeaps 29 = .ok (.iconst 4, 1) := by decide +kernel
theorem dX5_wideLeaps_30 : decode cX5_wideLeaps 30 = .ok (.if_icmp .lt 6, 3) := by decide +kernel
theorem dX5_wideLeaps_33 : decode cX5_wideLeaps 33 = .ok (.iinc 1 1, 3) := by decide +kernel
theorem dX5_wideLeaps_36 : decode cX5_wideLeaps 36 = .ok (.iinc 2 1, 3) := by decide +kernel
theorem dX5_wideLeaps_39 : decode cX5_wideLeaps 39 = .ok (.goto (-35), 3) := by decide +kernel
theorem dX5_wideLeaps_42 : decode cX5_wideLeaps 42 = .ok (.iload_n 1, 1) := by decide +kernel
theorem dX5_wideLeaps_43 : decode cX5_wideLeaps 43 = .ok (.ireturn, 1) := by decide +kernel
theorem dX5_leapBetween_0 : decode cX5_leapBetween 0 = .ok (.iload_n 0, 1) := by decide +kernel
theorem dX5_leapBetween_1 : decode cX5_leapBetween 1 = .ok (.iload_n 1, 1) := by decide +kernel
theorem dX5_leapBetween_2 : decode cX5_leapBetween 2 = .ok (.isub, 1) := by decide +kernel
theorem dX5_leapBetween_3 : decode cX5_leapBetween 3 = .ok (.invokestatic 41, 3) := by decide +kernel
theorem dX5_leapBetween_6 : decode cX5_leapBetween 6 = .ok (.istore_n 2, 1) := by decide +kernel
theorem dX5_leapBetween_7 : decode cX5_leapBetween 7 = .ok (.iload_n 2, 1) := by decide +kernel
theorem dX5_leapBetween_8 : decode cX5_leapBetween 8 = .ok (.bipush 12, 2) := by decide +kernel
theorem dX5_leapBetween_10 : decode cX5_leapBetween 10 = .ok (.iload_n 2, 1) := by decide +kernel
theorem dX5_leapBetween_11 : decode cX5_leapBetween 11 = .ok (.isub, 1) := by decide +kernel
theorem dX5_leapBetween_12 : decode cX5_leapBetween 12 = .ok (.invokestatic 29, 3) := by decide +kernel
theorem dX5_leapBetween_15 : decode cX5_leapBetween 15 = .ok (.ireturn, 1) := by decide +kernel
end
section
theorem dX6_init_0 : decode cX6_init 0 = .ok (.aload_n 0, 1) := by decide +kernel
theorem dX6_init_1 : decode cX6_init 1 = .ok (.invokespecial 1, 3) := by decide +kernel
theorem dX6_init_4 : decode cX6_init 4 = .ok (.aload_n 0, 1) := by decide +kernel
theorem dX6_init_5 : decode cX6_init 5 = .ok (.new 7, 3) := by decide +kernel
theorem dX6_init_8 : decode cX6_init 8 = .ok (.dup, 1) := by decide +kernel
theorem dX6_init_9 : decode cX6_init 9 = .ok (.invokespecial 9, 3) := by decide +kernel
theorem dX6_init_12 : decode cX6_init 12 = .ok (.putfield 10, 3) := by decide +kernel
theorem dX6_init_15 : decode cX6_init 15 = .ok (.aload_n 0, 1) := by decide +kernel
theorem dX6_init_16 : decode cX6_init 16 = .ok (.new 7, 3) := by decide +kernel
theorem dX6_init_19 : decode cX6_init 19 = .ok (.dup, 1) := by decide +kernel
theorem dX6_init_20 : decode cX6_init 20 = .ok (.invokespecial 9, 3) := by decide +kernel
theorem dX6_init_23 : decode cX6_init 23 = .ok (.putfield 16, 3) := by decide +kernel
theorem dX6_init_26 : decode cX6_init 26 = .ok (.aload_n 0, 1) := by decide +kernel
theorem dX6_init_27 : decode cX6_init 27 = .ok (.iconst 0, 1) := by decide +kernel
theorem dX6_init_28 : decode cX6_init 28 = .ok (.putfield 19, 3) := by decide +kernel
theorem dX6_init_31 : decode cX6_init 31 = .ok (.aload_n 0, 1) := by decide +kernel
theorem dX6_init_32 : decode cX6_init 32 = .ok (.new 7, 3) := by decide +kernel
theorem dX6_init_35 : decode cX6_init 35 = .ok (.dup, 1) := by decide +kernel
theorem dX6_init_36 : decode cX6_init 36 = .ok (.invokespecial 9, 3) := by decide +kernel
theorem dX6_init_39 : decode cX6_init 39 = .ok (.putfield 23, 3) := by decide +kernel
theorem dX6_init_42 : decode cX6_init 42 = .ok (.aload_n 0, 1) := by decide +kernel
theorem dX6_init_43 : decode cX6_init 43 = .ok (.new 26, 3) := by decide +kernel
theorem dX6_init_46 : decode cX6_init 46 = .ok (.dup, 1) := by decide +kernel
theorem dX6_init_47 : decode cX6_init 47 = .ok (.invokespecial 28, 3) := by decide +kernel
theorem dX6_init_50 : decode cX6_init 50 = .ok (.putfield 29, 3) := by decide +kernel
theorem dX6_init_53 : decode cX6_init 53 = .ok (.aload_n 0, 1) := by decide +kernel
theorem dX6_init_54 : decode cX6_init 54 = .ok (.new 33, 3) := by decide +kernel
theorem dX6_init_57 : decode cX6_init 57 = .ok (.dup, 1) := by decide +kernel
theorem dX6_init_58 : decode cX6_init 58 = .ok (.aload_n 0, 1) := by decide +kernel
theorem dX6_init_59 : decode cX6_init 59 = .ok (.getfield 29, 3) := by decide +kernel
theorem dX6_init_62 : decode cX6_init 62 = .ok (.invokespecial 35, 3) := by decide +kernel
theorem dX6_init_65 : decode cX6_init 65 = .ok (.putfield 38, 3) := by decide +kernel
theorem dX6_init_68 : decode cX6_init 68 = .ok (.aload_n 0, 1) := by decide +kernel
theorem dX6_init_69 : decode cX6_init 69 = .ok (.iconst 4, 1) := by decide +kernel
theorem dX6_init_70 : decode cX6_init 70 = .ok (.anewarray 42, 3) := by decide +kernel
theorem dX6_init_73 : decode cX6_init 73 = .ok (.putfield 44, 3) := by decide +kernel
theorem dX6_init_76 : decode cX6_init 76 = .ok (.iconst 0, 1) := by decide +kernel
theorem dX6_init_77 : decode cX6_init 77 = .ok (.istore_n 1, 1) := by decide +kernel
theorem dX6_init_78 : decode cX6_init 78 = .ok (.iload_n 1, 1) := by decide +kernel
theorem dX6_init_79 : decode cX6_init 79 = .ok (.iconst 4, 1) := by decide +kernel
theorem dX6_init_80 : decode cX6_init 80 = .ok (.if_icmp .ge 22, 3) := by decide +kernel
theorem dX6_init_83 : decode cX6_init 83 = .ok (.aload_n 0, 1) := by decide +kernel
theorem dX6_init_84 : decode cX6_init 84 = .ok (.getfield 44, 3) := by decide +kernel
theorem dX6_init_87 : decode cX6_init 87 = .ok (.iload_n 1, 1) := by decide +kernel
theorem dX6_init_88 : decode cX6_init 88 = .ok (.new 42, 3) := by decide +kernel
theorem dX6_init_91 : decode cX6_init 91 = .ok (.dup, 1) := by decide +kernel
theorem dX6_init_92 : decode cX6_init 92 = .ok (.invokespecial 48, 3) := by decide +kernel
theorem dX6_init_95 : decode cX6_init 95 = .ok (.aastore, 1) := by decide +kernel
theorem dX6_init_96 : decode cX6_init 96 = .ok (.iinc 1 1, 3) := by decide +kernel
theorem dX6_init_99 : decode cX6_init 99 = .ok (.goto (-21), 3) := by decide +kernel
theorem dX6_init_102 : decode cX6_init 102 = .ok (.aload_n 0, 1) := by decide +kernel
theorem dX6_init_103 : decode cX6_init 103 = .ok (.bipush 7, 2) := by decide +kernel
theorem dX6_init_105 : decode cX6_init 105 = .ok (.newarray .int, 2) := by decide +kernel
theorem dX6_init_107 : decode cX6_init 107 = .ok (.putfield 49, 3) := by decide +kernel
theorem dX6_init_110 : decode cX6_init 110 = .ok (.return_, 1) := by decide +kernel
theorem dX6_tune_0 : decode cX6_tune 0 = .ok (.iload_n 1, 1) := by decide +kernel
theorem dX6_tune_1 : decode cX6_tune 1 = .ok (.invokestatic 53, 3) := by decide +kernel
theorem dX6_tune_4 : decode cX6_tune 4 = .ok (.ifCond .eq 13, 3) := by decide +kernel
theorem dX6_tune_7 : decode cX6_tune 7 = .ok (.iload_n 2, 1) := by decide +kernel
theorem dX6_tune_8 : decode cX6_tune 8 = .ok (.iconst 0, 1) := by decide +kernel
theorem dX6_tune_9 : decode cX6_tune 9 = .ok (.bipush 12, 2) := by decide +kernel
theorem dX6_tune_11 : decode cX6_tune 11 = .ok (.invokestatic 57, 3) := by decide +kernel
theorem dX6_tune_14 : decode cX6_tune 14 = .ok (.ifCond .ne 10, 3) := by decide +kernel
theorem dX6_tune_17 : decode cX6_tune 17 = .ok (.aload_n 0, 1) := by decide +kernel
theorem dX6_tune_18 : decode cX6_tune 18 = .ok (.ldc 61, 2) := by decide +kernel
theorem dX6_tune_20 : decode cX6_tune 20 = .ok (.invokevirtual 62, 3) := by decide +kernel
theorem dX6_tune_23 : decode cX6_tune 23 = .ok (.ireturn, 1) := by decide +kernel
theorem dX6_tune_24 : decode cX6_tune 24 = .ok (.aload_n 0, 1) := by decide +kernel
theorem dX6_tune_25 : decode cX6_tune 25 = .ok (.getfield 10, 3) := by decide +kernel
theorem dX6_tune_28 : decode cX6_tune 28 = .ok (.iload_n 1, 1) := by decide +kernel
theorem dX6_tune_29 : decode cX6_tune 29 = .ok (.invokevirtual 66, 3) := by decide +kernel
theorem dX6_tune_32 : decode cX6_tune 32 = .ok (.astore 5, 2) := by decide +kernel
theorem dX6_tune_34 : decode cX6_tune 34 = .ok (.aload 5, 2) := by decide +kernel
theorem dX6_tune_36 : decode cX6_tune 36 = .ok (.getfield 70, 3) := by decide +kernel
theorem dX6_tune_39 : decode cX6_tune 39 = .ok (.istore 6, 2) := by decide +kernel
theorem dX6_tune_41 : decode cX6_tune 41 = .ok (.aload 5, 2) := by decide +kernel
theorem dX6_tune_43 : decode cX6_tune 43 = .ok (.invokevirtual 76, 3) := by decide +kernel
theorem dX6_tune_46 : decode cX6_tune 46 = .ok (.iconst 0, 1) := by decide +kernel
theorem dX6_tune_47 : decode cX6_tune 47 = .ok (.istore 7, 2) := by decide +kernel
theorem dX6_tune_49 : decode cX6_tune 49 = .ok (.iload 7, 2) := by decide +kernel
theorem dX6_tune_51 : decode cX6_tune 51 = .ok (.iload_n 2, 1) := by decide +kernel
theorem dX6_tune_52 : decode cX6_tune 52 = .ok (.if_icmp .ge 32, 3) := by decide +kernel
theorem dX6_tune_55 : decode cX6_tune 55 = .ok (.lload_n 3, 1) := by decide +kernel
theorem dX6_tune_56 : decode cX6_tune 56 = .ok (.iconst 4, 1) := by decide +kernel
theorem dX6_tune_57 : decode cX6_tune 57 = .ok (.iload 7, 2) := by decide +kernel
theorem dX6_tune_59 : decode cX6_tune 59 = .ok (.imul, 1) := by decide +kernel
theorem dX6_tune_60 : decode cX6_tune 60 = .ok (.lushr, 1) := by decide +kernel
theorem dX6_tune_61 : decode cX6_tune 61 = .ok (.ldc2_w 79, 3) := by decide +kernel
theorem dX6_tune_64 : decode cX6_tune 64 = .ok (.land, 1) := by decide +kernel
theorem dX6_tune_65 : decode cX6_tune 65 = .ok (.l2i, 1) := by decide +kernel
theorem dX6_tune_66 : decode cX6_tune 66 = .ok (.istore 8, 2) := by decide +kernel
theorem dX6_tune_68 : decode cX6_tune 68 = .ok (.aload 5, 2) := by decide +kernel
theorem dX6_tune_70 : decode cX6_tune 70 = .ok (.iload 8, 2) := by decide +kernel
theorem dX6_tune_72 : decode cX6_tune 72 = .ok (.bipush 12, 2) := by decide +kernel
theorem dX6_tune_74 : decode cX6_tune 74 = .ok (.irem, 1) := by decide +kernel
theorem dX6_tune_75 : decode cX6_tune 75 = .ok (.invokevirtual 81, 3) := by decide +kernel
theorem dX6_tune_78 : decode cX6_tune 78 = .ok (.iinc 7 1, 3) := by decide +kernel
theorem dX6_tune_81 : decode cX6_tune 81 = .ok (.goto (-32), 3) := by decide +kernel
theorem dX6_tune_84 : decode cX6_tune 84 = .ok (.iload 6, 2) := by decide +kernel
theorem dX6_tune_86 : decode cX6_tune 86 = .ok (.ireturn, 1) := by decide +kernel
theorem dX6_tone_0 : decode cX6_tone 0 = .ok (.iload_n 1, 1) := by decide +kernel
theorem dX6_tone_1 : decode cX6_tone 1 = .ok (.invokestatic 53, 3) := by decide +kernel
theorem dX6_tone_4 : decode cX6_tone 4 = .ok (.ifCond .eq 7, 3) := by decide +kernel
theorem dX6_tone_7 : decode cX6_tone 7 = .ok (.iload_n 2, 1) := by decide +kernel
theorem dX6_tone_8 : decode cX6_tone 8 = .ok (.ifCond .ge 10, 3) := by decide +kernel
theorem dX6_tone_11 : decode cX6_tone 11 = .ok (.aload_n 0, 1) := by decide +kernel
theorem dX6_tone_12 : decode cX6_tone 12 = .ok (.ldc 61, 2) := by decide +kernel
theorem dX6_tone_14 : decode cX6_tone 14 = .ok (.invokevirtual 62, 3) := by decide +kernel
theorem dX6_tone_17 : decode cX6_tone 17 = .ok (.ireturn, 1) := by decide +kernel
theorem dX6_tone_18 : decode cX6_tone 18 = .ok (.aload_n 0, 1) := by decide +kernel
theorem dX6_tone_19 : decode cX6_tone 19 = .ok (.aload_n 0, 1) := by decide +kernel
theorem dX6_tone_20 : decode cX6_tone 20 = .ok (.getfield 10, 3) := by decide +kernel
theorem dX6_tone_23 : decode cX6_tone 23 = .ok (.iload_n 1, 1) := by decide +kernel
theorem dX6_tone_24 : decode cX6_tone 24 = .ok (.invokevirtual 66, 3) := by decide +kernel
theorem dX6_tone_27 : decode cX6_tone 27 = .ok (.iload_n 2, 1) := by decide +kernel
theorem dX6_tone_28 : decode cX6_tone 28 = .ok (.invokevirtual 85, 3) := by decide +kernel
theorem dX6_tone_31 : decode cX6_tone 31 = .ok (.ireturn, 1) := by decide +kernel
theorem dX6_side_0 : decode cX6_side 0 = .ok (.iload_n 1, 1) := by decide +kernel
theorem dX6_side_1 : decode cX6_side 1 = .ok (.invokestatic 53, 3) := by decide +kernel
theorem dX6_side_4 : decode cX6_side 4 = .ok (.ifCond .ne 10, 3) := by decide +kernel
theorem dX6_side_7 : decode cX6_side 7 = .ok (.aload_n 0, 1) := by decide +kernel
theorem dX6_side_8 : decode cX6_side 8 = .ok (.ldc 61, 2) := by decide +kernel
theorem dX6_side_10 : decode cX6_side 10 = .ok (.invokevirtual 62, 3) := by decide +kernel
theorem dX6_side_13 : decode cX6_side 13 = .ok (.ireturn, 1) := by decide +kernel
theorem dX6_side_14 : decode cX6_side 14 = .ok (.aload_n 0, 1) := by decide +kernel
theorem dX6_side_15 : decode cX6_side 15 = .ok (.getfield 10, 3) := by decide +kernel
theorem dX6_side_18 : decode cX6_side 18 = .ok (.iload_n 1, 1) := by decide +kernel
theorem dX6_side_19 : decode cX6_side 19 = .ok (.invokevirtual 66, 3) := by decide +kernel
theorem dX6_side_22 : decode cX6_side 22 = .ok (.astore_n 3, 1) := by decide +kernel
theorem dX6_side_23 : decode cX6_side 23 = .ok (.iload_n 2, 1) := by decide +kernel
theorem dX6_side_24 : decode cX6_side 24 = .ok (.tableswitch 73 0 4 #[36, 41, 46, 59, 64], 36) := by decide +kernel
theorem dX6_side_60 : decode cX6_side 60 = .ok (.aload_n 3, 1) := by decide +kernel
theorem dX6_side_61 : decode cX6_side 61 = .ok (.getfield 70, 3) := by decide +kernel
theorem dX6_side_64 : decode cX6_side 64 = .ok (.ireturn, 1) := by decide +kernel
theorem dX6_side_65 : decode cX6_side 65 = .ok (.aload_n 3, 1) := by decide +kernel
theorem dX6_side_66 : decode cX6_side 66 = .ok (.invokevirtual 89, 3) := by decide +kernel
theorem dX6_side_69 : decode cX6_side 69 = .ok (.ireturn, 1) := by decide +kernel
theorem dX6_side_70 : decode cX6_side 70 = .ok (.aload_n 3, 1) := by decide +kernel
theorem dX6_side_71 : decode cX6_side 71 = .ok (.invokevirtual 93, 3) := by decide +kernel
theorem dX6_side_74 : decode cX6_side 74 = .ok (.ifCond .eq 7, 3) := by decide +kernel
theorem dX6_side_77 : decode cX6_side 77 = .ok (.iconst 1, 1) := by decide +kernel
theorem dX6_side_78 : decode cX6_side 78 = .ok (.goto 4, 3) := by decide +kernel
theorem dX6_side_81 : decode cX6_side 81 = .ok (.iconst 0, 1) := by decide +kernel
theorem dX6_side_82 : decode cX6_side 82 = .ok (.ireturn, 1) := by decide +kernel
theorem dX6_side_83 : decode cX6_side 83 = .ok (.aload_n 3, 1) := by decide +kernel
theorem dX6_side_84 : decode cX6_side 84 = .ok (.invokevirtual 97, 3) := by decide +kernel
theorem dX6_side_87 : decode cX6_side 87 = .ok (.ireturn, 1) := by decide +kernel
theorem dX6_side_88 : decode cX6_side 88 = .ok (.aload_n 0, 1) := by decide +kernel
theorem dX6_side_89 : decode cX6_side 89 = .ok (.getfield 10, 3) := by decide +kernel
theorem dX6_side_92 : decode cX6_side 92 = .ok (.iload_n 1, 1) := by decide +kernel
theorem dX6_side_93 : decode cX6_side 93 = .ok (.invokevirtual 100, 3) := by decide +kernel
theorem dX6_side_96 : decode cX6_side 96 = .ok (.ireturn, 1) := by decide +kernel
theorem dX6_side_97 : decode cX6_side 97 = .ok (.aload_n 0, 1) := by decide +kernel
theorem dX6_side_98 : decode cX6_side 98 = .ok (.ldc 61, 2) := by decide +kernel
theorem dX6_side_100 : decode cX6_side 100 = .ok (.invokevirtual 62, 3) := by decide +kernel
theorem dX6_side_103 : decode cX6_side 103 = .ok (.ireturn, 1) := by decide +kernel
theorem dX6_attache_0 : decode cX6_attache 0 = .ok (.iload_n 1, 1) := by decide +kernel
theorem dX6_attache_1 : decode cX6_attache 1 = .ok (.invokestatic 103, 3) := by decide +kernel
theorem dX6_attache_4 : decode cX6_attache 4 = .ok (.ifCond .eq 10, 3) := by decide +kernel
theorem dX6_attache_7 : decode cX6_attache 7 = .ok (.iload_n 2, 1) := by decide +kernel
theorem dX6_attache_8 : decode cX6_attache 8 = .ok (.invokestatic 53, 3) := by decide +kernel
theorem dX6_attache_11 : decode cX6_attache 11 = .ok (.ifCond .ne 10, 3) := by decide +kernel
theorem dX6_attache_14 : decode cX6_attache 14 = .ok (.aload_n 0, 1) := by decide +kernel
theorem dX6_attache_15 : decode cX6_attache 15 = .ok (.ldc 61, 2) := by decide +kernel
theorem dX6_attache_17 : decode cX6_attache 17 = .ok (.invokevirtual 62, 3) := by decide +kernel
theorem dX6_attache_20 : decode cX6_attache 20 = .ok (.ireturn, 1) := by decide +kernel
theorem dX6_attache_21 : decode cX6_attache 21 = .ok (.aload_n 0, 1) := by decide +kernel
theorem dX6_attache_22 : decode cX6_attache 22 = .ok (.getfield 10, 3) := by decide +kernel
theorem dX6_attache_25 : decode cX6_attache 25 = .ok (.invokevirtual 106, 3) := by decide +kernel
theorem dX6_attache_28 : decode cX6_attache 28 = .ok (.ifCond .eq 10, 3) := by decide +kernel
theorem dX6_attache_31 : decode cX6_attache 31 = .ok (.aload_n 0, 1) := by decide +kernel
theorem dX6_attache_32 : decode cX6_attache 32 = .ok (.ldc 109, 2) := by decide +kernel
theorem dX6_attache_34 : decode cX6_attache 34 = .ok (.invokevirtual 62, 3) := by decide +kernel
theorem dX6_attache_37 : decode cX6_attache 37 = .ok (.ireturn, 1) := by decide +kernel
theorem dX6_attache_38 : decode cX6_attache 38 = .ok (.aload_n 0, 1) := by decide +kernel
theorem dX6_attache_39 : decode cX6_attache 39 = .ok (.getfield 10, 3) := by decide +kernel
theorem dX6_attache_42 : decode cX6_attache 42 = .ok (.getfield 110, 3) := by decide +kernel
theorem dX6_attache_45 : decode cX6_attache 45 = .ok (.istore_n 3, 1) := by decide +kernel
theorem dX6_attache_46 : decode cX6_attache 46 = .ok (.aload_n 0, 1) := by decide +kernel
theorem dX6_attache_47 : decode cX6_attache 47 = .ok (.getfield 10, 3) := by decide +kernel
theorem dX6_attache_50 : decode cX6_attache 50 = .ok (.iload_n 1, 1) := by decide +kernel
theorem dX6_attache_51 : decode cX6_attache 51 = .ok (.iload_n 2, 1) := by decide +kernel
theorem dX6_attache_52 : decode cX6_attache 52 = .ok (.iconst 0, 1) := by decide +kernel
theorem dX6_attache_53 : decode cX6_attache 53 = .ok (.iconst 0, 1) := by decide +kernel
theorem dX6_attache_54 : decode cX6_attache 54 = .ok (.invokevirtual 113, 3) := by decide +kernel
theorem dX6_attache_57 : decode cX6_attache 57 = .ok (.iload_n 3, 1) := by decide +kernel
theorem dX6_attache_58 : decode cX6_attache 58 = .ok (.ireturn, 1) := by decide +kernel
theorem dX6_of_0 : decode cX6_of 0 = .ok (.aload_n 0, 1) := by decide +kernel
theorem dX6_of_1 : decode cX6_of 1 = .ok (.getfield 10, 3) := by decide +kernel
theorem dX6_of_4 : decode cX6_of 4 = .ok (.iload_n 1, 1) := by decide +kernel
theorem dX6_of_5 : decode cX6_of 5 = .ok (.invokevirtual 117, 3) := by decide +kernel
theorem dX6_of_8 : decode cX6_of 8 = .ok (.ifCond .ne 10, 3) := by decide +kernel
theorem dX6_of_11 : decode cX6_of 11 = .ok (.aload_n 0, 1) := by decide +kernel
theorem dX6_of_12 : decode cX6_of 12 = .ok (.ldc 61, 2) := by decide +kernel
theorem dX6_of_14 : decode cX6_of 14 = .ok (.invokevirtual 62, 3) := by decide +kernel
theorem dX6_of_17 : decode cX6_of 17 = .ok (.ireturn, 1) := by decide +kernel
theorem dX6_of_18 : decode cX6_of 18 = .ok (.aload_n 0, 1) := by decide +kernel
theorem dX6_of_19 : decode cX6_of 19 = .ok (.getfield 10, 3) := by decide +kernel
theorem dX6_of_22 : decode cX6_of 22 = .ok (.getfield 120, 3) := by decide +kernel
theorem dX6_of_25 : decode cX6_of 25 = .ok (.iload_n 1, 1) := by decide +kernel
theorem dX6_of_26 : decode cX6_of 26 = .ok (.aaload, 1) := by decide +kernel
theorem dX6_of_27 : decode cX6_of 27 = .ok (.astore_n 3, 1) := by decide +kernel
theorem dX6_of_28 : decode cX6_of 28 = .ok (.iload_n 2, 1) := by decide +kernel
theorem dX6_of_29 : decode cX6_of 29 = .ok (.tableswitch 77 0 5 #[39, 44, 49, 54, 59, 64], 39) := by decide +kernel
theorem dX6_of_68 : decode cX6_of 68 = .ok (.aload_n 3, 1) := by decide +kernel
theorem dX6_of_69 : decode cX6_of 69 = .ok (.getfield 124, 3) := by decide +kernel
theorem dX6_of_72 : decode cX6_of 72 = .ok (.ireturn, 1) := by decide +kernel
theorem dX6_of_73 : decode cX6_of 73 = .ok (.aload_n 3, 1) := by decide +kernel
theorem dX6_of_74 : decode cX6_of 74 = .ok (.getfield 129, 3) := by decide +kernel
theorem dX6_of_77 : decode cX6_of 77 = .ok (.ireturn, 1) := by decide +kernel
theorem dX6_of_78 : decode cX6_of 78 = .ok (.aload_n 3, 1) := by decide +kernel
theorem dX6_of_79 : decode cX6_of 79 = .ok (.getfield 132, 3) := by decide +kernel
theorem dX6_of_82 : decode cX6_of 82 = .ok (.ireturn, 1) := by decide +kernel
theorem dX6_of_83 : decode cX6_of 83 = .ok (.aload_n 3, 1) := by decide +kernel
theorem dX6_of_84 : decode cX6_of 84 = .ok (.getfield 135, 3) := by decide +kernel
theorem dX6_of_87 : decode cX6_of 87 = .ok (.ireturn, 1) := by decide +kernel
theorem dX6_of_88 : decode cX6_of 88 = .ok (.aload_n 3, 1) := by decide +kernel
theorem dX6_of_89 : decode cX6_of 89 = .ok (.getfield 138, 3) := by decide +kernel
theorem dX6_of_92 : decode cX6_of 92 = .ok (.ireturn, 1) := by decide +kernel
theorem dX6_of_93 : decode cX6_of 93 = .ok (.aload_n 3, 1) := by decide +kernel
theorem dX6_of_94 : decode cX6_of 94 = .ok (.aload_n 0, 1) := by decide +kernel
theorem dX6_of_95 : decode cX6_of 95 = .ok (.getfield 10, 3) := by decide +kernel
theorem dX6_of_98 : decode cX6_of 98 = .ok (.aload_n 3, 1) := by decide +kernel
theorem dX6_of_99 : decode cX6_of 99 = .ok (.invokevirtual 141, 3) := by decide +kernel
theorem dX6_of_102 : decode cX6_of 102 = .ok (.invokevirtual 145, 3) := by decide +kernel
theorem dX6_of_105 : decode cX6_of 105 = .ok (.ireturn, 1) := by decide +kernel
theorem dX6_of_106 : decode cX6_of 106 = .ok (.aload_n 0, 1) := by decide +kernel
theorem dX6_of_107 : decode cX6_of 107 = .ok (.ldc 61, 2) := by decide +kernel
theorem dX6_of_109 : decode cX6_of 109 = .ok (.invokevirtual 62, 3) := by decide +kernel
theorem dX6_of_112 : decode cX6_of 112 = .ok (.ireturn, 1) := by decide +kernel
theorem dX6_answer_0 : decode cX6_answer 0 = .ok (.aload_n 0, 1) := by decide +kernel
theorem dX6_answer_1 : decode cX6_answer 1 = .ok (.getfield 10, 3) := by decide +kernel
theorem dX6_answer_4 : decode cX6_answer 4 = .ok (.iload_n 1, 1) := by decide +kernel
theorem dX6_answer_5 : decode cX6_answer 5 = .ok (.invokevirtual 117, 3) := by decide +kernel
theorem dX6_answer_8 : decode cX6_answer 8 = .ok (.ifCond .eq 7, 3) := by decide +kernel
theorem dX6_answer_11 : decode cX6_answer 11 = .ok (.iload_n 2, 1) := by decide +kernel
theorem dX6_answer_12 : decode cX6_answer 12 = .ok (.ifCond .ge 10, 3) := by decide +kernel
theorem dX6_answer_15 : decode cX6_answer 15 = .ok (.aload_n 0, 1) := by decide +kernel
theorem dX6_answer_16 : decode cX6_answer 16 = .ok (.ldc 61, 2) := by decide +kernel
theorem dX6_answer_18 : decode cX6_answer 18 = .ok (.invokevirtual 62, 3) := by decide +kernel
theorem dX6_answer_21 : decode cX6_answer 21 = .ok (.ireturn, 1) := by decide +kernel
theorem dX6_answer_22 : decode cX6_answer 22 = .ok (.aload_n 0, 1) := by decide +kernel
theorem dX6_answer_23 : decode cX6_answer 23 = .ok (.getfield 10, 3) := by decide +kernel
theorem dX6_answer_26 : decode cX6_answer 26 = .ok (.getfield 120, 3) := by decide +kernel
theorem dX6_answer_29 : decode cX6_answer 29 = .ok (.iload_n 1, 1) := by decide +kernel
theorem dX6_answer_30 : decode cX6_answer 30 = .ok (.aaload, 1) := by decide +kernel
theorem dX6_answer_31 : decode cX6_answer 31 = .ok (.astore_n 3, 1) := by decide +kernel
theorem dX6_answer_32 : decode cX6_answer 32 = .ok (.aload_n 0, 1) := by decide +kernel
theorem dX6_answer_33 : decode cX6_answer 33 = .ok (.getfield 10, 3) := by decide +kernel
theorem dX6_answer_36 : decode cX6_answer 36 = .ok (.aload_n 3, 1) := by decide +kernel
theorem dX6_answer_37 : decode cX6_answer 37 = .ok (.invokevirtual 141, 3) := by decide +kernel
theorem dX6_answer_40 : decode cX6_answer 40 = .ok (.astore 4, 2) := by decide +kernel
theorem dX6_answer_42 : decode cX6_answer 42 = .ok (.iload_n 2, 1) := by decide +kernel
theorem dX6_answer_43 : decode cX6_answer 43 = .ok (.aload_n 3, 1) := by decide +kernel
theorem dX6_answer_44 : decode cX6_answer 44 = .ok (.aload 4, 2) := by decide +kernel
theorem dX6_answer_46 : decode cX6_answer 46 = .ok (.invokevirtual 145, 3) := by decide +kernel
theorem dX6_answer_49 : decode cX6_answer 49 = .ok (.if_icmp .lt 10, 3) := by decide +kernel
theorem dX6_answer_52 : decode cX6_answer 52 = .ok (.aload_n 0, 1) := by decide +kernel
theorem dX6_answer_53 : decode cX6_answer 53 = .ok (.ldc 149, 2) := by decide +kernel
theorem dX6_answer_55 : decode cX6_answer 55 = .ok (.invokevirtual 62, 3) := by decide +kernel
theorem dX6_answer_58 : decode cX6_answer 58 = .ok (.ireturn, 1) := by decide +kernel
theorem dX6_answer_59 : decode cX6_answer 59 = .ok (.aload_n 3, 1) := by decide +kernel
theorem dX6_answer_60 : decode cX6_answer 60 = .ok (.aload 4, 2) := by decide +kernel
theorem dX6_answer_62 : decode cX6_answer 62 = .ok (.iload_n 2, 1) := by decide +kernel
theorem dX6_answer_63 : decode cX6_answer 63 = .ok (.invokevirtual 150, 3) := by decide +kernel
theorem dX6_answer_66 : decode cX6_answer 66 = .ok (.ireturn, 1) := by decide +kernel
theorem dX6_set_0 : decode cX6_set 0 = .ok (.aload_n 0, 1) := by decide +kernel
theorem dX6_set_1 : decode cX6_set 1 = .ok (.getfield 10, 3) := by decide +kernel
theorem dX6_set_4 : decode cX6_set 4 = .ok (.iload_n 1, 1) := by decide +kernel
theorem dX6_set_5 : decode cX6_set 5 = .ok (.invokevirtual 117, 3) := by decide +kernel
theorem dX6_set_8 : decode cX6_set 8 = .ok (.ifCond .eq 15, 3) := by decide +kernel
theorem dX6_set_11 : decode cX6_set 11 = .ok (.iload_n 3, 1) := by decide +kernel
theorem dX6_set_12 : decode cX6_set 12 = .ok (.iconst 0, 1) := by decide +kernel
theorem dX6_set_13 : decode cX6_set 13 = .ok (.iload_n 2, 1) := by decide +kernel
theorem dX6_set_14 : decode cX6_set 14 = .ok (.invokestatic 153, 3) := by decide +kernel
theorem dX6_set_17 : decode cX6_set 17 = .ok (.invokestatic 57, 3) := by decide +kernel
theorem dX6_set_20 : decode cX6_set 20 = .ok (.ifCond .ne 10, 3) := by decide +kernel
theorem dX6_set_23 : decode cX6_set 23 = .ok (.aload_n 0, 1) := by decide +kernel
theorem dX6_set_24 : decode cX6_set 24 = .ok (.ldc 61, 2) := by decide +kernel
theorem dX6_set_26 : decode cX6_set 26 = .ok (.invokevirtual 62, 3) := by decide +kernel
theorem dX6_set_29 : decode cX6_set 29 = .ok (.ireturn, 1) := by decide +kernel
theorem dX6_set_30 : decode cX6_set 30 = .ok (.aload_n 0, 1) := by decide +kernel
theorem dX6_set_31 : decode cX6_set 31 = .ok (.getfield 10, 3) := by decide +kernel
theorem dX6_set_34 : decode cX6_set 34 = .ok (.getfield 120, 3) := by decide +kernel
theorem dX6_set_37 : decode cX6_set 37 = .ok (.iload_n 1, 1) := by decide +kernel
theorem dX6_set_38 : decode cX6_set 38 = .ok (.aaload, 1) := by decide +kernel
theorem dX6_set_39 : decode cX6_set 39 = .ok (.astore 4, 2) := by decide +kernel
theorem dX6_set_41 : decode cX6_set 41 = .ok (.iload_n 2, 1) := by decide +kernel
theorem dX6_set_42 : decode cX6_set 42 = .ok (.tableswitch 74 1 3 #[26, 42, 58], 26) := by decide +kernel
theorem dX6_set_68 : decode cX6_set 68 = .ok (.aload 4, 2) := by decide +kernel
theorem dX6_set_70 : decode cX6_set 70 = .ok (.getfield 129, 3) := by decide +kernel
theorem dX6_set_73 : decode cX6_set 73 = .ok (.istore 5, 2) := by decide +kernel
theorem dX6_set_75 : decode cX6_set 75 = .ok (.aload 4, 2) := by decide +kernel
theorem dX6_set_77 : decode cX6_set 77 = .ok (.iload_n 3, 1) := by decide +kernel
theorem dX6_set_78 : decode cX6_set 78 = .ok (.putfield 129, 3) := by decide +kernel
theorem dX6_set_81 : decode cX6_set 81 = .ok (.iload 5, 2) := by decide +kernel
theorem dX6_set_83 : decode cX6_set 83 = .ok (.ireturn, 1) := by decide +kernel
theorem dX6_set_84 : decode cX6_set 84 = .ok (.aload 4, 2) := by decide +kernel
theorem dX6_set_86 : decode cX6_set 86 = .ok (.getfield 132, 3) := by decide +kernel
theorem dX6_set_89 : decode cX6_set 89 = .ok (.istore 5, 2) := by decide +kernel
theorem dX6_set_91 : decode cX6_set 91 = .ok (.aload 4, 2) := by decide +kernel
theorem dX6_set_93 : decode cX6_set 93 = .ok (.iload_n 3, 1) := by decide +kernel
theorem dX6_set_94 : decode cX6_set 94 = .ok (.putfield 132, 3) := by decide +kernel
theorem dX6_set_97 : decode cX6_set 97 = .ok (.iload 5, 2) := by decide +kernel
theorem dX6_set_99 : decode cX6_set 99 = .ok (.ireturn, 1) := by decide +kernel
theorem dX6_set_100 : decode cX6_set 100 = .ok (.aload 4, 2) := by decide +kernel
theorem dX6_set_102 : decode cX6_set 102 = .ok (.getfield 135, 3) := by decide +kernel
theorem dX6_set_105 : decode cX6_set 105 = .ok (.istore 5, 2) := by decide +kernel
theorem dX6_set_107 : decode cX6_set 107 = .ok (.aload 4, 2) := by decide +kernel
theorem dX6_set_109 : decode cX6_set 109 = .ok (.iload_n 3, 1) := by decide +kernel
theorem dX6_set_110 : decode cX6_set 110 = .ok (.putfield 135, 3) := by decide +kernel
theorem dX6_set_113 : decode cX6_set 113 = .ok (.iload 5, 2) := by decide +kernel
theorem dX6_set_115 : decode cX6_set 115 = .ok (.ireturn, 1) := by decide +kernel
theorem dX6_set_116 : decode cX6_set 116 = .ok (.aload 4, 2) := by decide +kernel
theorem dX6_set_118 : decode cX6_set 118 = .ok (.getfield 138, 3) := by decide +kernel
theorem dX6_set_121 : decode cX6_set 121 = .ok (.istore 5, 2) := by decide +kernel
theorem dX6_set_123 : decode cX6_set 123 = .ok (.aload 4, 2) := by decide +kernel
theorem dX6_set_125 : decode cX6_set 125 = .ok (.iload_n 3, 1) := by decide +kernel
theorem dX6_set_126 : decode cX6_set 126 = .ok (.putfield 138, 3) := by decide +kernel
theorem dX6_set_129 : decode cX6_set 129 = .ok (.iload 5, 2) := by decide +kernel
theorem dX6_set_131 : decode cX6_set 131 = .ok (.ireturn, 1) := by decide +kernel
theorem dX6_turn_0 : decode cX6_turn 0 = .ok (.aload_n 0, 1) := by decide +kernel
theorem dX6_turn_1 : decode cX6_turn 1 = .ok (.getfield 10, 3) := by decide +kernel
theorem dX6_turn_4 : decode cX6_turn 4 = .ok (.iload_n 1, 1) := by decide +kernel
theorem dX6_turn_5 : decode cX6_turn 5 = .ok (.invokevirtual 117, 3) := by decide +kernel
theorem dX6_turn_8 : decode cX6_turn 8 = .ok (.ifCond .eq 10, 3) := by decide +kernel
theorem dX6_turn_11 : decode cX6_turn 11 = .ok (.iload_n 2, 1) := by decide +kernel
theorem dX6_turn_12 : decode cX6_turn 12 = .ok (.invokestatic 103, 3) := by decide +kernel
theorem dX6_turn_15 : decode cX6_turn 15 = .ok (.ifCond .ne 10, 3) := by decide +kernel
theorem dX6_turn_18 : decode cX6_turn 18 = .ok (.aload_n 0, 1) := by decide +kernel
theorem dX6_turn_19 : decode cX6_turn 19 = .ok (.ldc 61, 2) := by decide +kernel
theorem dX6_turn_21 : decode cX6_turn 21 = .ok (.invokevirtual 62, 3) := by decide +kernel
theorem dX6_turn_24 : decode cX6_turn 24 = .ok (.ireturn, 1) := by decide +kernel
theorem dX6_turn_25 : decode cX6_turn 25 = .ok (.aload_n 0, 1) := by decide +kernel
theorem dX6_turn_26 : decode cX6_turn 26 = .ok (.getfield 10, 3) := by decide +kernel
theorem dX6_turn_29 : decode cX6_turn 29 = .ok (.getfield 120, 3) := by decide +kernel
theorem dX6_turn_32 : decode cX6_turn 32 = .ok (.iload_n 1, 1) := by decide +kernel
theorem dX6_turn_33 : decode cX6_turn 33 = .ok (.aaload, 1) := by decide +kernel
theorem dX6_turn_34 : decode cX6_turn 34 = .ok (.astore_n 3, 1) := by decide +kernel
theorem dX6_turn_35 : decode cX6_turn 35 = .ok (.aload_n 3, 1) := by decide +kernel
theorem dX6_turn_36 : decode cX6_turn 36 = .ok (.getfield 124, 3) := by decide +kernel
theorem dX6_turn_39 : decode cX6_turn 39 = .ok (.istore 4, 2) := by decide +kernel
theorem dX6_turn_41 : decode cX6_turn 41 = .ok (.aload_n 3, 1) := by decide +kernel
theorem dX6_turn_42 : decode cX6_turn 42 = .ok (.iload_n 2, 1) := by decide +kernel
theorem dX6_turn_43 : decode cX6_turn 43 = .ok (.putfield 124, 3) := by decide +kernel
theorem dX6_turn_46 : decode cX6_turn 46 = .ok (.iload 4, 2) := by decide +kernel
theorem dX6_turn_48 : decode cX6_turn 48 = .ok (.ireturn, 1) := by decide +kernel
theorem dX6_as_0 : decode cX6_as 0 = .ok (.aload_n 0, 1) := by decide +kernel
theorem dX6_as_1 : decode cX6_as 1 = .ok (.getfield 10, 3) := by decide +kernel
theorem dX6_as_4 : decode cX6_as 4 = .ok (.iload_n 1, 1) := by decide +kernel
theorem dX6_as_5 : decode cX6_as 5 = .ok (.invokevirtual 117, 3) := by decide +kernel
theorem dX6_as_8 : decode cX6_as 8 = .ok (.ifCond .eq 10, 3) := by decide +kernel
theorem dX6_as_11 : decode cX6_as 11 = .ok (.iload_n 2, 1) := by decide +kernel
theorem dX6_as_12 : decode cX6_as 12 = .ok (.invokestatic 103, 3) := by decide +kernel
theorem dX6_as_15 : decode cX6_as 15 = .ok (.ifCond .ne 10, 3) := by decide +kernel
theorem dX6_as_18 : decode cX6_as 18 = .ok (.aload_n 0, 1) := by decide +kernel
theorem dX6_as_19 : decode cX6_as 19 = .ok (.ldc 61, 2) := by decide +kernel
theorem dX6_as_21 : decode cX6_as 21 = .ok (.invokevirtual 62, 3) := by decide +kernel
theorem dX6_as_24 : decode cX6_as 24 = .ok (.ireturn, 1) := by decide +kernel
theorem dX6_as_25 : decode cX6_as 25 = .ok (.aload_n 0, 1) := by decide +kernel
theorem dX6_as_26 : decode cX6_as 26 = .ok (.getfield 10, 3) := by decide +kernel
theorem dX6_as_29 : decode cX6_as 29 = .ok (.getfield 120, 3) := by decide +kernel
theorem dX6_as_32 : decode cX6_as 32 = .ok (.iload_n 1, 1) := by decide +kernel
theorem dX6_as_33 : decode cX6_as 33 = .ok (.aaload, 1) := by decide +kernel
theorem dX6_as_34 : decode cX6_as 34 = .ok (.astore_n 3, 1) := by decide +kernel
theorem dX6_as_35 : decode cX6_as 35 = .ok (.aload_n 3, 1) := by decide +kernel
theorem dX6_as_36 : decode cX6_as 36 = .ok (.getfield 124, 3) := by decide +kernel
theorem dX6_as_39 : decode cX6_as 39 = .ok (.iload_n 2, 1) := by decide +kernel
theorem dX6_as_40 : decode cX6_as 40 = .ok (.invokestatic 156, 3) := by decide +kernel
theorem dX6_as_43 : decode cX6_as 43 = .ok (.ifCond .ne 10, 3) := by decide +kernel
theorem dX6_as_46 : decode cX6_as 46 = .ok (.aload_n 0, 1) := by decide +kernel
theorem dX6_as_47 : decode cX6_as 47 = .ok (.ldc 160, 2) := by decide +kernel
theorem dX6_as_49 : decode cX6_as 49 = .ok (.invokevirtual 62, 3) := by decide +kernel
theorem dX6_as_52 : decode cX6_as 52 = .ok (.ireturn, 1) := by decide +kernel
theorem dX6_as_53 : decode cX6_as 53 = .ok (.aload_n 3, 1) := by decide +kernel
theorem dX6_as_54 : decode cX6_as 54 = .ok (.getfield 132, 3) := by decide +kernel
theorem dX6_as_57 : decode cX6_as 57 = .ok (.ireturn, 1) := by decide +kernel
theorem dX6_days_0 : decode cX6_days 0 = .ok (.iload_n 1, 1) := by decide +kernel
theorem dX6_days_1 : decode cX6_days 1 = .ok (.iconst 1, 1) := by decide +kernel
theorem dX6_days_2 : decode cX6_days 2 = .ok (.bipush 60, 2) := by decide +kernel
theorem dX6_days_4 : decode cX6_days 4 = .ok (.invokestatic 57, 3) := by decide +kernel
theorem dX6_days_7 : decode cX6_days 7 = .ok (.ifCond .ne 10, 3) := by decide +kernel
theorem dX6_days_10 : decode cX6_days 10 = .ok (.aload_n 0, 1) := by decide +kernel
theorem dX6_days_11 : decode cX6_days 11 = .ok (.ldc 61, 2) := by decide +kernel
theorem dX6_days_13 : decode cX6_days 13 = .ok (.invokevirtual 62, 3) := by decide +kernel
theorem dX6_days_16 : decode cX6_days 16 = .ok (.ireturn, 1) := by decide +kernel
theorem dX6_days_17 : decode cX6_days 17 = .ok (.aload_n 0, 1) := by decide +kernel
theorem dX6_days_18 : decode cX6_days 18 = .ok (.getfield 10, 3) := by decide +kernel
theorem dX6_days_21 : decode cX6_days 21 = .ok (.getfield 161, 3) := by decide +kernel
theorem dX6_days_24 : decode cX6_days 24 = .ok (.iload_n 1, 1) := by decide +kernel
theorem dX6_days_25 : decode cX6_days 25 = .ok (.iadd, 1) := by decide +kernel
theorem dX6_days_26 : decode cX6_days 26 = .ok (.sipush 9999, 3) := by decide +kernel
theorem dX6_days_29 : decode cX6_days 29 = .ok (.if_icmp .le 10, 3) := by decide +kernel
theorem dX6_days_32 : decode cX6_days 32 = .ok (.aload_n 0, 1) := by decide +kernel
theorem dX6_days_33 : decode cX6_days 33 = .ok (.ldc 164, 2) := by decide +kernel
theorem dX6_days_35 : decode cX6_days 35 = .ok (.invokevirtual 62, 3) := by decide +kernel
theorem dX6_days_38 : decode cX6_days 38 = .ok (.ireturn, 1) := by decide +kernel
theorem dX6_days_39 : decode cX6_days 39 = .ok (.aload_n 0, 1) := by decide +kernel
theorem dX6_days_40 : decode cX6_days 40 = .ok (.getfield 10, 3) := by decide +kernel
theorem dX6_days_43 : decode cX6_days 43 = .ok (.iload_n 1, 1) := by decide +kernel
theorem dX6_days_44 : decode cX6_days 44 = .ok (.invokevirtual 165, 3) := by decide +kernel
theorem dX6_days_47 : decode cX6_days 47 = .ok (.aload_n 0, 1) := by decide +kernel
theorem dX6_days_48 : decode cX6_days 48 = .ok (.getfield 10, 3) := by decide +kernel
theorem dX6_days_51 : decode cX6_days 51 = .ok (.iconst 0, 1) := by decide +kernel
theorem dX6_days_52 : decode cX6_days 52 = .ok (.invokevirtual 66, 3) := by decide +kernel
theorem dX6_days_55 : decode cX6_days 55 = .ok (.invokevirtual 89, 3) := by decide +kernel
theorem dX6_days_58 : decode cX6_days 58 = .ok (.aload_n 0, 1) := by decide +kernel
theorem dX6_days_59 : decode cX6_days 59 = .ok (.getfield 10, 3) := by decide +kernel
theorem dX6_days_62 : decode cX6_days 62 = .ok (.iconst 1, 1) := by decide +kernel
theorem dX6_days_63 : decode cX6_days 63 = .ok (.invokevirtual 66, 3) := by decide +kernel
theorem dX6_days_66 : decode cX6_days 66 = .ok (.invokevirtual 89, 3) := by decide +kernel
theorem dX6_days_69 : decode cX6_days 69 = .ok (.iadd, 1) := by decide +kernel
theorem dX6_days_70 : decode cX6_days 70 = .ok (.ireturn, 1) := by decide +kernel
theorem dX6_now_0 : decode cX6_now 0 = .ok (.iload_n 1, 1) := by decide +kernel
theorem dX6_now_1 : decode cX6_now 1 = .ok (.tableswitch 107 0 5 #[39, 47, 55, 63, 71, 87], 39) := by decide +kernel
theorem dX6_now_40 : decode cX6_now 40 = .ok (.aload_n 0, 1) := by decide +kernel
theorem dX6_now_41 : decode cX6_now 41 = .ok (.getfield 10, 3) := by decide +kernel
theorem dX6_now_44 : decode cX6_now 44 = .ok (.getfield 161, 3) := by decide +kernel
theorem dX6_now_47 : decode cX6_now 47 = .ok (.ireturn, 1) := by decide +kernel
theorem dX6_now_48 : decode cX6_now 48 = .ok (.aload_n 0, 1) := by decide +kernel
theorem dX6_now_49 : decode cX6_now 49 = .ok (.getfield 10, 3) := by decide +kernel
theorem dX6_now_52 : decode cX6_now 52 = .ok (.invokevirtual 168, 3) := by decide +kernel
theorem dX6_now_55 : decode cX6_now 55 = .ok (.ireturn, 1) := by decide +kernel
theorem dX6_now_56 : decode cX6_now 56 = .ok (.aload_n 0, 1) := by decide +kernel
theorem dX6_now_57 : decode cX6_now 57 = .ok (.getfield 10, 3) := by decide +kernel
theorem dX6_now_60 : decode cX6_now 60 = .ok (.invokevirtual 171, 3) := by decide +kernel
theorem dX6_now_63 : decode cX6_now 63 = .ok (.ireturn, 1) := by decide +kernel
theorem dX6_now_64 : decode cX6_now 64 = .ok (.aload_n 0, 1) := by decide +kernel
theorem dX6_now_65 : decode cX6_now 65 = .ok (.getfield 10, 3) := by decide +kernel
theorem dX6_now_68 : decode cX6_now 68 = .ok (.invokevirtual 174, 3) := by decide +kernel
theorem dX6_now_71 : decode cX6_now 71 = .ok (.ireturn, 1) := by decide +kernel
theorem dX6_now_72 : decode cX6_now 72 = .ok (.aload_n 0, 1) := by decide +kernel
theorem dX6_now_73 : decode cX6_now 73 = .ok (.getfield 10, 3) := by decide +kernel
theorem dX6_now_76 : decode cX6_now 76 = .ok (.invokevirtual 177, 3) := by decide +kernel
theorem dX6_now_79 : decode cX6_now 79 = .ok (.ifCond .eq 7, 3) := by decide +kernel
theorem dX6_now_82 : decode cX6_now 82 = .ok (.iconst 1, 1) := by decide +kernel
theorem dX6_now_83 : decode cX6_now 83 = .ok (.goto 4, 3) := by decide +kernel
theorem dX6_now_86 : decode cX6_now 86 = .ok (.iconst 0, 1) := by decide +kernel
theorem dX6_now_87 : decode cX6_now 87 = .ok (.ireturn, 1) := by decide +kernel
theorem dX6_now_88 : decode cX6_now 88 = .ok (.aload_n 0, 1) := by decide +kernel
theorem dX6_now_89 : decode cX6_now 89 = .ok (.getfield 10, 3) := by decide +kernel
theorem dX6_now_92 : decode cX6_now 92 = .ok (.iconst 0, 1) := by decide +kernel
theorem dX6_now_93 : decode cX6_now 93 = .ok (.invokevirtual 66, 3) := by decide +kernel
theorem dX6_now_96 : decode cX6_now 96 = .ok (.aload_n 0, 1) := by decide +kernel
theorem dX6_now_97 : decode cX6_now 97 = .ok (.getfield 10, 3) := by decide +kernel
theorem dX6_now_100 : decode cX6_now 100 = .ok (.iconst 1, 1) := by decide +kernel
theorem dX6_now_101 : decode cX6_now 101 = .ok (.invokevirtual 66, 3) := by decide +kernel
theorem dX6_now_104 : decode cX6_now 104 = .ok (.invokevirtual 180, 3) := by decide +kernel
theorem dX6_now_107 : decode cX6_now 107 = .ok (.ireturn, 1) := by decide +kernel
theorem dX6_now_108 : decode cX6_now 108 = .ok (.aload_n 0, 1) := by decide +kernel
theorem dX6_now_109 : decode cX6_now 109 = .ok (.ldc 61, 2) := by decide +kernel
theorem dX6_now_111 : decode cX6_now 111 = .ok (.invokevirtual 62, 3) := by decide +kernel
theorem dX6_now_114 : decode cX6_now 114 = .ok (.ireturn, 1) := by decide +kernel
theorem dX6_on_0 : decode cX6_on 0 = .ok (.iload_n 1, 1) := by decide +kernel
theorem dX6_on_1 : decode cX6_on 1 = .ok (.invokestatic 53, 3) := by decide +kernel
theorem dX6_on_4 : decode cX6_on 4 = .ok (.ifCond .eq 23, 3) := by decide +kernel
theorem dX6_on_7 : decode cX6_on 7 = .ok (.iload_n 2, 1) := by decide +kernel
theorem dX6_on_8 : decode cX6_on 8 = .ok (.iconst 0, 1) := by decide +kernel
theorem dX6_on_9 : decode cX6_on 9 = .ok (.bipush 11, 2) := by decide +kernel
theorem dX6_on_11 : decode cX6_on 11 = .ok (.invokestatic 57, 3) := by decide +kernel
theorem dX6_on_14 : decode cX6_on 14 = .ok (.ifCond .eq 13, 3) := by decide +kernel
theorem dX6_on_17 : decode cX6_on 17 = .ok (.iload_n 3, 1) := by decide +kernel
theorem dX6_on_18 : decode cX6_on 18 = .ok (.iconst 0, 1) := by decide +kernel
theorem dX6_on_19 : decode cX6_on 19 = .ok (.bipush 60, 2) := by decide +kernel
theorem dX6_on_21 : decode cX6_on 21 = .ok (.invokestatic 57, 3) := by decide +kernel
theorem dX6_on_24 : decode cX6_on 24 = .ok (.ifCond .ne 10, 3) := by decide +kernel
theorem dX6_on_27 : decode cX6_on 27 = .ok (.aload_n 0, 1) := by decide +kernel
theorem dX6_on_28 : decode cX6_on 28 = .ok (.ldc 61, 2) := by decide +kernel
theorem dX6_on_30 : decode cX6_on 30 = .ok (.invokevirtual 62, 3) := by decide +kernel
theorem dX6_on_33 : decode cX6_on 33 = .ok (.ireturn, 1) := by decide +kernel
theorem dX6_on_34 : decode cX6_on 34 = .ok (.aload_n 0, 1) := by decide +kernel
theorem dX6_on_35 : decode cX6_on 35 = .ok (.invokevirtual 183, 3) := by decide +kernel
theorem dX6_on_38 : decode cX6_on 38 = .ok (.aload_n 0, 1) := by decide +kernel
theorem dX6_on_39 : decode cX6_on 39 = .ok (.getfield 23, 3) := by decide +kernel
theorem dX6_on_42 : decode cX6_on 42 = .ok (.iload_n 3, 1) := by decide +kernel
theorem dX6_on_43 : decode cX6_on 43 = .ok (.invokevirtual 165, 3) := by decide +kernel
theorem dX6_on_46 : decode cX6_on 46 = .ok (.aload_n 0, 1) := by decide +kernel
theorem dX6_on_47 : decode cX6_on 47 = .ok (.aload_n 0, 1) := by decide +kernel
theorem dX6_on_48 : decode cX6_on 48 = .ok (.getfield 23, 3) := by decide +kernel
theorem dX6_on_51 : decode cX6_on 51 = .ok (.iload_n 1, 1) := by decide +kernel
theorem dX6_on_52 : decode cX6_on 52 = .ok (.invokevirtual 66, 3) := by decide +kernel
theorem dX6_on_55 : decode cX6_on 55 = .ok (.iload_n 2, 1) := by decide +kernel
theorem dX6_on_56 : decode cX6_on 56 = .ok (.invokevirtual 85, 3) := by decide +kernel
theorem dX6_on_59 : decode cX6_on 59 = .ok (.ireturn, 1) := by decide +kernel
theorem dX6_tension_0 : decode cX6_tension 0 = .ok (.iload_n 1, 1) := by decide +kernel
theorem dX6_tension_1 : decode cX6_tension 1 = .ok (.invokestatic 53, 3) := by decide +kernel
theorem dX6_tension_4 : decode cX6_tension 4 = .ok (.ifCond .eq 13, 3) := by decide +kernel
theorem dX6_tension_7 : decode cX6_tension 7 = .ok (.iload_n 2, 1) := by decide +kernel
theorem dX6_tension_8 : decode cX6_tension 8 = .ok (.iconst 0, 1) := by decide +kernel
theorem dX6_tension_9 : decode cX6_tension 9 = .ok (.bipush 60, 2) := by decide +kernel
theorem dX6_tension_11 : decode cX6_tension 11 = .ok (.invokestatic 57, 3) := by decide +kernel
theorem dX6_tension_14 : decode cX6_tension 14 = .ok (.ifCond .ne 10, 3) := by decide +kernel
theorem dX6_tension_17 : decode cX6_tension 17 = .ok (.aload_n 0, 1) := by decide +kernel
theorem dX6_tension_18 : decode cX6_tension 18 = .ok (.ldc 61, 2) := by decide +kernel
theorem dX6_tension_20 : decode cX6_tension 20 = .ok (.invokevirtual 62, 3) := by decide +kernel
theorem dX6_tension_23 : decode cX6_tension 23 = .ok (.ireturn, 1) := by decide +kernel
theorem dX6_tension_24 : decode cX6_tension 24 = .ok (.aload_n 0, 1) := by decide +kernel
theorem dX6_tension_25 : decode cX6_tension 25 = .ok (.invokevirtual 183, 3) := by decide +kernel
theorem dX6_tension_28 : decode cX6_tension 28 = .ok (.aload_n 0, 1) := by decide +kernel
theorem dX6_tension_29 : decode cX6_tension 29 = .ok (.getfield 23, 3) := by decide +kernel
theorem dX6_tension_32 : decode cX6_tension 32 = .ok (.iload_n 2, 1) := by decide +kernel
theorem dX6_tension_33 : decode cX6_tension 33 = .ok (.invokevirtual 165, 3) := by decide +kernel
theorem dX6_tension_36 : decode cX6_tension 36 = .ok (.aload_n 0, 1) := by decide +kernel
theorem dX6_tension_37 : decode cX6_tension 37 = .ok (.getfield 23, 3) := by decide +kernel
theorem dX6_tension_40 : decode cX6_tension 40 = .ok (.iload_n 1, 1) := by decide +kernel
theorem dX6_tension_41 : decode cX6_tension 41 = .ok (.invokevirtual 66, 3) := by decide +kernel
theorem dX6_tension_44 : decode cX6_tension 44 = .ok (.invokevirtual 89, 3) := by decide +kernel
theorem dX6_tension_47 : decode cX6_tension 47 = .ok (.ireturn, 1) := by decide +kernel
theorem dX6_home_0 : decode cX6_home 0 = .ok (.iload_n 1, 1) := by decide +kernel
theorem dX6_home_1 : decode cX6_home 1 = .ok (.invokestatic 53, 3) := by decide +kernel
theorem dX6_home_4 : decode cX6_home 4 = .ok (.ifCond .ne 10, 3) := by decide +kernel
theorem dX6_home_7 : decode cX6_home 7 = .ok (.aload_n 0, 1) := by decide +kernel
theorem dX6_home_8 : decode cX6_home 8 = .ok (.ldc 61, 2) := by decide +kernel
theorem dX6_home_10 : decode cX6_home 10 = .ok (.invokevirtual 62, 3) := by decide +kernel
theorem dX6_home_13 : decode cX6_home 13 = .ok (.ireturn, 1) := by decide +kernel
theorem dX6_home_14 : decode cX6_home 14 = .ok (.aload_n 0, 1) := by decide +kernel
theorem dX6_home_15 : decode cX6_home 15 = .ok (.invokevirtual 183, 3) := by decide +kernel
theorem dX6_home_18 : decode cX6_home 18 = .ok (.aload_n 0, 1) := by decide +kernel
theorem dX6_home_19 : decode cX6_home 19 = .ok (.getfield 23, 3) := by decide +kernel
theorem dX6_home_22 : decode cX6_home 22 = .ok (.iload_n 1, 1) := by decide +kernel
theorem dX6_home_23 : decode cX6_home 23 = .ok (.sipush 200, 3) := by decide +kernel
theorem dX6_home_26 : decode cX6_home 26 = .ok (.invokevirtual 186, 3) := by decide +kernel
theorem dX6_home_29 : decode cX6_home 29 = .ok (.istore_n 2, 1) := by decide +kernel
theorem dX6_home_30 : decode cX6_home 30 = .ok (.iload_n 2, 1) := by decide +kernel
theorem dX6_home_31 : decode cX6_home 31 = .ok (.sipush 200, 3) := by decide +kernel
theorem dX6_home_34 : decode cX6_home 34 = .ok (.if_icmp .le 12, 3) := by decide +kernel
theorem dX6_home_37 : decode cX6_home 37 = .ok (.aload_n 0, 1) := by decide +kernel
theorem dX6_home_38 : decode cX6_home 38 = .ok (.ldc 149, 2) := by decide +kernel
theorem dX6_home_40 : decode cX6_home 40 = .ok (.invokevirtual 62, 3) := by decide +kernel
theorem dX6_home_43 : decode cX6_home 43 = .ok (.goto 4, 3) := by decide +kernel
theorem dX6_home_46 : decode cX6_home 46 = .ok (.iload_n 2, 1) := by decide +kernel
theorem dX6_home_47 : decode cX6_home 47 = .ok (.ireturn, 1) := by decide +kernel
theorem dX6_alike_0 : decode cX6_alike 0 = .ok (.aload_n 0, 1) := by decide +kernel
theorem dX6_alike_1 : decode cX6_alike 1 = .ok (.invokevirtual 183, 3) := by decide +kernel
theorem dX6_alike_4 : decode cX6_alike 4 = .ok (.aload_n 0, 1) := by decide +kernel
theorem dX6_alike_5 : decode cX6_alike 5 = .ok (.getfield 23, 3) := by decide +kernel
theorem dX6_alike_8 : decode cX6_alike 8 = .ok (.sipush 200, 3) := by decide +kernel
theorem dX6_alike_11 : decode cX6_alike 11 = .ok (.invokevirtual 190, 3) := by decide +kernel
theorem dX6_alike_14 : decode cX6_alike 14 = .ok (.istore_n 1, 1) := by decide +kernel
theorem dX6_alike_15 : decode cX6_alike 15 = .ok (.iload_n 1, 1) := by decide +kernel
theorem dX6_alike_16 : decode cX6_alike 16 = .ok (.sipush 200, 3) := by decide +kernel
theorem dX6_alike_19 : decode cX6_alike 19 = .ok (.if_icmp .le 12, 3) := by decide +kernel
theorem dX6_alike_22 : decode cX6_alike 22 = .ok (.aload_n 0, 1) := by decide +kernel
theorem dX6_alike_23 : decode cX6_alike 23 = .ok (.ldc 149, 2) := by decide +kernel
theorem dX6_alike_25 : decode cX6_alike 25 = .ok (.invokevirtual 62, 3) := by decide +kernel
theorem dX6_alike_28 : decode cX6_alike 28 = .ok (.goto 4, 3) := by decide +kernel
theorem dX6_alike_31 : decode cX6_alike 31 = .ok (.iload_n 1, 1) := by decide +kernel
theorem dX6_alike_32 : decode cX6_alike 32 = .ok (.ireturn, 1) := by decide +kernel
theorem dX6_again_0 : decode cX6_again 0 = .ok (.iload_n 1, 1) := by decide +kernel
theorem dX6_again_1 : decode cX6_again 1 = .ok (.invokestatic 53, 3) := by decide +kernel
theorem dX6_again_4 : decode cX6_again 4 = .ok (.ifCond .ne 10, 3) := by decide +kernel
theorem dX6_again_7 : decode cX6_again 7 = .ok (.aload_n 0, 1) := by decide +kernel
theorem dX6_again_8 : decode cX6_again 8 = .ok (.ldc 61, 2) := by decide +kernel
theorem dX6_again_10 : decode cX6_again 10 = .ok (.invokevirtual 62, 3) := by decide +kernel
theorem dX6_again_13 : decode cX6_again 13 = .ok (.ireturn, 1) := by decide +kernel
theorem dX6_again_14 : decode cX6_again 14 = .ok (.aload_n 0, 1) := by decide +kernel
theorem dX6_again_15 : decode cX6_again 15 = .ok (.invokevirtual 183, 3) := by decide +kernel
theorem dX6_again_18 : decode cX6_again 18 = .ok (.iconst 0, 1) := by decide +kernel
theorem dX6_again_19 : decode cX6_again 19 = .ok (.istore_n 2, 1) := by decide +kernel
theorem dX6_again_20 : decode cX6_again 20 = .ok (.iconst 1, 1) := by decide +kernel
theorem dX6_again_21 : decode cX6_again 21 = .ok (.istore_n 3, 1) := by decide +kernel
theorem dX6_again_22 : decode cX6_again 22 = .ok (.iload_n 3, 1) := by decide +kernel
theorem dX6_again_23 : decode cX6_again 23 = .ok (.sipush 200, 3) := by decide +kernel
theorem dX6_again_26 : decode cX6_again 26 = .ok (.if_icmp .gt 63, 3) := by decide +kernel
theorem dX6_again_29 : decode cX6_again 29 = .ok (.aload_n 0, 1) := by decide +kernel
theorem dX6_again_30 : decode cX6_again 30 = .ok (.getfield 23, 3) := by decide +kernel
theorem dX6_again_33 : decode cX6_again 33 = .ok (.invokevirtual 193, 3) := by decide +kernel
theorem dX6_again_36 : decode cX6_again 36 = .ok (.aload_n 0, 1) := by decide +kernel
theorem dX6_again_37 : decode cX6_again 37 = .ok (.getfield 23, 3) := by decide +kernel
theorem dX6_again_40 : decode cX6_again 40 = .ok (.iload_n 1, 1) := by decide +kernel
theorem dX6_again_41 : decode cX6_again 41 = .ok (.invokevirtual 66, 3) := by decide +kernel
theorem dX6_again_44 : decode cX6_again 44 = .ok (.aload_n 0, 1) := by decide +kernel
theorem dX6_again_45 : decode cX6_again 45 = .ok (.getfield 10, 3) := by decide +kernel
theorem dX6_again_48 : decode cX6_again 48 = .ok (.iload_n 1, 1) := by decide +kernel
theorem dX6_again_49 : decode cX6_again 49 = .ok (.invokevirtual 66, 3) := by decide +kernel
theorem dX6_again_52 : decode cX6_again 52 = .ok (.invokevirtual 196, 3) := by decide +kernel
theorem dX6_again_55 : decode cX6_again 55 = .ok (.istore 4, 2) := by decide +kernel
theorem dX6_again_57 : decode cX6_again 57 = .ok (.iload 4, 2) := by decide +kernel
theorem dX6_again_59 : decode cX6_again 59 = .ok (.ifCond .eq 9, 3) := by decide +kernel
theorem dX6_again_62 : decode cX6_again 62 = .ok (.iload_n 2, 1) := by decide +kernel
theorem dX6_again_63 : decode cX6_again 63 = .ok (.ifCond .eq 5, 3) := by decide +kernel
theorem dX6_again_66 : decode cX6_again 66 = .ok (.iload_n 3, 1) := by decide +kernel
theorem dX6_again_67 : decode cX6_again 67 = .ok (.ireturn, 1) := by decide +kernel
theorem dX6_again_68 : decode cX6_again 68 = .ok (.iload_n 2, 1) := by decide +kernel
theorem dX6_again_69 : decode cX6_again 69 = .ok (.ifCond .ne 8, 3) := by decide +kernel
theorem dX6_again_72 : decode cX6_again 72 = .ok (.iload 4, 2) := by decide +kernel
theorem dX6_again_74 : decode cX6_again 74 = .ok (.ifCond .ne 7, 3) := by decide +kernel
theorem dX6_again_77 : decode cX6_again 77 = .ok (.iconst 1, 1) := by decide +kernel
theorem dX6_again_78 : decode cX6_again 78 = .ok (.goto 4, 3) := by decide +kernel
theorem dX6_again_81 : decode cX6_again 81 = .ok (.iconst 0, 1) := by decide +kernel
theorem dX6_again_82 : decode cX6_again 82 = .ok (.istore_n 2, 1) := by decide +kernel
theorem dX6_again_83 : decode cX6_again 83 = .ok (.iinc 3 1, 3) := by decide +kernel
theorem dX6_again_86 : decode cX6_again 86 = .ok (.goto (-64), 3) := by decide +kernel
theorem dX6_again_89 : decode cX6_again 89 = .ok (.aload_n 0, 1) := by decide +kernel
theorem dX6_again_90 : decode cX6_again 90 = .ok (.ldc 149, 2) := by decide +kernel
theorem dX6_again_92 : decode cX6_again 92 = .ok (.invokevirtual 62, 3) := by decide +kernel
theorem dX6_again_95 : decode cX6_again 95 = .ok (.ireturn, 1) := by decide +kernel
theorem dX6_key_0 : decode cX6_key 0 = .ok (.aload_n 0, 1) := by decide +kernel
theorem dX6_key_1 : decode cX6_key 1 = .ok (.getfield 10, 3) := by decide +kernel
theorem dX6_key_4 : decode cX6_key 4 = .ok (.iload_n 1, 1) := by decide +kernel
theorem dX6_key_5 : decode cX6_key 5 = .ok (.invokevirtual 117, 3) := by decide +kernel
theorem dX6_key_8 : decode cX6_key 8 = .ok (.ifCond .ne 10, 3) := by decide +kernel
theorem dX6_key_11 : decode cX6_key 11 = .ok (.aload_n 0, 1) := by decide +kernel
theorem dX6_key_12 : decode cX6_key 12 = .ok (.ldc 61, 2) := by decide +kernel
theorem dX6_key_14 : decode cX6_key 14 = .ok (.invokevirtual 62, 3) := by decide +kernel
theorem dX6_key_17 : decode cX6_key 17 = .ok (.ireturn, 1) := by decide +kernel
theorem dX6_key_18 : decode cX6_key 18 = .ok (.aload_n 0, 1) := by decide +kernel
theorem dX6_key_19 : decode cX6_key 19 = .ok (.getfield 10, 3) := by decide +kernel
theorem dX6_key_22 : decode cX6_key 22 = .ok (.getfield 120, 3) := by decide +kernel
theorem dX6_key_25 : decode cX6_key 25 = .ok (.iload_n 1, 1) := by decide +kernel
theorem dX6_key_26 : decode cX6_key 26 = .ok (.aaload, 1) := by decide +kernel
theorem dX6_key_27 : decode cX6_key 27 = .ok (.getfield 129, 3) := by decide +kernel
theorem dX6_key_30 : decode cX6_key 30 = .ok (.istore_n 2, 1) := by decide +kernel
theorem dX6_key_31 : decode cX6_key 31 = .ok (.aload_n 0, 1) := by decide +kernel
theorem dX6_key_32 : decode cX6_key 32 = .ok (.iload_n 1, 1) := by decide +kernel
theorem dX6_key_33 : decode cX6_key 33 = .ok (.iload_n 2, 1) := by decide +kernel
theorem dX6_key_34 : decode cX6_key 34 = .ok (.iconst 0, 1) := by decide +kernel
theorem dX6_key_35 : decode cX6_key 35 = .ok (.bipush 12, 2) := by decide +kernel
theorem dX6_key_37 : decode cX6_key 37 = .ok (.bipush 101, 2) := by decide +kernel
theorem dX6_key_39 : decode cX6_key 39 = .ok (.invokevirtual 200, 3) := by decide +kernel
theorem dX6_key_42 : decode cX6_key 42 = .ok (.ireturn, 1) := by decide +kernel
theorem dX6_kind_0 : decode cX6_kind 0 = .ok (.aload_n 0, 1) := by decide +kernel
theorem dX6_kind_1 : decode cX6_kind 1 = .ok (.getfield 10, 3) := by decide +kernel
theorem dX6_kind_4 : decode cX6_kind 4 = .ok (.iload_n 1, 1) := by decide +kernel
theorem dX6_kind_5 : decode cX6_kind 5 = .ok (.invokevirtual 117, 3) := by decide +kernel
theorem dX6_kind_8 : decode cX6_kind 8 = .ok (.ifCond .ne 10, 3) := by decide +kernel
theorem dX6_kind_11 : decode cX6_kind 11 = .ok (.aload_n 0, 1) := by decide +kernel
theorem dX6_kind_12 : decode cX6_kind 12 = .ok (.ldc 61, 2) := by decide +kernel
theorem dX6_kind_14 : decode cX6_kind 14 = .ok (.invokevirtual 62, 3) := by decide +kernel
theorem dX6_kind_17 : decode cX6_kind 17 = .ok (.ireturn, 1) := by decide +kernel
theorem dX6_kind_18 : decode cX6_kind 18 = .ok (.aload_n 0, 1) := by decide +kernel
theorem dX6_kind_19 : decode cX6_kind 19 = .ok (.getfield 10, 3) := by decide +kernel
theorem dX6_kind_22 : decode cX6_kind 22 = .ok (.getfield 120, 3) := by decide +kernel
theorem dX6_kind_25 : decode cX6_kind 25 = .ok (.iload_n 1, 1) := by decide +kernel
theorem dX6_kind_26 : decode cX6_kind 26 = .ok (.aaload, 1) := by decide +kernel
theorem dX6_kind_27 : decode cX6_kind 27 = .ok (.getfield 129, 3) := by decide +kernel
theorem dX6_kind_30 : decode cX6_kind 30 = .ok (.istore_n 2, 1) := by decide +kernel
theorem dX6_kind_31 : decode cX6_kind 31 = .ok (.aload_n 0, 1) := by decide +kernel
theorem dX6_kind_32 : decode cX6_kind 32 = .ok (.iload_n 1, 1) := by decide +kernel
theorem dX6_kind_33 : decode cX6_kind 33 = .ok (.iload_n 2, 1) := by decide +kernel
theorem dX6_kind_34 : decode cX6_kind 34 = .ok (.iconst 1, 1) := by decide +kernel
theorem dX6_kind_35 : decode cX6_kind 35 = .ok (.bipush 6, 2) := by decide +kernel
theorem dX6_kind_37 : decode cX6_kind 37 = .ok (.bipush 101, 2) := by decide +kernel
theorem dX6_kind_39 : decode cX6_kind 39 = .ok (.invokevirtual 200, 3) := by decide +kernel
theorem dX6_kind_42 : decode cX6_kind 42 = .ok (.ireturn, 1) := by decide +kernel
theorem dX6_blot_0 : decode cX6_blot 0 = .ok (.aload_n 0, 1) := by decide +kernel
theorem dX6_blot_1 : decode cX6_blot 1 = .ok (.getfield 10, 3) := by decide +kernel
theorem dX6_blot_4 : decode cX6_blot 4 = .ok (.iload_n 1, 1) := by decide +kernel
theorem dX6_blot_5 : decode cX6_blot 5 = .ok (.invokevirtual 117, 3) := by decide +kernel
theorem dX6_blot_8 : decode cX6_blot 8 = .ok (.ifCond .eq 10, 3) := by decide +kernel
theorem dX6_blot_11 : decode cX6_blot 11 = .ok (.iload_n 2, 1) := by decide +kernel
theorem dX6_blot_12 : decode cX6_blot 12 = .ok (.invokestatic 53, 3) := by decide +kernel
theorem dX6_blot_15 : decode cX6_blot 15 = .ok (.ifCond .ne 10, 3) := by decide +kernel
theorem dX6_blot_18 : decode cX6_blot 18 = .ok (.aload_n 0, 1) := by decide +kernel
theorem dX6_blot_19 : decode cX6_blot 19 = .ok (.ldc 61, 2) := by decide +kernel
theorem dX6_blot_21 : decode cX6_blot 21 = .ok (.invokevirtual 62, 3) := by decide +kernel
theorem dX6_blot_24 : decode cX6_blot 24 = .ok (.ireturn, 1) := by decide +kernel
theorem dX6_blot_25 : decode cX6_blot 25 = .ok (.aload_n 0, 1) := by decide +kernel
theorem dX6_blot_26 : decode cX6_blot 26 = .ok (.invokevirtual 183, 3) := by decide +kernel
theorem dX6_blot_29 : decode cX6_blot 29 = .ok (.aload_n 0, 1) := by decide +kernel
theorem dX6_blot_30 : decode cX6_blot 30 = .ok (.getfield 23, 3) := by decide +kernel
theorem dX6_blot_33 : decode cX6_blot 33 = .ok (.iload_n 2, 1) := by decide +kernel
theorem dX6_blot_34 : decode cX6_blot 34 = .ok (.bipush 100, 2) := by decide +kernel
theorem dX6_blot_36 : decode cX6_blot 36 = .ok (.invokevirtual 186, 3) := by decide +kernel
theorem dX6_blot_39 : decode cX6_blot 39 = .ok (.istore_n 3, 1) := by decide +kernel
theorem dX6_blot_40 : decode cX6_blot 40 = .ok (.aload_n 0, 1) := by decide +kernel
theorem dX6_blot_41 : decode cX6_blot 41 = .ok (.iload_n 1, 1) := by decide +kernel
theorem dX6_blot_42 : decode cX6_blot 42 = .ok (.iload_n 2, 1) := by decide +kernel
theorem dX6_blot_43 : decode cX6_blot 43 = .ok (.iconst 2, 1) := by decide +kernel
theorem dX6_blot_44 : decode cX6_blot 44 = .ok (.bipush 12, 2) := by decide +kernel
theorem dX6_blot_46 : decode cX6_blot 46 = .ok (.iload_n 3, 1) := by decide +kernel
theorem dX6_blot_47 : decode cX6_blot 47 = .ok (.invokevirtual 200, 3) := by decide +kernel
theorem dX6_blot_50 : decode cX6_blot 50 = .ok (.ireturn, 1) := by decide +kernel
theorem dX6_calm_0 : decode cX6_calm 0 = .ok (.aload_n 0, 1) := by decide +kernel
theorem dX6_calm_1 : decode cX6_calm 1 = .ok (.getfield 10, 3) := by decide +kernel
theorem dX6_calm_4 : decode cX6_calm 4 = .ok (.iload_n 1, 1) := by decide +kernel
theorem dX6_calm_5 : decode cX6_calm 5 = .ok (.invokevirtual 117, 3) := by decide +kernel
theorem dX6_calm_8 : decode cX6_calm 8 = .ok (.ifCond .eq 20, 3) := by decide +kernel
theorem dX6_calm_11 : decode cX6_calm 11 = .ok (.iload_n 2, 1) := by decide +kernel
theorem dX6_calm_12 : decode cX6_calm 12 = .ok (.invokestatic 53, 3) := by decide +kernel
theorem dX6_calm_15 : decode cX6_calm 15 = .ok (.ifCond .eq 13, 3) := by decide +kernel
theorem dX6_calm_18 : decode cX6_calm 18 = .ok (.iload_n 3, 1) := by decide +kernel
theorem dX6_calm_19 : decode cX6_calm 19 = .ok (.iconst 0, 1) := by decide +kernel
theorem dX6_calm_20 : decode cX6_calm 20 = .ok (.bipush 20, 2) := by decide +kernel
theorem dX6_calm_22 : decode cX6_calm 22 = .ok (.invokestatic 57, 3) := by decide +kernel
theorem dX6_calm_25 : decode cX6_calm 25 = .ok (.ifCond .ne 10, 3) := by decide +kernel
theorem dX6_calm_28 : decode cX6_calm 28 = .ok (.aload_n 0, 1) := by decide +kernel
theorem dX6_calm_29 : decode cX6_calm 29 = .ok (.ldc 61, 2) := by decide +kernel
theorem dX6_calm_31 : decode cX6_calm 31 = .ok (.invokevirtual 62, 3) := by decide +kernel
theorem dX6_calm_34 : decode cX6_calm 34 = .ok (.ireturn, 1) := by decide +kernel
theorem dX6_calm_35 : decode cX6_calm 35 = .ok (.iconst 0, 1) := by decide +kernel
theorem dX6_calm_36 : decode cX6_calm 36 = .ok (.istore 4, 2) := by decide +kernel
theorem dX6_calm_38 : decode cX6_calm 38 = .ok (.bipush 12, 2) := by decide +kernel
theorem dX6_calm_40 : decode cX6_calm 40 = .ok (.istore 5, 2) := by decide +kernel
theorem dX6_calm_42 : decode cX6_calm 42 = .ok (.iconst 0, 1) := by decide +kernel
theorem dX6_calm_43 : decode cX6_calm 43 = .ok (.istore 6, 2) := by decide +kernel
theorem dX6_calm_45 : decode cX6_calm 45 = .ok (.iload 6, 2) := by decide +kernel
theorem dX6_calm_47 : decode cX6_calm 47 = .ok (.bipush 12, 2) := by decide +kernel
theorem dX6_calm_49 : decode cX6_calm 49 = .ok (.if_icmp .ge 63, 3) := by decide +kernel
theorem dX6_calm_52 : decode cX6_calm 52 = .ok (.aload_n 0, 1) := by decide +kernel
theorem dX6_calm_53 : decode cX6_calm 53 = .ok (.invokevirtual 183, 3) := by decide +kernel
theorem dX6_calm_56 : decode cX6_calm 56 = .ok (.aload_n 0, 1) := by decide +kernel
theorem dX6_calm_57 : decode cX6_calm 57 = .ok (.getfield 23, 3) := by decide +kernel
theorem dX6_calm_60 : decode cX6_calm 60 = .ok (.getfield 120, 3) := by decide +kernel
theorem dX6_calm_63 : decode cX6_calm 63 = .ok (.iload_n 1, 1) := by decide +kernel
theorem dX6_calm_64 : decode cX6_calm 64 = .ok (.aaload, 1) := by decide +kernel
theorem dX6_calm_65 : decode cX6_calm 65 = .ok (.iload 6, 2) := by decide +kernel
theorem dX6_calm_67 : decode cX6_calm 67 = .ok (.putfield 132, 3) := by decide +kernel
theorem dX6_calm_70 : decode cX6_calm 70 = .ok (.aload_n 0, 1) := by decide +kernel
theorem dX6_calm_71 : decode cX6_calm 71 = .ok (.getfield 23, 3) := by decide +kernel
theorem dX6_calm_74 : decode cX6_calm 74 = .ok (.iload_n 3, 1) := by decide +kernel
theorem dX6_calm_75 : decode cX6_calm 75 = .ok (.invokevirtual 165, 3) := by decide +kernel
theorem dX6_calm_78 : decode cX6_calm 78 = .ok (.aload_n 0, 1) := by decide +kernel
theorem dX6_calm_79 : decode cX6_calm 79 = .ok (.getfield 23, 3) := by decide +kernel
theorem dX6_calm_82 : decode cX6_calm 82 = .ok (.iload_n 2, 1) := by decide +kernel
theorem dX6_calm_83 : decode cX6_calm 83 = .ok (.invokevirtual 66, 3) := by decide +kernel
theorem dX6_calm_86 : decode cX6_calm 86 = .ok (.invokevirtual 89, 3) := by decide +kernel
theorem dX6_calm_89 : decode cX6_calm 89 = .ok (.istore 7, 2) := by decide +kernel
theorem dX6_calm_91 : decode cX6_calm 91 = .ok (.iload 7, 2) := by decide +kernel
theorem dX6_calm_93 : decode cX6_calm 93 = .ok (.iload 5, 2) := by decide +kernel
theorem dX6_calm_95 : decode cX6_calm 95 = .ok (.if_icmp .ge 11, 3) := by decide +kernel
theorem dX6_calm_98 : decode cX6_calm 98 = .ok (.iload 7, 2) := by decide +kernel
theorem dX6_calm_100 : decode cX6_calm 100 = .ok (.istore 5, 2) := by decide +kernel
theorem dX6_calm_102 : decode cX6_calm 102 = .ok (.iload 6, 2) := by decide +kernel
theorem dX6_calm_104 : decode cX6_calm 104 = .ok (.istore 4, 2) := by decide +kernel
theorem dX6_calm_106 : decode cX6_calm 106 = .ok (.iinc 6 1, 3) := by decide +kernel
theorem dX6_calm_109 : decode cX6_calm 109 = .ok (.goto (-64), 3) := by decide +kernel
theorem dX6_calm_112 : decode cX6_calm 112 = .ok (.bipush 100, 2) := by decide +kernel
theorem dX6_calm_114 : decode cX6_calm 114 = .ok (.iload 4, 2) := by decide +kernel
theorem dX6_calm_116 : decode cX6_calm 116 = .ok (.imul, 1) := by decide +kernel
theorem dX6_calm_117 : decode cX6_calm 117 = .ok (.iload 5, 2) := by decide +kernel
theorem dX6_calm_119 : decode cX6_calm 119 = .ok (.iadd, 1) := by decide +kernel
theorem dX6_calm_120 : decode cX6_calm 120 = .ok (.ireturn, 1) := by decide +kernel
theorem dX6_swap_0 : decode cX6_swap 0 = .ok (.ldc 149, 2) := by decide +kernel
theorem dX6_swap_2 : decode cX6_swap 2 = .ok (.istore_n 1, 1) := by decide +kernel
theorem dX6_swap_3 : decode cX6_swap 3 = .ok (.bipush 101, 2) := by decide +kernel
theorem dX6_swap_5 : decode cX6_swap 5 = .ok (.istore_n 2, 1) := by decide +kernel
theorem dX6_swap_6 : decode cX6_swap 6 = .ok (.iconst 0, 1) := by decide +kernel
theorem dX6_swap_7 : decode cX6_swap 7 = .ok (.istore_n 3, 1) := by decide +kernel
theorem dX6_swap_8 : decode cX6_swap 8 = .ok (.iload_n 3, 1) := by decide +kernel
theorem dX6_swap_9 : decode cX6_swap 9 = .ok (.aload_n 0, 1) := by decide +kernel
theorem dX6_swap_10 : decode cX6_swap 10 = .ok (.getfield 10, 3) := by decide +kernel
theorem dX6_swap_13 : decode cX6_swap 13 = .ok (.getfield 110, 3) := by decide +kernel
theorem dX6_swap_16 : decode cX6_swap 16 = .ok (.if_icmp .ge 74, 3) := by decide +kernel
theorem dX6_swap_19 : decode cX6_swap 19 = .ok (.iload_n 3, 1) := by decide +kernel
theorem dX6_swap_20 : decode cX6_swap 20 = .ok (.iconst 1, 1) := by decide +kernel
theorem dX6_swap_21 : decode cX6_swap 21 = .ok (.iadd, 1) := by decide +kernel
theorem dX6_swap_22 : decode cX6_swap 22 = .ok (.istore 4, 2) := by decide +kernel
theorem dX6_swap_24 : decode cX6_swap 24 = .ok (.iload 4, 2) := by decide +kernel
theorem dX6_swap_26 : decode cX6_swap 26 = .ok (.aload_n 0, 1) := by decide +kernel
theorem dX6_swap_27 : decode cX6_swap 27 = .ok (.getfield 10, 3) := by decide +kernel
theorem dX6_swap_30 : decode cX6_swap 30 = .ok (.getfield 110, 3) := by decide +kernel
theorem dX6_swap_33 : decode cX6_swap 33 = .ok (.if_icmp .ge 51, 3) := by decide +kernel
theorem dX6_swap_36 : decode cX6_swap 36 = .ok (.aload_n 0, 1) := by decide +kernel
theorem dX6_swap_37 : decode cX6_swap 37 = .ok (.iload_n 3, 1) := by decide +kernel
theorem dX6_swap_38 : decode cX6_swap 38 = .ok (.iload 4, 2) := by decide +kernel
theorem dX6_swap_40 : decode cX6_swap 40 = .ok (.invokevirtual 204, 3) := by decide +kernel
theorem dX6_swap_43 : decode cX6_swap 43 = .ok (.ifCond .ne 6, 3) := by decide +kernel
theorem dX6_swap_46 : decode cX6_swap 46 = .ok (.goto 32, 3) := by decide +kernel
theorem dX6_swap_49 : decode cX6_swap 49 = .ok (.aload_n 0, 1) := by decide +kernel
theorem dX6_swap_50 : decode cX6_swap 50 = .ok (.getfield 23, 3) := by decide +kernel
theorem dX6_swap_53 : decode cX6_swap 53 = .ok (.iload_n 2, 1) := by decide +kernel
theorem dX6_swap_54 : decode cX6_swap 54 = .ok (.iconst 1, 1) := by decide +kernel
theorem dX6_swap_55 : decode cX6_swap 55 = .ok (.isub, 1) := by decide +kernel
theorem dX6_swap_56 : decode cX6_swap 56 = .ok (.invokevirtual 190, 3) := by decide +kernel
theorem dX6_swap_59 : decode cX6_swap 59 = .ok (.istore 5, 2) := by decide +kernel
theorem dX6_swap_61 : decode cX6_swap 61 = .ok (.iload 5, 2) := by decide +kernel
theorem dX6_swap_63 : decode cX6_swap 63 = .ok (.iload_n 2, 1) := by decide +kernel
theorem dX6_swap_64 : decode cX6_swap 64 = .ok (.if_icmp .ge 14, 3) := by decide +kernel
theorem dX6_swap_67 : decode cX6_swap 67 = .ok (.iload 5, 2) := by decide +kernel
theorem dX6_swap_69 : decode cX6_swap 69 = .ok (.istore_n 2, 1) := by decide +kernel
theorem dX6_swap_70 : decode cX6_swap 70 = .ok (.bipush 10, 2) := by decide +kernel
theorem dX6_swap_72 : decode cX6_swap 72 = .ok (.iload_n 3, 1) := by decide +kernel
theorem dX6_swap_73 : decode cX6_swap 73 = .ok (.imul, 1) := by decide +kernel
theorem dX6_swap_74 : decode cX6_swap 74 = .ok (.iload 4, 2) := by decide +kernel
theorem dX6_swap_76 : decode cX6_swap 76 = .ok (.iadd, 1) := by decide +kernel
theorem dX6_swap_77 : decode cX6_swap 77 = .ok (.istore_n 1, 1) := by decide +kernel
theorem dX6_swap_78 : decode cX6_swap 78 = .ok (.iinc 4 1, 3) := by decide +kernel
theorem dX6_swap_81 : decode cX6_swap 81 = .ok (.goto (-57), 3) := by decide +kernel
theorem dX6_swap_84 : decode cX6_swap 84 = .ok (.iinc 3 1, 3) := by decide +kernel
theorem dX6_swap_87 : decode cX6_swap 87 = .ok (.goto (-79), 3) := by decide +kernel
theorem dX6_swap_90 : decode cX6_swap 90 = .ok (.iload_n 1, 1) := by decide +kernel
theorem dX6_swap_91 : decode cX6_swap 91 = .ok (.ldc 149, 2) := by decide +kernel
theorem dX6_swap_93 : decode cX6_swap 93 = .ok (.if_icmp .ne 12, 3) := by decide +kernel
theorem dX6_swap_96 : decode cX6_swap 96 = .ok (.aload_n 0, 1) := by decide +kernel
theorem dX6_swap_97 : decode cX6_swap 97 = .ok (.ldc 149, 2) := by decide +kernel
theorem dX6_swap_99 : decode cX6_swap 99 = .ok (.invokevirtual 62, 3) := by decide +kernel
theorem dX6_swap_102 : decode cX6_swap 102 = .ok (.goto 4, 3) := by decide +kernel
theorem dX6_swap_105 : decode cX6_swap 105 = .ok (.iload_n 1, 1) := by decide +kernel
theorem dX6_swap_106 : decode cX6_swap 106 = .ok (.ireturn, 1) := by decide +kernel
theorem dX6_keys_0 : decode cX6_keys 0 = .ok (.aload_n 0, 1) := by decide +kernel
theorem dX6_keys_1 : decode cX6_keys 1 = .ok (.getfield 10, 3) := by decide +kernel
theorem dX6_keys_4 : decode cX6_keys 4 = .ok (.iload_n 1, 1) := by decide +kernel
theorem dX6_keys_5 : decode cX6_keys 5 = .ok (.invokevirtual 117, 3) := by decide +kernel
theorem dX6_keys_8 : decode cX6_keys 8 = .ok (.ifCond .eq 13, 3) := by decide +kernel
theorem dX6_keys_11 : decode cX6_keys 11 = .ok (.iload_n 2, 1) := by decide +kernel
theorem dX6_keys_12 : decode cX6_keys 12 = .ok (.iconst 0, 1) := by decide +kernel
theorem dX6_keys_13 : decode cX6_keys 13 = .ok (.bipush 60, 2) := by decide +kernel
theorem dX6_keys_15 : decode cX6_keys 15 = .ok (.invokestatic 57, 3) := by decide +kernel
theorem dX6_keys_18 : decode cX6_keys 18 = .ok (.ifCond .ne 10, 3) := by decide +kernel
theorem dX6_keys_21 : decode cX6_keys 21 = .ok (.aload_n 0, 1) := by decide +kernel
theorem dX6_keys_22 : decode cX6_keys 22 = .ok (.ldc 61, 2) := by decide +kernel
theorem dX6_keys_24 : decode cX6_keys 24 = .ok (.invokevirtual 62, 3) := by decide +kernel
theorem dX6_keys_27 : decode cX6_keys 27 = .ok (.ireturn, 1) := by decide +kernel
theorem dX6_keys_28 : decode cX6_keys 28 = .ok (.aload_n 0, 1) := by decide +kernel
theorem dX6_keys_29 : decode cX6_keys 29 = .ok (.getfield 10, 3) := by decide +kernel
theorem dX6_keys_32 : decode cX6_keys 32 = .ok (.getfield 120, 3) := by decide +kernel
theorem dX6_keys_35 : decode cX6_keys 35 = .ok (.iload_n 1, 1) := by decide +kernel
theorem dX6_keys_36 : decode cX6_keys 36 = .ok (.aaload, 1) := by decide +kernel
theorem dX6_keys_37 : decode cX6_keys 37 = .ok (.getfield 129, 3) := by decide +kernel
theorem dX6_keys_40 : decode cX6_keys 40 = .ok (.istore_n 3, 1) := by decide +kernel
theorem dX6_keys_41 : decode cX6_keys 41 = .ok (.iconst 0, 1) := by decide +kernel
theorem dX6_keys_42 : decode cX6_keys 42 = .ok (.istore 4, 2) := by decide +kernel
theorem dX6_keys_44 : decode cX6_keys 44 = .ok (.iconst 0, 1) := by decide +kernel
theorem dX6_keys_45 : decode cX6_keys 45 = .ok (.istore 5, 2) := by decide +kernel
theorem dX6_keys_47 : decode cX6_keys 47 = .ok (.iload 5, 2) := by decide +kernel
theorem dX6_keys_49 : decode cX6_keys 49 = .ok (.bipush 12, 2) := by decide +kernel
theorem dX6_keys_51 : decode cX6_keys 51 = .ok (.if_icmp .ge 52, 3) := by decide +kernel
theorem dX6_keys_54 : decode cX6_keys 54 = .ok (.aload_n 0, 1) := by decide +kernel
theorem dX6_keys_55 : decode cX6_keys 55 = .ok (.invokevirtual 183, 3) := by decide +kernel
theorem dX6_keys_58 : decode cX6_keys 58 = .ok (.aload_n 0, 1) := by decide +kernel
theorem dX6_keys_59 : decode cX6_keys 59 = .ok (.getfield 23, 3) := by decide +kernel
theorem dX6_keys_62 : decode cX6_keys 62 = .ok (.getfield 120, 3) := by decide +kernel
theorem dX6_keys_65 : decode cX6_keys 65 = .ok (.iload_n 1, 1) := by decide +kernel
theorem dX6_keys_66 : decode cX6_keys 66 = .ok (.aaload, 1) := by decide +kernel
theorem dX6_keys_67 : decode cX6_keys 67 = .ok (.iload 5, 2) := by decide +kernel
theorem dX6_keys_69 : decode cX6_keys 69 = .ok (.putfield 132, 3) := by decide +kernel
theorem dX6_keys_72 : decode cX6_keys 72 = .ok (.aload_n 0, 1) := by decide +kernel
theorem dX6_keys_73 : decode cX6_keys 73 = .ok (.getfield 23, 3) := by decide +kernel
theorem dX6_keys_76 : decode cX6_keys 76 = .ok (.iload_n 2, 1) := by decide +kernel
theorem dX6_keys_77 : decode cX6_keys 77 = .ok (.invokevirtual 165, 3) := by decide +kernel
theorem dX6_keys_80 : decode cX6_keys 80 = .ok (.aload_n 0, 1) := by decide +kernel
theorem dX6_keys_81 : decode cX6_keys 81 = .ok (.getfield 23, 3) := by decide +kernel
theorem dX6_keys_84 : decode cX6_keys 84 = .ok (.iload_n 3, 1) := by decide +kernel
theorem dX6_keys_85 : decode cX6_keys 85 = .ok (.invokevirtual 66, 3) := by decide +kernel
theorem dX6_keys_88 : decode cX6_keys 88 = .ok (.invokevirtual 93, 3) := by decide +kernel
theorem dX6_keys_91 : decode cX6_keys 91 = .ok (.ifCond .eq 6, 3) := by decide +kernel
theorem dX6_keys_94 : decode cX6_keys 94 = .ok (.iinc 4 1, 3) := by decide +kernel
theorem dX6_keys_97 : decode cX6_keys 97 = .ok (.iinc 5 1, 3) := by decide +kernel
theorem dX6_keys_100 : decode cX6_keys 100 = .ok (.goto (-53), 3) := by decide +kernel
theorem dX6_keys_103 : decode cX6_keys 103 = .ok (.iload 4, 2) := by decide +kernel
theorem dX6_keys_105 : decode cX6_keys 105 = .ok (.ireturn, 1) := by decide +kernel
theorem dX6_feed_0 : decode cX6_feed 0 = .ok (.iload_n 2, 1) := by decide +kernel
theorem dX6_feed_1 : decode cX6_feed 1 = .ok (.iconst 1, 1) := by decide +kernel
theorem dX6_feed_2 : decode cX6_feed 2 = .ok (.iconst 4, 1) := by decide +kernel
theorem dX6_feed_3 : decode cX6_feed 3 = .ok (.invokestatic 57, 3) := by decide +kernel
theorem dX6_feed_6 : decode cX6_feed 6 = .ok (.ifCond .ne 10, 3) := by decide +kernel
theorem dX6_feed_9 : decode cX6_feed 9 = .ok (.aload_n 0, 1) := by decide +kernel
theorem dX6_feed_10 : decode cX6_feed 10 = .ok (.ldc 61, 2) := by decide +kernel
theorem dX6_feed_12 : decode cX6_feed 12 = .ok (.invokevirtual 62, 3) := by decide +kernel
theorem dX6_feed_15 : decode cX6_feed 15 = .ok (.ireturn, 1) := by decide +kernel
theorem dX6_feed_16 : decode cX6_feed 16 = .ok (.aload_n 0, 1) := by decide +kernel
theorem dX6_feed_17 : decode cX6_feed 17 = .ok (.getfield 29, 3) := by decide +kernel
theorem dX6_feed_20 : decode cX6_feed 20 = .ok (.getfield 207, 3) := by decide +kernel
theorem dX6_feed_23 : decode cX6_feed 23 = .ok (.iload_n 2, 1) := by decide +kernel
theorem dX6_feed_24 : decode cX6_feed 24 = .ok (.iadd, 1) := by decide +kernel
theorem dX6_feed_25 : decode cX6_feed 25 = .ok (.bipush 120, 2) := by decide +kernel
theorem dX6_feed_27 : decode cX6_feed 27 = .ok (.if_icmp .le 10, 3) := by decide +kernel
theorem dX6_feed_30 : decode cX6_feed 30 = .ok (.aload_n 0, 1) := by decide +kernel
theorem dX6_feed_31 : decode cX6_feed 31 = .ok (.ldc 109, 2) := by decide +kernel
theorem dX6_feed_33 : decode cX6_feed 33 = .ok (.invokevirtual 62, 3) := by decide +kernel
theorem dX6_feed_36 : decode cX6_feed 36 = .ok (.ireturn, 1) := by decide +kernel
theorem dX6_feed_37 : decode cX6_feed 37 = .ok (.iload_n 2, 1) := by decide +kernel
theorem dX6_feed_38 : decode cX6_feed 38 = .ok (.iconst 1, 1) := by decide +kernel
theorem dX6_feed_39 : decode cX6_feed 39 = .ok (.isub, 1) := by decide +kernel
theorem dX6_feed_40 : decode cX6_feed 40 = .ok (.istore_n 3, 1) := by decide +kernel
theorem dX6_feed_41 : decode cX6_feed 41 = .ok (.iload_n 3, 1) := by decide +kernel
theorem dX6_feed_42 : decode cX6_feed 42 = .ok (.ifCond .lt 26, 3) := by decide +kernel
theorem dX6_feed_45 : decode cX6_feed 45 = .ok (.aload_n 0, 1) := by decide +kernel
theorem dX6_feed_46 : decode cX6_feed 46 = .ok (.getfield 29, 3) := by decide +kernel
theorem dX6_feed_49 : decode cX6_feed 49 = .ok (.iload_n 1, 1) := by decide +kernel
theorem dX6_feed_50 : decode cX6_feed 50 = .ok (.bipush 8, 2) := by decide +kernel
theorem dX6_feed_52 : decode cX6_feed 52 = .ok (.iload_n 3, 1) := by decide +kernel
theorem dX6_feed_53 : decode cX6_feed 53 = .ok (.imul, 1) := by decide +kernel
theorem dX6_feed_54 : decode cX6_feed 54 = .ok (.iushr, 1) := by decide +kernel
theorem dX6_feed_55 : decode cX6_feed 55 = .ok (.sipush 255, 3) := by decide +kernel
theorem dX6_feed_58 : decode cX6_feed 58 = .ok (.iand, 1) := by decide +kernel
theorem dX6_feed_59 : decode cX6_feed 59 = .ok (.invokevirtual 208, 3) := by decide +kernel
theorem dX6_feed_62 : decode cX6_feed 62 = .ok (.iinc 3 (-1), 3) := by decide +kernel
theorem dX6_feed_65 : decode cX6_feed 65 = .ok (.goto (-24), 3) := by decide +kernel
theorem dX6_feed_68 : decode cX6_feed 68 = .ok (.aload_n 0, 1) := by decide +kernel
theorem dX6_feed_69 : decode cX6_feed 69 = .ok (.getfield 29, 3) := by decide +kernel
theorem dX6_feed_72 : decode cX6_feed 72 = .ok (.getfield 207, 3) := by decide +kernel
theorem dX6_feed_75 : decode cX6_feed 75 = .ok (.ireturn, 1) := by decide +kernel
theorem dX6_wipe_0 : decode cX6_wipe 0 = .ok (.aload_n 0, 1) := by decide +kernel
theorem dX6_wipe_1 : decode cX6_wipe 1 = .ok (.getfield 29, 3) := by decide +kernel
theorem dX6_wipe_4 : decode cX6_wipe 4 = .ok (.getfield 207, 3) := by decide +kernel
theorem dX6_wipe_7 : decode cX6_wipe 7 = .ok (.istore_n 1, 1) := by decide +kernel
theorem dX6_wipe_8 : decode cX6_wipe 8 = .ok (.aload_n 0, 1) := by decide +kernel
theorem dX6_wipe_9 : decode cX6_wipe 9 = .ok (.getfield 29, 3) := by decide +kernel
theorem dX6_wipe_12 : decode cX6_wipe 12 = .ok (.invokevirtual 209, 3) := by decide +kernel
theorem dX6_wipe_15 : decode cX6_wipe 15 = .ok (.iload_n 1, 1) := by decide +kernel
theorem dX6_wipe_16 : decode cX6_wipe 16 = .ok (.ireturn, 1) := by decide +kernel
theorem dX6_affair_0 : decode cX6_affair 0 = .ok (.aload_n 0, 1) := by decide +kernel
theorem dX6_affair_1 : decode cX6_affair 1 = .ok (.invokevirtual 183, 3) := by decide +kernel
theorem dX6_affair_4 : decode cX6_affair 4 = .ok (.aload_n 0, 1) := by decide +kernel
theorem dX6_affair_5 : decode cX6_affair 5 = .ok (.getfield 38, 3) := by decide +kernel
theorem dX6_affair_8 : decode cX6_affair 8 = .ok (.aload_n 0, 1) := by decide +kernel
theorem dX6_affair_9 : decode cX6_affair 9 = .ok (.getfield 23, 3) := by decide +kernel
theorem dX6_affair_12 : decode cX6_affair 12 = .ok (.invokevirtual 210, 3) := by decide +kernel
theorem dX6_affair_15 : decode cX6_affair 15 = .ok (.istore_n 1, 1) := by decide +kernel
theorem dX6_affair_16 : decode cX6_affair 16 = .ok (.aload_n 0, 1) := by decide +kernel
theorem dX6_affair_17 : decode cX6_affair 17 = .ok (.getfield 29, 3) := by decide +kernel
theorem dX6_affair_20 : decode cX6_affair 20 = .ok (.invokevirtual 209, 3) := by decide +kernel
theorem dX6_affair_23 : decode cX6_affair 23 = .ok (.iload_n 1, 1) := by decide +kernel
theorem dX6_affair_24 : decode cX6_affair 24 = .ok (.ifCond .lt 14, 3) := by decide +kernel
theorem dX6_affair_27 : decode cX6_affair 27 = .ok (.aload_n 0, 1) := by decide +kernel
theorem dX6_affair_28 : decode cX6_affair 28 = .ok (.getfield 10, 3) := by decide +kernel
theorem dX6_affair_31 : decode cX6_affair 31 = .ok (.aload_n 0, 1) := by decide +kernel
theorem dX6_affair_32 : decode cX6_affair 32 = .ok (.getfield 23, 3) := by decide +kernel
theorem dX6_affair_35 : decode cX6_affair 35 = .ok (.invokevirtual 214, 3) := by decide +kernel
theorem dX6_affair_38 : decode cX6_affair 38 = .ok (.iload_n 1, 1) := by decide +kernel
theorem dX6_affair_39 : decode cX6_affair 39 = .ok (.ireturn, 1) := by decide +kernel
theorem dX6_sheet_0 : decode cX6_sheet 0 = .ok (.iload_n 1, 1) := by decide +kernel
theorem dX6_sheet_1 : decode cX6_sheet 1 = .ok (.invokestatic 218, 3) := by decide +kernel
theorem dX6_sheet_4 : decode cX6_sheet 4 = .ok (.ifCond .eq 10, 3) := by decide +kernel
theorem dX6_sheet_7 : decode cX6_sheet 7 = .ok (.iload_n 2, 1) := by decide +kernel
theorem dX6_sheet_8 : decode cX6_sheet 8 = .ok (.invokestatic 221, 3) := by decide +kernel
theorem dX6_sheet_11 : decode cX6_sheet 11 = .ok (.ifCond .ne 10, 3) := by decide +kernel
theorem dX6_sheet_14 : decode cX6_sheet 14 = .ok (.aload_n 0, 1) := by decide +kernel
theorem dX6_sheet_15 : decode cX6_sheet 15 = .ok (.ldc 61, 2) := by decide +kernel
theorem dX6_sheet_17 : decode cX6_sheet 17 = .ok (.invokevirtual 62, 3) := by decide +kernel
theorem dX6_sheet_20 : decode cX6_sheet 20 = .ok (.ireturn, 1) := by decide +kernel
theorem dX6_sheet_21 : decode cX6_sheet 21 = .ok (.iload_n 3, 1) := by decide +kernel
theorem dX6_sheet_22 : decode cX6_sheet 22 = .ok (.ifCond .ge 10, 3) := by decide +kernel
theorem dX6_sheet_25 : decode cX6_sheet 25 = .ok (.aload_n 0, 1) := by decide +kernel
theorem dX6_sheet_26 : decode cX6_sheet 26 = .ok (.ldc 224, 2) := by decide +kernel
theorem dX6_sheet_28 : decode cX6_sheet 28 = .ok (.invokevirtual 62, 3) := by decide +kernel
theorem dX6_sheet_31 : decode cX6_sheet 31 = .ok (.ireturn, 1) := by decide +kernel
theorem dX6_sheet_32 : decode cX6_sheet 32 = .ok (.iload_n 3, 1) := by decide +kernel
theorem dX6_sheet_33 : decode cX6_sheet 33 = .ok (.bipush 40, 2) := by decide +kernel
theorem dX6_sheet_35 : decode cX6_sheet 35 = .ok (.if_icmp .le 10, 3) := by decide +kernel
theorem dX6_sheet_38 : decode cX6_sheet 38 = .ok (.aload_n 0, 1) := by decide +kernel
theorem dX6_sheet_39 : decode cX6_sheet 39 = .ok (.ldc 61, 2) := by decide +kernel
theorem dX6_sheet_41 : decode cX6_sheet 41 = .ok (.invokevirtual 62, 3) := by decide +kernel
theorem dX6_sheet_44 : decode cX6_sheet 44 = .ok (.ireturn, 1) := by decide +kernel
theorem dX6_sheet_45 : decode cX6_sheet 45 = .ok (.iload_n 2, 1) := by decide +kernel
theorem dX6_sheet_46 : decode cX6_sheet 46 = .ok (.ifCond .ne 7, 3) := by decide +kernel
theorem dX6_sheet_49 : decode cX6_sheet 49 = .ok (.iconst 0, 1) := by decide +kernel
theorem dX6_sheet_50 : decode cX6_sheet 50 = .ok (.goto 4, 3) := by decide +kernel
theorem dX6_sheet_53 : decode cX6_sheet 53 = .ok (.iload_n 3, 1) := by decide +kernel
theorem dX6_sheet_54 : decode cX6_sheet 54 = .ok (.istore 4, 2) := by decide +kernel
theorem dX6_sheet_56 : decode cX6_sheet 56 = .ok (.aload_n 0, 1) := by decide +kernel
theorem dX6_sheet_57 : decode cX6_sheet 57 = .ok (.getfield 44, 3) := by decide +kernel
theorem dX6_sheet_60 : decode cX6_sheet 60 = .ok (.iload_n 1, 1) := by decide +kernel
theorem dX6_sheet_61 : decode cX6_sheet 61 = .ok (.aaload, 1) := by decide +kernel
theorem dX6_sheet_62 : decode cX6_sheet 62 = .ok (.iload_n 2, 1) := by decide +kernel
theorem dX6_sheet_63 : decode cX6_sheet 63 = .ok (.iload 4, 2) := by decide +kernel
theorem dX6_sheet_65 : decode cX6_sheet 65 = .ok (.invokevirtual 225, 3) := by decide +kernel
theorem dX6_sheet_68 : decode cX6_sheet 68 = .ok (.iload 4, 2) := by decide +kernel
theorem dX6_sheet_70 : decode cX6_sheet 70 = .ok (.ireturn, 1) := by decide +kernel
theorem dX6_write_0 : decode cX6_write 0 = .ok (.aload_n 0, 1) := by decide +kernel
theorem dX6_write_1 : decode cX6_write 1 = .ok (.iload_n 1, 1) := by decide +kernel
theorem dX6_write_2 : decode cX6_write 2 = .ok (.invokevirtual 229, 3) := by decide +kernel
theorem dX6_write_5 : decode cX6_write 5 = .ok (.istore 5, 2) := by decide +kernel
theorem dX6_write_7 : decode cX6_write 7 = .ok (.iload 5, 2) := by decide +kernel
theorem dX6_write_9 : decode cX6_write 9 = .ok (.ifCond .eq 11, 3) := by decide +kernel
theorem dX6_write_12 : decode cX6_write 12 = .ok (.aload_n 0, 1) := by decide +kernel
theorem dX6_write_13 : decode cX6_write 13 = .ok (.iload 5, 2) := by decide +kernel
theorem dX6_write_15 : decode cX6_write 15 = .ok (.invokevirtual 62, 3) := by decide +kernel
theorem dX6_write_18 : decode cX6_write 18 = .ok (.i2l, 1) := by decide +kernel
theorem dX6_write_19 : decode cX6_write 19 = .ok (.lreturn, 1) := by decide +kernel
theorem dX6_write_20 : decode cX6_write 20 = .ok (.aload_n 0, 1) := by decide +kernel
theorem dX6_write_21 : decode cX6_write 21 = .ok (.getfield 44, 3) := by decide +kernel
theorem dX6_write_24 : decode cX6_write 24 = .ok (.iload_n 1, 1) := by decide +kernel
theorem dX6_write_25 : decode cX6_write 25 = .ok (.aaload, 1) := by decide +kernel
theorem dX6_write_26 : decode cX6_write 26 = .ok (.astore 6, 2) := by decide +kernel
theorem dX6_write_28 : decode cX6_write 28 = .ok (.iload_n 2, 1) := by decide +kernel
theorem dX6_write_29 : decode cX6_write 29 = .ok (.iconst 0, 1) := by decide +kernel
theorem dX6_write_30 : decode cX6_write 30 = .ok (.aload 6, 2) := by decide +kernel
theorem dX6_write_32 : decode cX6_write 32 = .ok (.getfield 232, 3) := by decide +kernel
theorem dX6_write_35 : decode cX6_write 35 = .ok (.iconst 1, 1) := by decide +kernel
theorem dX6_write_36 : decode cX6_write 36 = .ok (.isub, 1) := by decide +kernel
theorem dX6_write_37 : decode cX6_write 37 = .ok (.invokestatic 57, 3) := by decide +kernel
theorem dX6_write_40 : decode cX6_write 40 = .ok (.ifCond .ne 11, 3) := by decide +kernel
theorem dX6_write_43 : decode cX6_write 43 = .ok (.aload_n 0, 1) := by decide +kernel
theorem dX6_write_44 : decode cX6_write 44 = .ok (.ldc 61, 2) := by decide +kernel
theorem dX6_write_46 : decode cX6_write 46 = .ok (.invokevirtual 62, 3) := by decide +kernel
theorem dX6_write_49 : decode cX6_write 49 = .ok (.i2l, 1) := by decide +kernel
theorem dX6_write_50 : decode cX6_write 50 = .ok (.lreturn, 1) := by decide +kernel
theorem dX6_write_51 : decode cX6_write 51 = .ok (.aload 6, 2) := by decide +kernel
theorem dX6_write_53 : decode cX6_write 53 = .ok (.getfield 235, 3) := by decide +kernel
theorem dX6_write_56 : decode cX6_write 56 = .ok (.iload_n 2, 1) := by decide +kernel
theorem dX6_write_57 : decode cX6_write 57 = .ok (.laload, 1) := by decide +kernel
theorem dX6_write_58 : decode cX6_write 58 = .ok (.lstore 7, 2) := by decide +kernel
theorem dX6_write_60 : decode cX6_write 60 = .ok (.aload 6, 2) := by decide +kernel
theorem dX6_write_62 : decode cX6_write 62 = .ok (.iload_n 2, 1) := by decide +kernel
theorem dX6_write_63 : decode cX6_write 63 = .ok (.lload_n 3, 1) := by decide +kernel
theorem dX6_write_64 : decode cX6_write 64 = .ok (.invokevirtual 239, 3) := by decide +kernel
theorem dX6_write_67 : decode cX6_write 67 = .ok (.lload 7, 2) := by decide +kernel
theorem dX6_write_69 : decode cX6_write 69 = .ok (.lreturn, 1) := by decide +kernel
theorem dX6_copy_0 : decode cX6_copy 0 = .ok (.iload_n 1, 1) := by decide +kernel
theorem dX6_copy_1 : decode cX6_copy 1 = .ok (.invokestatic 218, 3) := by decide +kernel
theorem dX6_copy_4 : decode cX6_copy 4 = .ok (.ifCond .eq 10, 3) := by decide +kernel
theorem dX6_copy_7 : decode cX6_copy 7 = .ok (.iload_n 3, 1) := by decide +kernel
theorem dX6_copy_8 : decode cX6_copy 8 = .ok (.invokestatic 218, 3) := by decide +kernel
theorem dX6_copy_11 : decode cX6_copy 11 = .ok (.ifCond .ne 10, 3) := by decide +kernel
theorem dX6_copy_14 : decode cX6_copy 14 = .ok (.aload_n 0, 1) := by decide +kernel
theorem dX6_copy_15 : decode cX6_copy 15 = .ok (.ldc 61, 2) := by decide +kernel
theorem dX6_copy_17 : decode cX6_copy 17 = .ok (.invokevirtual 62, 3) := by decide +kernel
theorem dX6_copy_20 : decode cX6_copy 20 = .ok (.ireturn, 1) := by decide +kernel
theorem dX6_copy_21 : decode cX6_copy 21 = .ok (.aload_n 0, 1) := by decide +kernel
theorem dX6_copy_22 : decode cX6_copy 22 = .ok (.getfield 44, 3) := by decide +kernel
theorem dX6_copy_25 : decode cX6_copy 25 = .ok (.iload_n 1, 1) := by decide +kernel
theorem dX6_copy_26 : decode cX6_copy 26 = .ok (.aaload, 1) := by decide +kernel
theorem dX6_copy_27 : decode cX6_copy 27 = .ok (.astore 6, 2) := by decide +kernel
theorem dX6_copy_29 : decode cX6_copy 29 = .ok (.aload_n 0, 1) := by decide +kernel
theorem dX6_copy_30 : decode cX6_copy 30 = .ok (.getfield 44, 3) := by decide +kernel
theorem dX6_copy_33 : decode cX6_copy 33 = .ok (.iload_n 3, 1) := by decide +kernel
theorem dX6_copy_34 : decode cX6_copy 34 = .ok (.aaload, 1) := by decide +kernel
theorem dX6_copy_35 : decode cX6_copy 35 = .ok (.astore 7, 2) := by decide +kernel
theorem dX6_copy_37 : decode cX6_copy 37 = .ok (.aload 6, 2) := by decide +kernel
theorem dX6_copy_39 : decode cX6_copy 39 = .ok (.invokevirtual 243, 3) := by decide +kernel
theorem dX6_copy_42 : decode cX6_copy 42 = .ok (.ifCond .ne 11, 3) := by decide +kernel
theorem dX6_copy_45 : decode cX6_copy 45 = .ok (.aload 7, 2) := by decide +kernel
theorem dX6_copy_47 : decode cX6_copy 47 = .ok (.invokevirtual 243, 3) := by decide +kernel
theorem dX6_copy_50 : decode cX6_copy 50 = .ok (.ifCond .eq 10, 3) := by decide +kernel
theorem dX6_copy_53 : decode cX6_copy 53 = .ok (.aload_n 0, 1) := by decide +kernel
theorem dX6_copy_54 : decode cX6_copy 54 = .ok (.ldc 246, 2) := by decide +kernel
theorem dX6_copy_56 : decode cX6_copy 56 = .ok (.invokevirtual 62, 3) := by decide +kernel
theorem dX6_copy_59 : decode cX6_copy 59 = .ok (.ireturn, 1) := by decide +kernel
theorem dX6_copy_60 : decode cX6_copy 60 = .ok (.aload 6, 2) := by decide +kernel
theorem dX6_copy_62 : decode cX6_copy 62 = .ok (.getfield 247, 3) := by decide +kernel
theorem dX6_copy_65 : decode cX6_copy 65 = .ok (.aload 7, 2) := by decide +kernel
theorem dX6_copy_67 : decode cX6_copy 67 = .ok (.getfield 247, 3) := by decide +kernel
theorem dX6_copy_70 : decode cX6_copy 70 = .ok (.if_icmp .eq 10, 3) := by decide +kernel
theorem dX6_copy_73 : decode cX6_copy 73 = .ok (.aload_n 0, 1) := by decide +kernel
theorem dX6_copy_74 : decode cX6_copy 74 = .ok (.ldc 160, 2) := by decide +kernel
theorem dX6_copy_76 : decode cX6_copy 76 = .ok (.invokevirtual 62, 3) := by decide +kernel
theorem dX6_copy_79 : decode cX6_copy 79 = .ok (.ireturn, 1) := by decide +kernel
theorem dX6_copy_80 : decode cX6_copy 80 = .ok (.aload 6, 2) := by decide +kernel
theorem dX6_copy_82 : decode cX6_copy 82 = .ok (.iload_n 2, 1) := by decide +kernel
theorem dX6_copy_83 : decode cX6_copy 83 = .ok (.iload 5, 2) := by decide +kernel
theorem dX6_copy_85 : decode cX6_copy 85 = .ok (.invokevirtual 250, 3) := by decide +kernel
theorem dX6_copy_88 : decode cX6_copy 88 = .ok (.ifCond .eq 15, 3) := by decide +kernel
theorem dX6_copy_91 : decode cX6_copy 91 = .ok (.aload 7, 2) := by decide +kernel
theorem dX6_copy_93 : decode cX6_copy 93 = .ok (.iload 4, 2) := by decide +kernel
theorem dX6_copy_95 : decode cX6_copy 95 = .ok (.iload 5, 2) := by decide +kernel
theorem dX6_copy_97 : decode cX6_copy 97 = .ok (.invokevirtual 250, 3) := by decide +kernel
theorem dX6_copy_100 : decode cX6_copy 100 = .ok (.ifCond .ne 10, 3) := by decide +kernel
theorem dX6_copy_103 : decode cX6_copy 103 = .ok (.aload_n 0, 1) := by decide +kernel
theorem dX6_copy_104 : decode cX6_copy 104 = .ok (.ldc 61, 2) := by decide +kernel
theorem dX6_copy_106 : decode cX6_copy 106 = .ok (.invokevirtual 62, 3) := by decide +kernel
theorem dX6_copy_109 : decode cX6_copy 109 = .ok (.ireturn, 1) := by decide +kernel
theorem dX6_copy_110 : decode cX6_copy 110 = .ok (.aload 6, 2) := by decide +kernel
theorem dX6_copy_112 : decode cX6_copy 112 = .ok (.getfield 235, 3) := by decide +kernel
theorem dX6_copy_115 : decode cX6_copy 115 = .ok (.iload_n 2, 1) := by decide +kernel
theorem dX6_copy_116 : decode cX6_copy 116 = .ok (.aload 7, 2) := by decide +kernel
theorem dX6_copy_118 : decode cX6_copy 118 = .ok (.getfield 235, 3) := by decide +kernel
theorem dX6_copy_121 : decode cX6_copy 121 = .ok (.iload 4, 2) := by decide +kernel
theorem dX6_copy_123 : decode cX6_copy 123 = .ok (.iload 5, 2) := by decide +kernel
theorem dX6_copy_125 : decode cX6_copy 125 = .ok (.invokestatic 253, 3) := by decide +kernel
theorem dX6_copy_128 : decode cX6_copy 128 = .ok (.iload 5, 2) := by decide +kernel
theorem dX6_copy_130 : decode cX6_copy 130 = .ok (.ireturn, 1) := by decide +kernel
theorem dX6_lays_0 : decode cX6_lays 0 = .ok (.aload_n 0, 1) := by decide +kernel
theorem dX6_lays_1 : decode cX6_lays 1 = .ok (.iload_n 1, 1) := by decide +kernel
theorem dX6_lays_2 : decode cX6_lays 2 = .ok (.iload_n 2, 1) := by decide +kernel
theorem dX6_lays_3 : decode cX6_lays 3 = .ok (.invokevirtual 259, 3) := by decide +kernel
theorem dX6_lays_6 : decode cX6_lays 6 = .ok (.istore_n 3, 1) := by decide +kernel
theorem dX6_lays_7 : decode cX6_lays 7 = .ok (.iload_n 3, 1) := by decide +kernel
theorem dX6_lays_8 : decode cX6_lays 8 = .ok (.ifCond .eq 9, 3) := by decide +kernel
theorem dX6_lays_11 : decode cX6_lays 11 = .ok (.aload_n 0, 1) := by decide +kernel
theorem dX6_lays_12 : decode cX6_lays 12 = .ok (.iload_n 3, 1) := by decide +kernel
theorem dX6_lays_13 : decode cX6_lays 13 = .ok (.invokevirtual 62, 3) := by decide +kernel
theorem dX6_lays_16 : decode cX6_lays 16 = .ok (.ireturn, 1) := by decide +kernel
theorem dX6_lays_17 : decode cX6_lays 17 = .ok (.aload_n 0, 1) := by decide +kernel
theorem dX6_lays_18 : decode cX6_lays 18 = .ok (.getfield 44, 3) := by decide +kernel
theorem dX6_lays_21 : decode cX6_lays 21 = .ok (.iload_n 1, 1) := by decide +kernel
theorem dX6_lays_22 : decode cX6_lays 22 = .ok (.aaload, 1) := by decide +kernel
theorem dX6_lays_23 : decode cX6_lays 23 = .ok (.astore 4, 2) := by decide +kernel
theorem dX6_lays_25 : decode cX6_lays 25 = .ok (.aload_n 0, 1) := by decide +kernel
theorem dX6_lays_26 : decode cX6_lays 26 = .ok (.getfield 10, 3) := by decide +kernel
theorem dX6_lays_29 : decode cX6_lays 29 = .ok (.iload_n 2, 1) := by decide +kernel
theorem dX6_lays_30 : decode cX6_lays 30 = .ok (.invokevirtual 66, 3) := by decide +kernel
theorem dX6_lays_33 : decode cX6_lays 33 = .ok (.astore 5, 2) := by decide +kernel
theorem dX6_lays_35 : decode cX6_lays 35 = .ok (.aload 5, 2) := by decide +kernel
theorem dX6_lays_37 : decode cX6_lays 37 = .ok (.invokevirtual 76, 3) := by decide +kernel
theorem dX6_lays_40 : decode cX6_lays 40 = .ok (.iconst 0, 1) := by decide +kernel
theorem dX6_lays_41 : decode cX6_lays 41 = .ok (.istore 6, 2) := by decide +kernel
theorem dX6_lays_43 : decode cX6_lays 43 = .ok (.iload 6, 2) := by decide +kernel
theorem dX6_lays_45 : decode cX6_lays 45 = .ok (.aload 4, 2) := by decide +kernel
theorem dX6_lays_47 : decode cX6_lays 47 = .ok (.getfield 232, 3) := by decide +kernel
theorem dX6_lays_50 : decode cX6_lays 50 = .ok (.if_icmp .ge 53, 3) := by decide +kernel
theorem dX6_lays_53 : decode cX6_lays 53 = .ok (.iload 6, 2) := by decide +kernel
theorem dX6_lays_55 : decode cX6_lays 55 = .ok (.bipush 12, 2) := by decide +kernel
theorem dX6_lays_57 : decode cX6_lays 57 = .ok (.if_icmp .ge 46, 3) := by decide +kernel
theorem dX6_lays_60 : decode cX6_lays 60 = .ok (.aload 4, 2) := by decide +kernel
theorem dX6_lays_62 : decode cX6_lays 62 = .ok (.getfield 235, 3) := by decide +kernel
theorem dX6_lays_65 : decode cX6_lays 65 = .ok (.iload 6, 2) := by decide +kernel
theorem dX6_lays_67 : decode cX6_lays 67 = .ok (.laload, 1) := by decide +kernel
theorem dX6_lays_68 : decode cX6_lays 68 = .ok (.lstore 7, 2) := by decide +kernel
theorem dX6_lays_70 : decode cX6_lays 70 = .ok (.lload 7, 2) := by decide +kernel
theorem dX6_lays_72 : decode cX6_lays 72 = .ok (.lconst 0, 1) := by decide +kernel
theorem dX6_lays_73 : decode cX6_lays 73 = .ok (.lcmp, 1) := by decide +kernel
theorem dX6_lays_74 : decode cX6_lays 74 = .ok (.ifCond .lt 29, 3) := by decide +kernel
theorem dX6_lays_77 : decode cX6_lays 77 = .ok (.lload 7, 2) := by decide +kernel
theorem dX6_lays_79 : decode cX6_lays 79 = .ok (.ldc2_w 262, 3) := by decide +kernel
theorem dX6_lays_82 : decode cX6_lays 82 = .ok (.lcmp, 1) := by decide +kernel
theorem dX6_lays_83 : decode cX6_lays 83 = .ok (.ifCond .lt 6, 3) := by decide +kernel
theorem dX6_lays_86 : decode cX6_lays 86 = .ok (.goto 17, 3) := by decide +kernel
theorem dX6_lays_89 : decode cX6_lays 89 = .ok (.aload 5, 2) := by decide +kernel
theorem dX6_lays_91 : decode cX6_lays 91 = .ok (.lload 7, 2) := by decide +kernel
theorem dX6_lays_93 : decode cX6_lays 93 = .ok (.l2i, 1) := by decide +kernel
theorem dX6_lays_94 : decode cX6_lays 94 = .ok (.invokevirtual 81, 3) := by decide +kernel
theorem dX6_lays_97 : decode cX6_lays 97 = .ok (.iinc 6 1, 3) := by decide +kernel
theorem dX6_lays_100 : decode cX6_lays 100 = .ok (.goto (-57), 3) := by decide +kernel
theorem dX6_lays_103 : decode cX6_lays 103 = .ok (.aload 5, 2) := by decide +kernel
theorem dX6_lays_105 : decode cX6_lays 105 = .ok (.getfield 70, 3) := by decide +kernel
theorem dX6_lays_108 : decode cX6_lays 108 = .ok (.ireturn, 1) := by decide +kernel
theorem dX6_book_0 : decode cX6_book 0 = .ok (.aload_n 0, 1) := by decide +kernel
theorem dX6_book_1 : decode cX6_book 1 = .ok (.iload_n 1, 1) := by decide +kernel
theorem dX6_book_2 : decode cX6_book 2 = .ok (.iload_n 2, 1) := by decide +kernel
theorem dX6_book_3 : decode cX6_book 3 = .ok (.invokevirtual 259, 3) := by decide +kernel
theorem dX6_book_6 : decode cX6_book 6 = .ok (.istore_n 3, 1) := by decide +kernel
theorem dX6_book_7 : decode cX6_book 7 = .ok (.iload_n 3, 1) := by decide +kernel
theorem dX6_book_8 : decode cX6_book 8 = .ok (.ifCond .eq 9, 3) := by decide +kernel
theorem dX6_book_11 : decode cX6_book 11 = .ok (.aload_n 0, 1) := by decide +kernel
theorem dX6_book_12 : decode cX6_book 12 = .ok (.iload_n 3, 1) := by decide +kernel
theorem dX6_book_13 : decode cX6_book 13 = .ok (.invokevirtual 62, 3) := by decide +kernel
theorem dX6_book_16 : decode cX6_book 16 = .ok (.ireturn, 1) := by decide +kernel
theorem dX6_book_17 : decode cX6_book 17 = .ok (.aload_n 0, 1) := by decide +kernel
theorem dX6_book_18 : decode cX6_book 18 = .ok (.getfield 44, 3) := by decide +kernel
theorem dX6_book_21 : decode cX6_book 21 = .ok (.iload_n 1, 1) := by decide +kernel
theorem dX6_book_22 : decode cX6_book 22 = .ok (.aaload, 1) := by decide +kernel
theorem dX6_book_23 : decode cX6_book 23 = .ok (.astore 4, 2) := by decide +kernel
theorem dX6_book_25 : decode cX6_book 25 = .ok (.aload_n 0, 1) := by decide +kernel
theorem dX6_book_26 : decode cX6_book 26 = .ok (.invokevirtual 183, 3) := by decide +kernel
theorem dX6_book_29 : decode cX6_book 29 = .ok (.iconst 0, 1) := by decide +kernel
theorem dX6_book_30 : decode cX6_book 30 = .ok (.istore 5, 2) := by decide +kernel
theorem dX6_book_32 : decode cX6_book 32 = .ok (.iload 5, 2) := by decide +kernel
theorem dX6_book_34 : decode cX6_book 34 = .ok (.aload 4, 2) := by decide +kernel
theorem dX6_book_36 : decode cX6_book 36 = .ok (.getfield 232, 3) := by decide +kernel
theorem dX6_book_39 : decode cX6_book 39 = .ok (.if_icmp .ge 35, 3) := by decide +kernel
theorem dX6_book_42 : decode cX6_book 42 = .ok (.aload 4, 2) := by decide +kernel
theorem dX6_book_44 : decode cX6_book 44 = .ok (.iload 5, 2) := by decide +kernel
theorem dX6_book_46 : decode cX6_book 46 = .ok (.aload_n 0, 1) := by decide +kernel
theorem dX6_book_47 : decode cX6_book 47 = .ok (.getfield 23, 3) := by decide +kernel
theorem dX6_book_50 : decode cX6_book 50 = .ok (.iload_n 2, 1) := by decide +kernel
theorem dX6_book_51 : decode cX6_book 51 = .ok (.invokevirtual 66, 3) := by decide +kernel
theorem dX6_book_54 : decode cX6_book 54 = .ok (.invokevirtual 89, 3) := by decide +kernel
theorem dX6_book_57 : decode cX6_book 57 = .ok (.i2l, 1) := by decide +kernel
theorem dX6_book_58 : decode cX6_book 58 = .ok (.invokevirtual 239, 3) := by decide +kernel
theorem dX6_book_61 : decode cX6_book 61 = .ok (.aload_n 0, 1) := by decide +kernel
theorem dX6_book_62 : decode cX6_book 62 = .ok (.getfield 23, 3) := by decide +kernel
theorem dX6_book_65 : decode cX6_book 65 = .ok (.invokevirtual 193, 3) := by decide +kernel
theorem dX6_book_68 : decode cX6_book 68 = .ok (.iinc 5 1, 3) := by decide +kernel
theorem dX6_book_71 : decode cX6_book 71 = .ok (.goto (-39), 3) := by decide +kernel
theorem dX6_book_74 : decode cX6_book 74 = .ok (.aload 4, 2) := by decide +kernel
theorem dX6_book_76 : decode cX6_book 76 = .ok (.getfield 232, 3) := by decide +kernel
theorem dX6_book_79 : decode cX6_book 79 = .ok (.ireturn, 1) := by decide +kernel
theorem dX6_read_0 : decode cX6_read 0 = .ok (.aload_n 0, 1) := by decide +kernel
theorem dX6_read_1 : decode cX6_read 1 = .ok (.iload_n 1, 1) := by decide +kernel
theorem dX6_read_2 : decode cX6_read 2 = .ok (.invokevirtual 229, 3) := by decide +kernel
theorem dX6_read_5 : decode cX6_read 5 = .ok (.istore_n 3, 1) := by decide +kernel
theorem dX6_read_6 : decode cX6_read 6 = .ok (.iload_n 3, 1) := by decide +kernel
theorem dX6_read_7 : decode cX6_read 7 = .ok (.ifCond .eq 9, 3) := by decide +kernel
theorem dX6_read_10 : decode cX6_read 10 = .ok (.aload_n 0, 1) := by decide +kernel
theorem dX6_read_11 : decode cX6_read 11 = .ok (.iload_n 3, 1) := by decide +kernel
theorem dX6_read_12 : decode cX6_read 12 = .ok (.invokevirtual 62, 3) := by decide +kernel
theorem dX6_read_15 : decode cX6_read 15 = .ok (.ireturn, 1) := by decide +kernel
theorem dX6_read_16 : decode cX6_read 16 = .ok (.aload_n 0, 1) := by decide +kernel
theorem dX6_read_17 : decode cX6_read 17 = .ok (.getfield 10, 3) := by decide +kernel
theorem dX6_read_20 : decode cX6_read 20 = .ok (.iload_n 2, 1) := by decide +kernel
theorem dX6_read_21 : decode cX6_read 21 = .ok (.invokevirtual 117, 3) := by decide +kernel
theorem dX6_read_24 : decode cX6_read 24 = .ok (.ifCond .ne 10, 3) := by decide +kernel
theorem dX6_read_27 : decode cX6_read 27 = .ok (.aload_n 0, 1) := by decide +kernel
theorem dX6_read_28 : decode cX6_read 28 = .ok (.ldc 61, 2) := by decide +kernel
theorem dX6_read_30 : decode cX6_read 30 = .ok (.invokevirtual 62, 3) := by decide +kernel
theorem dX6_read_33 : decode cX6_read 33 = .ok (.ireturn, 1) := by decide +kernel
theorem dX6_read_34 : decode cX6_read 34 = .ok (.aload_n 0, 1) := by decide +kernel
theorem dX6_read_35 : decode cX6_read 35 = .ok (.invokevirtual 183, 3) := by decide +kernel
theorem dX6_read_38 : decode cX6_read 38 = .ok (.aload_n 0, 1) := by decide +kernel
theorem dX6_read_39 : decode cX6_read 39 = .ok (.getfield 23, 3) := by decide +kernel
theorem dX6_read_42 : decode cX6_read 42 = .ok (.getfield 120, 3) := by decide +kernel
theorem dX6_read_45 : decode cX6_read 45 = .ok (.iload_n 2, 1) := by decide +kernel
theorem dX6_read_46 : decode cX6_read 46 = .ok (.aaload, 1) := by decide +kernel
theorem dX6_read_47 : decode cX6_read 47 = .ok (.astore 4, 2) := by decide +kernel
theorem dX6_read_49 : decode cX6_read 49 = .ok (.iconst 0, 1) := by decide +kernel
theorem dX6_read_50 : decode cX6_read 50 = .ok (.istore 5, 2) := by decide +kernel
theorem dX6_read_52 : decode cX6_read 52 = .ok (.iconst 0, 1) := by decide +kernel
theorem dX6_read_53 : decode cX6_read 53 = .ok (.istore 6, 2) := by decide +kernel
theorem dX6_read_55 : decode cX6_read 55 = .ok (.iload 6, 2) := by decide +kernel
theorem dX6_read_57 : decode cX6_read 57 = .ok (.bipush 6, 2) := by decide +kernel
theorem dX6_read_59 : decode cX6_read 59 = .ok (.if_icmp .ge 57, 3) := by decide +kernel
theorem dX6_read_62 : decode cX6_read 62 = .ok (.aload 4, 2) := by decide +kernel
theorem dX6_read_64 : decode cX6_read 64 = .ok (.iload 6, 2) := by decide +kernel
theorem dX6_read_66 : decode cX6_read 66 = .ok (.putfield 124, 3) := by decide +kernel
theorem dX6_read_69 : decode cX6_read 69 = .ok (.iconst 0, 1) := by decide +kernel
theorem dX6_read_70 : decode cX6_read 70 = .ok (.istore 7, 2) := by decide +kernel
theorem dX6_read_72 : decode cX6_read 72 = .ok (.iload 7, 2) := by decide +kernel
theorem dX6_read_74 : decode cX6_read 74 = .ok (.bipush 12, 2) := by decide +kernel
theorem dX6_read_76 : decode cX6_read 76 = .ok (.if_icmp .ge 34, 3) := by decide +kernel
theorem dX6_read_79 : decode cX6_read 79 = .ok (.aload 4, 2) := by decide +kernel
theorem dX6_read_81 : decode cX6_read 81 = .ok (.iload 7, 2) := by decide +kernel
theorem dX6_read_83 : decode cX6_read 83 = .ok (.putfield 132, 3) := by decide +kernel
theorem dX6_read_86 : decode cX6_read 86 = .ok (.aload_n 0, 1) := by decide +kernel
theorem dX6_read_87 : decode cX6_read 87 = .ok (.aload_n 0, 1) := by decide +kernel
theorem dX6_read_88 : decode cX6_read 88 = .ok (.getfield 44, 3) := by decide +kernel
theorem dX6_read_91 : decode cX6_read 91 = .ok (.iload_n 1, 1) := by decide +kernel
theorem dX6_read_92 : decode cX6_read 92 = .ok (.aaload, 1) := by decide +kernel
theorem dX6_read_93 : decode cX6_read 93 = .ok (.aload 4, 2) := by decide +kernel
theorem dX6_read_95 : decode cX6_read 95 = .ok (.invokevirtual 264, 3) := by decide +kernel
theorem dX6_read_98 : decode cX6_read 98 = .ok (.ifCond .eq 6, 3) := by decide +kernel
theorem dX6_read_101 : decode cX6_read 101 = .ok (.iinc 5 1, 3) := by decide +kernel
theorem dX6_read_104 : decode cX6_read 104 = .ok (.iinc 7 1, 3) := by decide +kernel
theorem dX6_read_107 : decode cX6_read 107 = .ok (.goto (-35), 3) := by decide +kernel
theorem dX6_read_110 : decode cX6_read 110 = .ok (.iinc 6 1, 3) := by decide +kernel
theorem dX6_read_113 : decode cX6_read 113 = .ok (.goto (-58), 3) := by decide +kernel
theorem dX6_read_116 : decode cX6_read 116 = .ok (.iload 5, 2) := by decide +kernel
theorem dX6_read_118 : decode cX6_read 118 = .ok (.ireturn, 1) := by decide +kernel
theorem dX6_image_0 : decode cX6_image 0 = .ok (.aload_n 0, 1) := by decide +kernel
theorem dX6_image_1 : decode cX6_image 1 = .ok (.getfield 16, 3) := by decide +kernel
theorem dX6_image_4 : decode cX6_image 4 = .ok (.aload_n 0, 1) := by decide +kernel
theorem dX6_image_5 : decode cX6_image 5 = .ok (.getfield 10, 3) := by decide +kernel
theorem dX6_image_8 : decode cX6_image 8 = .ok (.invokevirtual 214, 3) := by decide +kernel
theorem dX6_image_11 : decode cX6_image 11 = .ok (.aload_n 0, 1) := by decide +kernel
theorem dX6_image_12 : decode cX6_image 12 = .ok (.iconst 1, 1) := by decide +kernel
theorem dX6_image_13 : decode cX6_image 13 = .ok (.putfield 19, 3) := by decide +kernel
theorem dX6_image_16 : decode cX6_image 16 = .ok (.iconst 1, 1) := by decide +kernel
theorem dX6_image_17 : decode cX6_image 17 = .ok (.ireturn, 1) := by decide +kernel
theorem dX6_undo_0 : decode cX6_undo 0 = .ok (.aload_n 0, 1) := by decide +kernel
theorem dX6_undo_1 : decode cX6_undo 1 = .ok (.getfield 19, 3) := by decide +kernel
theorem dX6_undo_4 : decode cX6_undo 4 = .ok (.ifCond .ne 10, 3) := by decide +kernel
theorem dX6_undo_7 : decode cX6_undo 7 = .ok (.aload_n 0, 1) := by decide +kernel
theorem dX6_undo_8 : decode cX6_undo 8 = .ok (.ldc 149, 2) := by decide +kernel
theorem dX6_undo_10 : decode cX6_undo 10 = .ok (.invokevirtual 62, 3) := by decide +kernel
theorem dX6_undo_13 : decode cX6_undo 13 = .ok (.ireturn, 1) := by decide +kernel
theorem dX6_undo_14 : decode cX6_undo 14 = .ok (.aload_n 0, 1) := by decide +kernel
theorem dX6_undo_15 : decode cX6_undo 15 = .ok (.getfield 10, 3) := by decide +kernel
theorem dX6_undo_18 : decode cX6_undo 18 = .ok (.aload_n 0, 1) := by decide +kernel
theorem dX6_undo_19 : decode cX6_undo 19 = .ok (.getfield 16, 3) := by decide +kernel
theorem dX6_undo_22 : decode cX6_undo 22 = .ok (.invokevirtual 214, 3) := by decide +kernel
theorem dX6_undo_25 : decode cX6_undo 25 = .ok (.aload_n 0, 1) := by decide +kernel
theorem dX6_undo_26 : decode cX6_undo 26 = .ok (.getfield 10, 3) := by decide +kernel
theorem dX6_undo_29 : decode cX6_undo 29 = .ok (.getfield 110, 3) := by decide +kernel
theorem dX6_undo_32 : decode cX6_undo 32 = .ok (.ireturn, 1) := by decide +kernel
theorem dX6_tear_0 : decode cX6_tear 0 = .ok (.aload_n 0, 1) := by decide +kernel
theorem dX6_tear_1 : decode cX6_tear 1 = .ok (.getfield 19, 3) := by decide +kernel
theorem dX6_tear_4 : decode cX6_tear 4 = .ok (.ifCond .eq 7, 3) := by decide +kernel
theorem dX6_tear_7 : decode cX6_tear 7 = .ok (.iconst 1, 1) := by decide +kernel
theorem dX6_tear_8 : decode cX6_tear 8 = .ok (.goto 4, 3) := by decide +kernel
theorem dX6_tear_11 : decode cX6_tear 11 = .ok (.iconst 0, 1) := by decide +kernel
theorem dX6_tear_12 : decode cX6_tear 12 = .ok (.istore_n 1, 1) := by decide +kernel
theorem dX6_tear_13 : decode cX6_tear 13 = .ok (.aload_n 0, 1) := by decide +kernel
theorem dX6_tear_14 : decode cX6_tear 14 = .ok (.iconst 0, 1) := by decide +kernel
theorem dX6_tear_15 : decode cX6_tear 15 = .ok (.putfield 19, 3) := by decide +kernel
theorem dX6_tear_18 : decode cX6_tear 18 = .ok (.iload_n 1, 1) := by decide +kernel
theorem dX6_tear_19 : decode cX6_tear 19 = .ok (.ireturn, 1) := by decide +kernel
theorem dX6_count_0 : decode cX6_count 0 = .ok (.iload_n 1, 1) := by decide +kernel
theorem dX6_count_1 : decode cX6_count 1 = .ok (.tableswitch 63 0 3 #[31, 39, 47, 55], 31) := by decide +kernel
theorem dX6_count_32 : decode cX6_count 32 = .ok (.aload_n 0, 1) := by decide +kernel
theorem dX6_count_33 : decode cX6_count 33 = .ok (.getfield 10, 3) := by decide +kernel
theorem dX6_count_36 : decode cX6_count 36 = .ok (.getfield 110, 3) := by decide +kernel
theorem dX6_count_39 : decode cX6_count 39 = .ok (.ireturn, 1) := by decide +kernel
theorem dX6_count_40 : decode cX6_count 40 = .ok (.aload_n 0, 1) := by decide +kernel
theorem dX6_count_41 : decode cX6_count 41 = .ok (.getfield 29, 3) := by decide +kernel
theorem dX6_count_44 : decode cX6_count 44 = .ok (.getfield 207, 3) := by decide +kernel
theorem dX6_count_47 : decode cX6_count 47 = .ok (.ireturn, 1) := by decide +kernel
theorem dX6_count_48 : decode cX6_count 48 = .ok (.aload_n 0, 1) := by decide +kernel
theorem dX6_count_49 : decode cX6_count 49 = .ok (.getfield 10, 3) := by decide +kernel
theorem dX6_count_52 : decode cX6_count 52 = .ok (.invokevirtual 268, 3) := by decide +kernel
theorem dX6_count_55 : decode cX6_count 55 = .ok (.ireturn, 1) := by decide +kernel
theorem dX6_count_56 : decode cX6_count 56 = .ok (.aload_n 0, 1) := by decide +kernel
theorem dX6_count_57 : decode cX6_count 57 = .ok (.getfield 10, 3) := by decide +kernel
theorem dX6_count_60 : decode cX6_count 60 = .ok (.invokevirtual 271, 3) := by decide +kernel
theorem dX6_count_63 : decode cX6_count 63 = .ok (.ireturn, 1) := by decide +kernel
theorem dX6_count_64 : decode cX6_count 64 = .ok (.aload_n 0, 1) := by decide +kernel
theorem dX6_count_65 : decode cX6_count 65 = .ok (.ldc 61, 2) := by decide +kernel
theorem dX6_count_67 : decode cX6_count 67 = .ok (.invokevirtual 62, 3) := by decide +kernel
theorem dX6_count_70 : decode cX6_count 70 = .ok (.ireturn, 1) := by decide +kernel
theorem dX6_status_0 : decode cX6_status 0 = .ok (.iload_n 1, 1) := by decide +kernel
theorem dX6_status_1 : decode cX6_status 1 = .ok (.iconst (-1), 1) := by decide +kernel
theorem dX6_status_2 : decode cX6_status 2 = .ok (.bipush 6, 2) := by decide +kernel
theorem dX6_status_4 : decode cX6_status 4 = .ok (.invokestatic 57, 3) := by decide +kernel
theorem dX6_status_7 : decode cX6_status 7 = .ok (.ifCond .ne 10, 3) := by decide +kernel
theorem dX6_status_10 : decode cX6_status 10 = .ok (.aload_n 0, 1) := by decide +kernel
theorem dX6_status_11 : decode cX6_status 11 = .ok (.ldc 61, 2) := by decide +kernel
theorem dX6_status_13 : decode cX6_status 13 = .ok (.invokevirtual 62, 3) := by decide +kernel
theorem dX6_status_16 : decode cX6_status 16 = .ok (.ireturn, 1) := by decide +kernel
theorem dX6_status_17 : decode cX6_status 17 = .ok (.iload_n 1, 1) := by decide +kernel
theorem dX6_status_18 : decode cX6_status 18 = .ok (.ifCond .lt 10, 3) := by decide +kernel
theorem dX6_status_21 : decode cX6_status 21 = .ok (.aload_n 0, 1) := by decide +kernel
theorem dX6_status_22 : decode cX6_status 22 = .ok (.getfield 49, 3) := by decide +kernel
theorem dX6_status_25 : decode cX6_status 25 = .ok (.iload_n 1, 1) := by decide +kernel
theorem dX6_status_26 : decode cX6_status 26 = .ok (.iaload, 1) := by decide +kernel
theorem dX6_status_27 : decode cX6_status 27 = .ok (.ireturn, 1) := by decide +kernel
theorem dX6_status_28 : decode cX6_status 28 = .ok (.iconst 0, 1) := by decide +kernel
theorem dX6_status_29 : decode cX6_status 29 = .ok (.istore_n 2, 1) := by decide +kernel
theorem dX6_status_30 : decode cX6_status 30 = .ok (.iconst 0, 1) := by decide +kernel
theorem dX6_status_31 : decode cX6_status 31 = .ok (.istore_n 3, 1) := by decide +kernel
theorem dX6_status_32 : decode cX6_status 32 = .ok (.iload_n 3, 1) := by decide +kernel
theorem dX6_status_33 : decode cX6_status 33 = .ok (.bipush 7, 2) := by decide +kernel
theorem dX6_status_35 : decode cX6_status 35 = .ok (.if_icmp .ge 18, 3) := by decide +kernel
theorem dX6_status_38 : decode cX6_status 38 = .ok (.iload_n 2, 1) := by decide +kernel
theorem dX6_status_39 : decode cX6_status 39 = .ok (.aload_n 0, 1) := by decide +kernel
theorem dX6_status_40 : decode cX6_status 40 = .ok (.getfield 49, 3) := by decide +kernel
theorem dX6_status_43 : decode cX6_status 43 = .ok (.iload_n 3, 1) := by decide +kernel
theorem dX6_status_44 : decode cX6_status 44 = .ok (.iaload, 1) := by decide +kernel
theorem dX6_status_45 : decode cX6_status 45 = .ok (.iadd, 1) := by decide +kernel
theorem dX6_status_46 : decode cX6_status 46 = .ok (.istore_n 2, 1) := by decide +kernel
theorem dX6_status_47 : decode cX6_status 47 = .ok (.iinc 3 1, 3) := by decide +kernel
theorem dX6_status_50 : decode cX6_status 50 = .ok (.goto (-18), 3) := by decide +kernel
theorem dX6_status_53 : decode cX6_status 53 = .ok (.iload_n 2, 1) := by decide +kernel
theorem dX6_status_54 : decode cX6_status 54 = .ok (.ireturn, 1) := by decide +kernel
theorem dX6_found_0 : decode cX6_found 0 = .ok (.ldc 61, 2) := by decide +kernel
theorem dX6_found_2 : decode cX6_found 2 = .ok (.iload_n 1, 1) := by decide +kernel
theorem dX6_found_3 : decode cX6_found 3 = .ok (.isub, 1) := by decide +kernel
theorem dX6_found_4 : decode cX6_found 4 = .ok (.istore_n 2, 1) := by decide +kernel
theorem dX6_found_5 : decode cX6_found 5 = .ok (.iload_n 2, 1) := by decide +kernel
theorem dX6_found_6 : decode cX6_found 6 = .ok (.iconst 0, 1) := by decide +kernel
theorem dX6_found_7 : decode cX6_found 7 = .ok (.bipush 6, 2) := by decide +kernel
theorem dX6_found_9 : decode cX6_found 9 = .ok (.invokestatic 57, 3) := by decide +kernel
theorem dX6_found_12 : decode cX6_found 12 = .ok (.ifCond .eq 13, 3) := by decide +kernel
theorem dX6_found_15 : decode cX6_found 15 = .ok (.aload_n 0, 1) := by decide +kernel
theorem dX6_found_16 : decode cX6_found 16 = .ok (.getfield 49, 3) := by decide +kernel
theorem dX6_found_19 : decode cX6_found 19 = .ok (.iload_n 2, 1) := by decide +kernel
theorem dX6_found_20 : decode cX6_found 20 = .ok (.dup2, 1) := by decide +kernel
theorem dX6_found_21 : decode cX6_found 21 = .ok (.iaload, 1) := by decide +kernel
theorem dX6_found_22 : decode cX6_found 22 = .ok (.iconst 1, 1) := by decide +kernel
theorem dX6_found_23 : decode cX6_found 23 = .ok (.iadd, 1) := by decide +kernel
theorem dX6_found_24 : decode cX6_found 24 = .ok (.iastore, 1) := by decide +kernel
theorem dX6_found_25 : decode cX6_found 25 = .ok (.iload_n 1, 1) := by decide +kernel
theorem dX6_found_26 : decode cX6_found 26 = .ok (.ireturn, 1) := by decide +kernel
theorem dX6_toneOrNone_0 : decode cX6_toneOrNone 0 = .ok (.iload_n 2, 1) := by decide +kernel
theorem dX6_toneOrNone_1 : decode cX6_toneOrNone 1 = .ok (.aload_n 1, 1) := by decide +kernel
theorem dX6_toneOrNone_2 : decode cX6_toneOrNone 2 = .ok (.getfield 70, 3) := by decide +kernel
theorem dX6_toneOrNone_5 : decode cX6_toneOrNone 5 = .ok (.if_icmp .ge 11, 3) := by decide +kernel
theorem dX6_toneOrNone_8 : decode cX6_toneOrNone 8 = .ok (.aload_n 1, 1) := by decide +kernel
theorem dX6_toneOrNone_9 : decode cX6_toneOrNone 9 = .ok (.iload_n 2, 1) := by decide +kernel
theorem dX6_toneOrNone_10 : decode cX6_toneOrNone 10 = .ok (.invokevirtual 274, 3) := by decide +kernel
theorem dX6_toneOrNone_13 : decode cX6_toneOrNone 13 = .ok (.goto 9, 3) := by decide +kernel
theorem dX6_toneOrNone_16 : decode cX6_toneOrNone 16 = .ok (.aload_n 0, 1) := by decide +kernel
theorem dX6_toneOrNone_17 : decode cX6_toneOrNone 17 = .ok (.ldc 149, 2) := by decide +kernel
theorem dX6_toneOrNone_19 : decode cX6_toneOrNone 19 = .ok (.invokevirtual 62, 3) := by decide +kernel
theorem dX6_toneOrNone_22 : decode cX6_toneOrNone 22 = .ok (.ireturn, 1) := by decide +kernel
theorem dX6_startTrial_0 : decode cX6_startTrial 0 = .ok (.aload_n 0, 1) := by decide +kernel
theorem dX6_startTrial_1 : decode cX6_startTrial 1 = .ok (.getfield 23, 3) := by decide +kernel
theorem dX6_startTrial_4 : decode cX6_startTrial 4 = .ok (.aload_n 0, 1) := by decide +kernel
theorem dX6_startTrial_5 : decode cX6_startTrial 5 = .ok (.getfield 10, 3) := by decide +kernel
theorem dX6_startTrial_8 : decode cX6_startTrial 8 = .ok (.invokevirtual 214, 3) := by decide +kernel
theorem dX6_startTrial_11 : decode cX6_startTrial 11 = .ok (.return_, 1) := by decide +kernel
theorem dX6_soonestHome_0 : decode cX6_soonestHome 0 = .ok (.ldc 149, 2) := by decide +kernel
theorem dX6_soonestHome_2 : decode cX6_soonestHome 2 = .ok (.istore 6, 2) := by decide +kernel
theorem dX6_soonestHome_4 : decode cX6_soonestHome 4 = .ok (.iload 5, 2) := by decide +kernel
theorem dX6_soonestHome_6 : decode cX6_soonestHome 6 = .ok (.istore 7, 2) := by decide +kernel
theorem dX6_soonestHome_8 : decode cX6_soonestHome 8 = .ok (.iconst 0, 1) := by decide +kernel
theorem dX6_soonestHome_9 : decode cX6_soonestHome 9 = .ok (.istore 8, 2) := by decide +kernel
theorem dX6_soonestHome_11 : decode cX6_soonestHome 11 = .ok (.iload 8, 2) := by decide +kernel
theorem dX6_soonestHome_13 : decode cX6_soonestHome 13 = .ok (.iload 4, 2) := by decide +kernel
theorem dX6_soonestHome_15 : decode cX6_soonestHome 15 = .ok (.if_icmp .ge 57, 3) := by decide +kernel
theorem dX6_soonestHome_18 : decode cX6_soonestHome 18 = .ok (.aload_n 0, 1) := by decide +kernel
theorem dX6_soonestHome_19 : decode cX6_soonestHome 19 = .ok (.invokevirtual 183, 3) := by decide +kernel
theorem dX6_soonestHome_22 : decode cX6_soonestHome 22 = .ok (.aload_n 0, 1) := by decide +kernel
theorem dX6_soonestHome_23 : decode cX6_soonestHome 23 = .ok (.getfield 23, 3) := by decide +kernel
theorem dX6_soonestHome_26 : decode cX6_soonestHome 26 = .ok (.getfield 120, 3) := by decide +kernel
theorem dX6_soonestHome_29 : decode cX6_soonestHome 29 = .ok (.iload_n 1, 1) := by decide +kernel
theorem dX6_soonestHome_30 : decode cX6_soonestHome 30 = .ok (.aaload, 1) := by decide +kernel
theorem dX6_soonestHome_31 : decode cX6_soonestHome 31 = .ok (.iload_n 3, 1) := by decide +kernel
theorem dX6_soonestHome_32 : decode cX6_soonestHome 32 = .ok (.iload 8, 2) := by decide +kernel
theorem dX6_soonestHome_34 : decode cX6_soonestHome 34 = .ok (.invokevirtual 277, 3) := by decide +kernel
theorem dX6_soonestHome_37 : decode cX6_soonestHome 37 = .ok (.aload_n 0, 1) := by decide +kernel
theorem dX6_soonestHome_38 : decode cX6_soonestHome 38 = .ok (.getfield 23, 3) := by decide +kernel
theorem dX6_soonestHome_41 : decode cX6_soonestHome 41 = .ok (.iload_n 2, 1) := by decide +kernel
theorem dX6_soonestHome_42 : decode cX6_soonestHome 42 = .ok (.iload 7, 2) := by decide +kernel
theorem dX6_soonestHome_44 : decode cX6_soonestHome 44 = .ok (.iconst 1, 1) := by decide +kernel
theorem dX6_soonestHome_45 : decode cX6_soonestHome 45 = .ok (.isub, 1) := by decide +kernel
theorem dX6_soonestHome_46 : decode cX6_soonestHome 46 = .ok (.invokevirtual 186, 3) := by decide +kernel
theorem dX6_soonestHome_49 : decode cX6_soonestHome 49 = .ok (.istore 9, 2) := by decide +kernel
theorem dX6_soonestHome_51 : decode cX6_soonestHome 51 = .ok (.iload 9, 2) := by decide +kernel
theorem dX6_soonestHome_53 : decode cX6_soonestHome 53 = .ok (.iload 7, 2) := by decide +kernel
theorem dX6_soonestHome_55 : decode cX6_soonestHome 55 = .ok (.if_icmp .ge 11, 3) := by decide +kernel
theorem dX6_soonestHome_58 : decode cX6_soonestHome 58 = .ok (.iload 9, 2) := by decide +kernel
theorem dX6_soonestHome_60 : decode cX6_soonestHome 60 = .ok (.istore 7, 2) := by decide +kernel
theorem dX6_soonestHome_62 : decode cX6_soonestHome 62 = .ok (.iload 8, 2) := by decide +kernel
theorem dX6_soonestHome_64 : decode cX6_soonestHome 64 = .ok (.istore 6, 2) := by decide +kernel
theorem dX6_soonestHome_66 : decode cX6_soonestHome 66 = .ok (.iinc 8 1, 3) := by decide +kernel
theorem dX6_soonestHome_69 : decode cX6_soonestHome 69 = .ok (.goto (-58), 3) := by decide +kernel
theorem dX6_soonestHome_72 : decode cX6_soonestHome 72 = .ok (.iload 6, 2) := by decide +kernel
theorem dX6_soonestHome_74 : decode cX6_soonestHome 74 = .ok (.ldc 149, 2) := by decide +kernel
theorem dX6_soonestHome_76 : decode cX6_soonestHome 76 = .ok (.if_icmp .ne 12, 3) := by decide +kernel
theorem dX6_soonestHome_79 : decode cX6_soonestHome 79 = .ok (.aload_n 0, 1) := by decide +kernel
theorem dX6_soonestHome_80 : decode cX6_soonestHome 80 = .ok (.ldc 149, 2) := by decide +kernel
theorem dX6_soonestHome_82 : decode cX6_soonestHome 82 = .ok (.invokevirtual 62, 3) := by decide +kernel
theorem dX6_soonestHome_85 : decode cX6_soonestHome 85 = .ok (.goto 5, 3) := by decide +kernel
theorem dX6_soonestHome_88 : decode cX6_soonestHome 88 = .ok (.iload 6, 2) := by decide +kernel
theorem dX6_soonestHome_90 : decode cX6_soonestHome 90 = .ok (.ireturn, 1) := by decide +kernel
theorem dX6_startTrialSwapped_0 : decode cX6_startTrialSwapped 0 = .ok (.aload_n 0, 1) := by decide +kernel
theorem dX6_startTrialSwapped_1 : decode cX6_startTrialSwapped 1 = .ok (.getfield 10, 3) := by decide +kernel
theorem dX6_startTrialSwapped_4 : decode cX6_startTrialSwapped 4 = .ok (.getfield 120, 3) := by decide +kernel
theorem dX6_startTrialSwapped_7 : decode cX6_startTrialSwapped 7 = .ok (.iload_n 1, 1) := by decide +kernel
theorem dX6_startTrialSwapped_8 : decode cX6_startTrialSwapped 8 = .ok (.aaload, 1) := by decide +kernel
theorem dX6_startTrialSwapped_9 : decode cX6_startTrialSwapped 9 = .ok (.getfield 129, 3) := by decide +kernel
theorem dX6_startTrialSwapped_12 : decode cX6_startTrialSwapped 12 = .ok (.istore_n 3, 1) := by decide +kernel
theorem dX6_startTrialSwapped_13 : decode cX6_startTrialSwapped 13 = .ok (.aload_n 0, 1) := by decide +kernel
theorem dX6_startTrialSwapped_14 : decode cX6_startTrialSwapped 14 = .ok (.getfield 10, 3) := by decide +kernel
theorem dX6_startTrialSwapped_17 : decode cX6_startTrialSwapped 17 = .ok (.getfield 120, 3) := by decide +kernel
theorem dX6_startTrialSwapped_20 : decode cX6_startTrialSwapped 20 = .ok (.iload_n 2, 1) := by decide +kernel
theorem dX6_startTrialSwapped_21 : decode cX6_startTrialSwapped 21 = .ok (.aaload, 1) := by decide +kernel
theorem dX6_startTrialSwapped_22 : decode cX6_startTrialSwapped 22 = .ok (.getfield 129, 3) := by decide +kernel
theorem dX6_startTrialSwapped_25 : decode cX6_startTrialSwapped 25 = .ok (.istore 4, 2) := by decide +kernel
theorem dX6_startTrialSwapped_27 : decode cX6_startTrialSwapped 27 = .ok (.iload_n 3, 1) := by decide +kernel
theorem dX6_startTrialSwapped_28 : decode cX6_startTrialSwapped 28 = .ok (.iload 4, 2) := by decide +kernel
theorem dX6_startTrialSwapped_30 : decode cX6_startTrialSwapped 30 = .ok (.if_icmp .ne 5, 3) := by decide +kernel
theorem dX6_startTrialSwapped_33 : decode cX6_startTrialSwapped 33 = .ok (.iconst 0, 1) := by decide +kernel
theorem dX6_startTrialSwapped_34 : decode cX6_startTrialSwapped 34 = .ok (.ireturn, 1) := by decide +kernel
theorem dX6_startTrialSwapped_35 : decode cX6_startTrialSwapped 35 = .ok (.aload_n 0, 1) := by decide +kernel
theorem dX6_startTrialSwapped_36 : decode cX6_startTrialSwapped 36 = .ok (.invokevirtual 183, 3) := by decide +kernel
theorem dX6_startTrialSwapped_39 : decode cX6_startTrialSwapped 39 = .ok (.aload_n 0, 1) := by decide +kernel
theorem dX6_startTrialSwapped_40 : decode cX6_startTrialSwapped 40 = .ok (.getfield 23, 3) := by decide +kernel
theorem dX6_startTrialSwapped_43 : decode cX6_startTrialSwapped 43 = .ok (.getfield 120, 3) := by decide +kernel
theorem dX6_startTrialSwapped_46 : decode cX6_startTrialSwapped 46 = .ok (.iload_n 1, 1) := by decide +kernel
theorem dX6_startTrialSwapped_47 : decode cX6_startTrialSwapped 47 = .ok (.aaload, 1) := by decide +kernel
theorem dX6_startTrialSwapped_48 : decode cX6_startTrialSwapped 48 = .ok (.iload 4, 2) := by decide +kernel
theorem dX6_startTrialSwapped_50 : decode cX6_startTrialSwapped 50 = .ok (.putfield 129, 3) := by decide +kernel
theorem dX6_startTrialSwapped_53 : decode cX6_startTrialSwapped 53 = .ok (.aload_n 0, 1) := by decide +kernel
theorem dX6_startTrialSwapped_54 : decode cX6_startTrialSwapped 54 = .ok (.getfield 23, 3) := by decide +kernel
theorem dX6_startTrialSwapped_57 : decode cX6_startTrialSwapped 57 = .ok (.getfield 120, 3) := by decide +kernel
theorem dX6_startTrialSwapped_60 : decode cX6_startTrialSwapped 60 = .ok (.iload_n 2, 1) := by decide +kernel
theorem dX6_startTrialSwapped_61 : decode cX6_startTrialSwapped 61 = .ok (.aaload, 1) := by decide +kernel
theorem dX6_startTrialSwapped_62 : decode cX6_startTrialSwapped 62 = .ok (.iload_n 3, 1) := by decide +kernel
theorem dX6_startTrialSwapped_63 : decode cX6_startTrialSwapped 63 = .ok (.putfield 129, 3) := by decide +kernel
theorem dX6_startTrialSwapped_66 : decode cX6_startTrialSwapped 66 = .ok (.iconst 1, 1) := by decide +kernel
theorem dX6_startTrialSwapped_67 : decode cX6_startTrialSwapped 67 = .ok (.ireturn, 1) := by decide +kernel
theorem dX6_isJustWritten_0 : decode cX6_isJustWritten 0 = .ok (.aload_n 0, 1) := by decide +kernel
theorem dX6_isJustWritten_1 : decode cX6_isJustWritten 1 = .ok (.getfield 10, 3) := by decide +kernel
theorem dX6_isJustWritten_4 : decode cX6_isJustWritten 4 = .ok (.aload_n 2, 1) := by decide +kernel
theorem dX6_isJustWritten_5 : decode cX6_isJustWritten 5 = .ok (.invokevirtual 141, 3) := by decide +kernel
theorem dX6_isJustWritten_8 : decode cX6_isJustWritten 8 = .ok (.astore_n 3, 1) := by decide +kernel
theorem dX6_isJustWritten_9 : decode cX6_isJustWritten 9 = .ok (.aload_n 1, 1) := by decide +kernel
theorem dX6_isJustWritten_10 : decode cX6_isJustWritten 10 = .ok (.getfield 232, 3) := by decide +kernel
theorem dX6_isJustWritten_13 : decode cX6_isJustWritten 13 = .ok (.aload_n 2, 1) := by decide +kernel
theorem dX6_isJustWritten_14 : decode cX6_isJustWritten 14 = .ok (.aload_n 3, 1) := by decide +kernel
theorem dX6_isJustWritten_15 : decode cX6_isJustWritten 15 = .ok (.invokevirtual 145, 3) := by decide +kernel
theorem dX6_isJustWritten_18 : decode cX6_isJustWritten 18 = .ok (.if_icmp .eq 5, 3) := by decide +kernel
theorem dX6_isJustWritten_21 : decode cX6_isJustWritten 21 = .ok (.iconst 0, 1) := by decide +kernel
theorem dX6_isJustWritten_22 : decode cX6_isJustWritten 22 = .ok (.ireturn, 1) := by decide +kernel
theorem dX6_isJustWritten_23 : decode cX6_isJustWritten 23 = .ok (.iconst 0, 1) := by decide +kernel
theorem dX6_isJustWritten_24 : decode cX6_isJustWritten 24 = .ok (.istore 4, 2) := by decide +kernel
theorem dX6_isJustWritten_26 : decode cX6_isJustWritten 26 = .ok (.iload 4, 2) := by decide +kernel
theorem dX6_isJustWritten_28 : decode cX6_isJustWritten 28 = .ok (.aload_n 1, 1) := by decide +kernel
theorem dX6_isJustWritten_29 : decode cX6_isJustWritten 29 = .ok (.getfield 232, 3) := by decide +kernel
theorem dX6_isJustWritten_32 : decode cX6_isJustWritten 32 = .ok (.if_icmp .ge 30, 3) := by decide +kernel
theorem dX6_isJustWritten_35 : decode cX6_isJustWritten 35 = .ok (.aload_n 1, 1) := by decide +kernel
theorem dX6_isJustWritten_36 : decode cX6_isJustWritten 36 = .ok (.getfield 235, 3) := by decide +kernel
theorem dX6_isJustWritten_39 : decode cX6_isJustWritten 39 = .ok (.iload 4, 2) := by decide +kernel
theorem dX6_isJustWritten_41 : decode cX6_isJustWritten 41 = .ok (.laload, 1) := by decide +kernel
theorem dX6_isJustWritten_42 : decode cX6_isJustWritten 42 = .ok (.aload_n 2, 1) := by decide +kernel
theorem dX6_isJustWritten_43 : decode cX6_isJustWritten 43 = .ok (.aload_n 3, 1) := by decide +kernel
theorem dX6_isJustWritten_44 : decode cX6_isJustWritten 44 = .ok (.iload 4, 2) := by decide +kernel
theorem dX6_isJustWritten_46 : decode cX6_isJustWritten 46 = .ok (.invokevirtual 150, 3) := by decide +kernel
theorem dX6_isJustWritten_49 : decode cX6_isJustWritten 49 = .ok (.i2l, 1) := by decide +kernel
theorem dX6_isJustWritten_50 : decode cX6_isJustWritten 50 = .ok (.lcmp, 1) := by decide +kernel
theorem dX6_isJustWritten_51 : decode cX6_isJustWritten 51 = .ok (.ifCond .eq 5, 3) := by decide +kernel
theorem dX6_isJustWritten_54 : decode cX6_isJustWritten 54 = .ok (.iconst 0, 1) := by decide +kernel
theorem dX6_isJustWritten_55 : decode cX6_isJustWritten 55 = .ok (.ireturn, 1) := by decide +kernel
theorem dX6_isJustWritten_56 : decode cX6_isJustWritten 56 = .ok (.iinc 4 1, 3) := by decide +kernel
theorem dX6_isJustWritten_59 : decode cX6_isJustWritten 59 = .ok (.goto (-33), 3) := by decide +kernel
theorem dX6_isJustWritten_62 : decode cX6_isJustWritten 62 = .ok (.iconst 1, 1) := by decide +kernel
theorem dX6_isJustWritten_63 : decode cX6_isJustWritten 63 = .ok (.ireturn, 1) := by decide +kernel
theorem dX6_faultOfSheet_0 : decode cX6_faultOfSheet 0 = .ok (.iload_n 1, 1) := by decide +kernel
theorem dX6_faultOfSheet_1 : decode cX6_faultOfSheet 1 = .ok (.invokestatic 218, 3) := by decide +kernel
theorem dX6_faultOfSheet_4 : decode cX6_faultOfSheet 4 = .ok (.ifCond .ne 6, 3) := by decide +kernel
theorem dX6_faultOfSheet_7 : decode cX6_faultOfSheet 7 = .ok (.ldc 61, 2) := by decide +kernel
theorem dX6_faultOfSheet_9 : decode cX6_faultOfSheet 9 = .ok (.ireturn, 1) := by decide +kernel
theorem dX6_faultOfSheet_10 : decode cX6_faultOfSheet 10 = .ok (.aload_n 0, 1) := by decide +kernel
theorem dX6_faultOfSheet_11 : decode cX6_faultOfSheet 11 = .ok (.getfield 44, 3) := by decide +kernel
theorem dX6_faultOfSheet_14 : decode cX6_faultOfSheet 14 = .ok (.iload_n 1, 1) := by decide +kernel
theorem dX6_faultOfSheet_15 : decode cX6_faultOfSheet 15 = .ok (.aaload, 1) := by decide +kernel
theorem dX6_faultOfSheet_16 : decode cX6_faultOfSheet 16 = .ok (.invokevirtual 243, 3) := by decide +kernel
theorem dX6_faultOfSheet_19 : decode cX6_faultOfSheet 19 = .ok (.ifCond .eq 8, 3) := by decide +kernel
theorem dX6_faultOfSheet_22 : decode cX6_faultOfSheet 22 = .ok (.ldc 246, 2) := by decide +kernel
theorem dX6_faultOfSheet_24 : decode cX6_faultOfSheet 24 = .ok (.goto 4, 3) := by decide +kernel
theorem dX6_faultOfSheet_27 : decode cX6_faultOfSheet 27 = .ok (.iconst 0, 1) := by decide +kernel
theorem dX6_faultOfSheet_28 : decode cX6_faultOfSheet 28 = .ok (.ireturn, 1) := by decide +kernel
theorem dX6_faultOfSheetAndSide_0 : decode cX6_faultOfSheetAndSide 0 = .ok (.aload_n 0, 1) := by decide +kernel
theorem dX6_faultOfSheetAndSide_1 : decode cX6_faultOfSheetAndSide 1 = .ok (.iload_n 1, 1) := by decide +kernel
theorem dX6_faultOfSheetAndSide_2 : decode cX6_faultOfSheetAndSide 2 = .ok (.invokevirtual 229, 3) := by decide +kernel
theorem dX6_faultOfSheetAndSide_5 : decode cX6_faultOfSheetAndSide 5 = .ok (.istore_n 3, 1) := by decide +kernel
theorem dX6_faultOfSheetAndSide_6 : decode cX6_faultOfSheetAndSide 6 = .ok (.iload_n 3, 1) := by decide +kernel
theorem dX6_faultOfSheetAndSide_7 : decode cX6_faultOfSheetAndSide 7 = .ok (.ifCond .eq 5, 3) := by decide +kernel
theorem dX6_faultOfSheetAndSide_10 : decode cX6_faultOfSheetAndSide 10 = .ok (.iload_n 3, 1) := by decide +kernel
theorem dX6_faultOfSheetAndSide_11 : decode cX6_faultOfSheetAndSide 11 = .ok (.ireturn, 1) := by decide +kernel
theorem dX6_faultOfSheetAndSide_12 : decode cX6_faultOfSheetAndSide 12 = .ok (.iload_n 2, 1) := by decide +kernel
theorem dX6_faultOfSheetAndSide_13 : decode cX6_faultOfSheetAndSide 13 = .ok (.invokestatic 53, 3) := by decide +kernel
theorem dX6_faultOfSheetAndSide_16 : decode cX6_faultOfSheetAndSide 16 = .ok (.ifCond .eq 7, 3) := by decide +kernel
theorem dX6_faultOfSheetAndSide_19 : decode cX6_faultOfSheetAndSide 19 = .ok (.iconst 0, 1) := by decide +kernel
theorem dX6_faultOfSheetAndSide_20 : decode cX6_faultOfSheetAndSide 20 = .ok (.goto 5, 3) := by decide +kernel
theorem dX6_faultOfSheetAndSide_23 : decode cX6_faultOfSheetAndSide 23 = .ok (.ldc 61, 2) := by decide +kernel
theorem dX6_faultOfSheetAndSide_25 : decode cX6_faultOfSheetAndSide 25 = .ok (.ireturn, 1) := by decide +kernel
theorem dX6_mostToSet_0 : decode cX6_mostToSet 0 = .ok (.iload_n 0, 1) := by decide +kernel
theorem dX6_mostToSet_1 : decode cX6_mostToSet 1 = .ok (.tableswitch 44 1 4 #[31, 33, 36, 40], 31) := by decide +kernel
theorem dX6_mostToSet_32 : decode cX6_mostToSet 32 = .ok (.iconst 1, 1) := by decide +kernel
theorem dX6_mostToSet_33 : decode cX6_mostToSet 33 = .ok (.ireturn, 1) := by decide +kernel
theorem dX6_mostToSet_34 : decode cX6_mostToSet 34 = .ok (.bipush 11, 2) := by decide +kernel
theorem dX6_mostToSet_36 : decode cX6_mostToSet 36 = .ok (.ireturn, 1) := by decide +kernel
theorem dX6_mostToSet_37 : decode cX6_mostToSet 37 = .ok (.sipush 4095, 3) := by decide +kernel
theorem dX6_mostToSet_40 : decode cX6_mostToSet 40 = .ok (.ireturn, 1) := by decide +kernel
theorem dX6_mostToSet_41 : decode cX6_mostToSet 41 = .ok (.sipush 9999, 3) := by decide +kernel
theorem dX6_mostToSet_44 : decode cX6_mostToSet 44 = .ok (.ireturn, 1) := by decide +kernel
theorem dX6_mostToSet_45 : decode cX6_mostToSet 45 = .ok (.iconst (-1), 1) := by decide +kernel
theorem dX6_mostToSet_46 : decode cX6_mostToSet 46 = .ok (.ireturn, 1) := by decide +kernel
theorem dX6_isWithin_0 : decode cX6_isWithin 0 = .ok (.iload_n 0, 1) := by decide +kernel
theorem dX6_isWithin_1 : decode cX6_isWithin 1 = .ok (.iload_n 1, 1) := by decide +kernel
theorem dX6_isWithin_2 : decode cX6_isWithin 2 = .ok (.if_icmp .lt 12, 3) := by decide +kernel
theorem dX6_isWithin_5 : decode cX6_isWithin 5 = .ok (.iload_n 0, 1) := by decide +kernel
theorem dX6_isWithin_6 : decode cX6_isWithin 6 = .ok (.iload_n 2, 1) := by decide +kernel
theorem dX6_isWithin_7 : decode cX6_isWithin 7 = .ok (.if_icmp .gt 7, 3) := by decide +kernel
theorem dX6_isWithin_10 : decode cX6_isWithin 10 = .ok (.iconst 1, 1) := by decide +kernel
theorem dX6_isWithin_11 : decode cX6_isWithin 11 = .ok (.goto 4, 3) := by decide +kernel
theorem dX6_isWithin_14 : decode cX6_isWithin 14 = .ok (.iconst 0, 1) := by decide +kernel
theorem dX6_isWithin_15 : decode cX6_isWithin 15 = .ok (.ireturn, 1) := by decide +kernel
theorem dX6_isSide_0 : decode cX6_isSide 0 = .ok (.iload_n 0, 1) := by decide +kernel
theorem dX6_isSide_1 : decode cX6_isSide 1 = .ok (.iconst 0, 1) := by decide +kernel
theorem dX6_isSide_2 : decode cX6_isSide 2 = .ok (.iconst 1, 1) := by decide +kernel
theorem dX6_isSide_3 : decode cX6_isSide 3 = .ok (.invokestatic 57, 3) := by decide +kernel
theorem dX6_isSide_6 : decode cX6_isSide 6 = .ok (.ireturn, 1) := by decide +kernel
theorem dX6_isKind_0 : decode cX6_isKind 0 = .ok (.iload_n 0, 1) := by decide +kernel
theorem dX6_isKind_1 : decode cX6_isKind 1 = .ok (.iconst 0, 1) := by decide +kernel
theorem dX6_isKind_2 : decode cX6_isKind 2 = .ok (.iconst 5, 1) := by decide +kernel
theorem dX6_isKind_3 : decode cX6_isKind 3 = .ok (.invokestatic 57, 3) := by decide +kernel
theorem dX6_isKind_6 : decode cX6_isKind 6 = .ok (.ireturn, 1) := by decide +kernel
theorem dX6_isSheet_0 : decode cX6_isSheet 0 = .ok (.iload_n 0, 1) := by decide +kernel
theorem dX6_isSheet_1 : decode cX6_isSheet 1 = .ok (.iconst 0, 1) := by decide +kernel
theorem dX6_isSheet_2 : decode cX6_isSheet 2 = .ok (.iconst 3, 1) := by decide +kernel
theorem dX6_isSheet_3 : decode cX6_isSheet 3 = .ok (.invokestatic 57, 3) := by decide +kernel
theorem dX6_isSheet_6 : decode cX6_isSheet 6 = .ok (.ireturn, 1) := by decide +kernel
theorem dX6_isBits_0 : decode cX6_isBits 0 = .ok (.iload_n 0, 1) := by decide +kernel
theorem dX6_isBits_1 : decode cX6_isBits 1 = .ok (.ifCond .eq 21, 3) := by decide +kernel
theorem dX6_isBits_4 : decode cX6_isBits 4 = .ok (.iload_n 0, 1) := by decide +kernel
theorem dX6_isBits_5 : decode cX6_isBits 5 = .ok (.bipush 8, 2) := by decide +kernel
theorem dX6_isBits_7 : decode cX6_isBits 7 = .ok (.if_icmp .eq 15, 3) := by decide +kernel
theorem dX6_isBits_10 : decode cX6_isBits 10 = .ok (.iload_n 0, 1) := by decide +kernel
theorem dX6_isBits_11 : decode cX6_isBits 11 = .ok (.bipush 16, 2) := by decide +kernel
theorem dX6_isBits_13 : decode cX6_isBits 13 = .ok (.if_icmp .eq 9, 3) := by decide +kernel
theorem dX6_isBits_16 : decode cX6_isBits 16 = .ok (.iload_n 0, 1) := by decide +kernel
theorem dX6_isBits_17 : decode cX6_isBits 17 = .ok (.bipush 64, 2) := by decide +kernel
theorem dX6_isBits_19 : decode cX6_isBits 19 = .ok (.if_icmp .ne 7, 3) := by decide +kernel
theorem dX6_isBits_22 : decode cX6_isBits 22 = .ok (.iconst 1, 1) := by decide +kernel
theorem dX6_isBits_23 : decode cX6_isBits 23 = .ok (.goto 4, 3) := by decide +kernel
theorem dX6_isBits_26 : decode cX6_isBits 26 = .ok (.iconst 0, 1) := by decide +kernel
theorem dX6_isBits_27 : decode cX6_isBits 27 = .ok (.ireturn, 1) := by decide +kernel
theorem dX6_isOfKind_0 : decode cX6_isOfKind 0 = .ok (.iload_n 0, 1) := by decide +kernel
theorem dX6_isOfKind_1 : decode cX6_isOfKind 1 = .ok (.istore_n 2, 1) := by decide +kernel
theorem dX6_isOfKind_2 : decode cX6_isOfKind 2 = .ok (.iconst 0, 1) := by decide +kernel
theorem dX6_isOfKind_3 : decode cX6_isOfKind 3 = .ok (.istore_n 3, 1) := by decide +kernel
theorem dX6_isOfKind_4 : decode cX6_isOfKind 4 = .ok (.iload_n 3, 1) := by decide +kernel
theorem dX6_isOfKind_5 : decode cX6_isOfKind 5 = .ok (.bipush 6, 2) := by decide +kernel
theorem dX6_isOfKind_7 : decode cX6_isOfKind 7 = .ok (.if_icmp .ge 29, 3) := by decide +kernel
theorem dX6_isOfKind_10 : decode cX6_isOfKind 10 = .ok (.iload_n 2, 1) := by decide +kernel
theorem dX6_isOfKind_11 : decode cX6_isOfKind 11 = .ok (.invokestatic 103, 3) := by decide +kernel
theorem dX6_isOfKind_14 : decode cX6_isOfKind 14 = .ok (.ifCond .eq 22, 3) := by decide +kernel
theorem dX6_isOfKind_17 : decode cX6_isOfKind 17 = .ok (.iload_n 2, 1) := by decide +kernel
theorem dX6_isOfKind_18 : decode cX6_isOfKind 18 = .ok (.iload_n 1, 1) := by decide +kernel
theorem dX6_isOfKind_19 : decode cX6_isOfKind 19 = .ok (.if_icmp .ne 5, 3) := by decide +kernel
theorem dX6_isOfKind_22 : decode cX6_isOfKind 22 = .ok (.iconst 1, 1) := by decide +kernel
theorem dX6_isOfKind_23 : decode cX6_isOfKind 23 = .ok (.ireturn, 1) := by decide +kernel
theorem dX6_isOfKind_24 : decode cX6_isOfKind 24 = .ok (.getstatic 280, 3) := by decide +kernel
theorem dX6_isOfKind_27 : decode cX6_isOfKind 27 = .ok (.iload_n 2, 1) := by decide +kernel
theorem dX6_isOfKind_28 : decode cX6_isOfKind 28 = .ok (.iaload, 1) := by decide +kernel
theorem dX6_isOfKind_29 : decode cX6_isOfKind 29 = .ok (.istore_n 2, 1) := by decide +kernel
theorem dX6_isOfKind_30 : decode cX6_isOfKind 30 = .ok (.iinc 3 1, 3) := by decide +kernel
theorem dX6_isOfKind_33 : decode cX6_isOfKind 33 = .ok (.goto (-29), 3) := by decide +kernel
theorem dX6_isOfKind_36 : decode cX6_isOfKind 36 = .ok (.iconst 0, 1) := by decide +kernel
theorem dX6_isOfKind_37 : decode cX6_isOfKind 37 = .ok (.ireturn, 1) := by decide +kernel
end
section
theorem dX7_init_0 : decode cX7_init 0 = .ok (.aload_n 0, 1) := by decide +kernel
theorem dX7_init_1 : decode cX7_init 1 = .ok (.invokespecial 1, 3) := by decide +kernel
theorem dX7_init_4 : decode cX7_init 4 = .ok (.aload_n 0, 1) := by decide +kernel
theorem dX7_init_5 : decode cX7_init 5 = .ok (.bipush 68, 2) := by decide +kernel
theorem dX7_init_7 : decode cX7_init 7 = .ok (.newarray .int, 2) := by decide +kernel
theorem dX7_init_9 : decode cX7_init 9 = .ok (.putfield 9, 3) := by decide +kernel
theorem dX7_init_12 : decode cX7_init 12 = .ok (.aload_n 0, 1) := by decide +kernel
theorem dX7_init_13 : decode cX7_init 13 = .ok (.bipush 68, 2) := by decide +kernel
theorem dX7_init_15 : decode cX7_init 15 = .ok (.newarray .int, 2) := by decide +kernel
theorem dX7_init_17 : decode cX7_init 17 = .ok (.putfield 13, 3) := by decide +kernel
theorem dX7_init_20 : decode cX7_init 20 = .ok (.aload_n 0, 1) := by decide +kernel
theorem dX7_init_21 : decode cX7_init 21 = .ok (.bipush 68, 2) := by decide +kernel
theorem dX7_init_23 : decode cX7_init 23 = .ok (.newarray .int, 2) := by decide +kernel
theorem dX7_init_25 : decode cX7_init 25 = .ok (.putfield 16, 3) := by decide +kernel
theorem dX7_init_28 : decode cX7_init 28 = .ok (.aload_n 0, 1) := by decide +kernel
theorem dX7_init_29 : decode cX7_init 29 = .ok (.bipush 8, 2) := by decide +kernel
theorem dX7_init_31 : decode cX7_init 31 = .ok (.newarray .int, 2) := by decide +kernel
theorem dX7_init_33 : decode cX7_init 33 = .ok (.putfield 19, 3) := by decide +kernel
theorem dX7_init_36 : decode cX7_init 36 = .ok (.aload_n 0, 1) := by decide +kernel
theorem dX7_init_37 : decode cX7_init 37 = .ok (.bipush 12, 2) := by decide +kernel
theorem dX7_init_39 : decode cX7_init 39 = .ok (.newarray .int, 2) := by decide +kernel
theorem dX7_init_41 : decode cX7_init 41 = .ok (.putfield 22, 3) := by decide +kernel
theorem dX7_init_44 : decode cX7_init 44 = .ok (.aload_n 0, 1) := by decide +kernel
theorem dX7_init_45 : decode cX7_init 45 = .ok (.bipush 120, 2) := by decide +kernel
theorem dX7_init_47 : decode cX7_init 47 = .ok (.newarray .int, 2) := by decide +kernel
theorem dX7_init_49 : decode cX7_init 49 = .ok (.putfield 25, 3) := by decide +kernel
theorem dX7_init_52 : decode cX7_init 52 = .ok (.aload_n 0, 1) := by decide +kernel
theorem dX7_init_53 : decode cX7_init 53 = .ok (.bipush 6, 2) := by decide +kernel
theorem dX7_init_55 : decode cX7_init 55 = .ok (.anewarray 28, 3) := by decide +kernel
theorem dX7_init_58 : decode cX7_init 58 = .ok (.dup, 1) := by decide +kernel
theorem dX7_init_59 : decode cX7_init 59 = .ok (.iconst 0, 1) := by decide +kernel
theorem dX7_init_60 : decode cX7_init 60 = .ok (.ldc 30, 2) := by decide +kernel
theorem dX7_init_62 : decode cX7_init 62 = .ok (.aastore, 1) := by decide +kernel
theorem dX7_init_63 : decode cX7_init 63 = .ok (.dup, 1) := by decide +kernel
theorem dX7_init_64 : decode cX7_init 64 = .ok (.iconst 1, 1) := by decide +kernel
theorem dX7_init_65 : decode cX7_init 65 = .ok (.ldc 32, 2) := by decide +kernel
theorem dX7_init_67 : decode cX7_init 67 = .ok (.aastore, 1) := by decide +kernel
theorem dX7_init_68 : decode cX7_init 68 = .ok (.dup, 1) := by decide +kernel
theorem dX7_init_69 : decode cX7_init 69 = .ok (.iconst 2, 1) := by decide +kernel
theorem dX7_init_70 : decode cX7_init 70 = .ok (.ldc 34, 2) := by decide +kernel
theorem dX7_init_72 : decode cX7_init 72 = .ok (.aastore, 1) := by decide +kernel
theorem dX7_init_73 : decode cX7_init 73 = .ok (.dup, 1) := by decide +kernel
theorem dX7_init_74 : decode cX7_init 74 = .ok (.iconst 3, 1) := by decide +kernel
theorem dX7_init_75 : decode cX7_init 75 = .ok (.ldc 36, 2) := by decide +kernel
theorem dX7_init_77 : decode cX7_init 77 = .ok (.aastore, 1) := by decide +kernel
theorem dX7_init_78 : decode cX7_init 78 = .ok (.dup, 1) := by decide +kernel
theorem dX7_init_79 : decode cX7_init 79 = .ok (.iconst 4, 1) := by decide +kernel
theorem dX7_init_80 : decode cX7_init 80 = .ok (.ldc 38, 2) := by decide +kernel
theorem dX7_init_82 : decode cX7_init 82 = .ok (.aastore, 1) := by decide +kernel
theorem dX7_init_83 : decode cX7_init 83 = .ok (.dup, 1) := by decide +kernel
theorem dX7_init_84 : decode cX7_init 84 = .ok (.iconst 5, 1) := by decide +kernel
theorem dX7_init_85 : decode cX7_init 85 = .ok (.ldc 40, 2) := by decide +kernel
theorem dX7_init_87 : decode cX7_init 87 = .ok (.aastore, 1) := by decide +kernel
theorem dX7_init_88 : decode cX7_init 88 = .ok (.putfield 42, 3) := by decide +kernel
theorem dX7_init_91 : decode cX7_init 91 = .ok (.aload_n 0, 1) := by decide +kernel
theorem dX7_init_92 : decode cX7_init 92 = .ok (.bipush 120, 2) := by decide +kernel
theorem dX7_init_94 : decode cX7_init 94 = .ok (.newarray .int, 2) := by decide +kernel
theorem dX7_init_96 : decode cX7_init 96 = .ok (.putfield 46, 3) := by decide +kernel
theorem dX7_init_99 : decode cX7_init 99 = .ok (.aload_n 0, 1) := by decide +kernel
theorem dX7_init_100 : decode cX7_init 100 = .ok (.bipush 120, 2) := by decide +kernel
theorem dX7_init_102 : decode cX7_init 102 = .ok (.newarray .int, 2) := by decide +kernel
theorem dX7_init_104 : decode cX7_init 104 = .ok (.putfield 49, 3) := by decide +kernel
theorem dX7_init_107 : decode cX7_init 107 = .ok (.aload_n 0, 1) := by decide +kernel
theorem dX7_init_108 : decode cX7_init 108 = .ok (.bipush 120, 2) := by decide +kernel
theorem dX7_init_110 : decode cX7_init 110 = .ok (.newarray .int, 2) := by decide +kernel
theorem dX7_init_112 : decode cX7_init 112 = .ok (.putfield 52, 3) := by decide +kernel
theorem dX7_init_115 : decode cX7_init 115 = .ok (.aload_n 0, 1) := by decide +kernel
theorem dX7_init_116 : decode cX7_init 116 = .ok (.bipush 120, 2) := by decide +kernel
theorem dX7_init_118 : decode cX7_init 118 = .ok (.newarray .long, 2) := by decide +kernel
theorem dX7_init_120 : decode cX7_init 120 = .ok (.putfield 55, 3) := by decide +kernel
theorem dX7_init_123 : decode cX7_init 123 = .ok (.aload_n 0, 1) := by decide +kernel
theorem dX7_init_124 : decode cX7_init 124 = .ok (.iconst 4, 1) := by decide +kernel
theorem dX7_init_125 : decode cX7_init 125 = .ok (.newarray .int, 2) := by decide +kernel
theorem dX7_init_127 : decode cX7_init 127 = .ok (.putfield 59, 3) := by decide +kernel
theorem dX7_init_130 : decode cX7_init 130 = .ok (.aload_n 0, 1) := by decide +kernel
theorem dX7_init_131 : decode cX7_init 131 = .ok (.iconst 4, 1) := by decide +kernel
theorem dX7_init_132 : decode cX7_init 132 = .ok (.newarray .int, 2) := by decide +kernel
theorem dX7_init_134 : decode cX7_init 134 = .ok (.putfield 62, 3) := by decide +kernel
theorem dX7_init_137 : decode cX7_init 137 = .ok (.aload_n 0, 1) := by decide +kernel
theorem dX7_init_138 : decode cX7_init 138 = .ok (.sipush 160, 3) := by decide +kernel
theorem dX7_init_141 : decode cX7_init 141 = .ok (.newarray .long, 2) := by decide +kernel
theorem dX7_init_143 : decode cX7_init 143 = .ok (.putfield 65, 3) := by decide +kernel
theorem dX7_init_146 : decode cX7_init 146 = .ok (.aload_n 0, 1) := by decide +kernel
theorem dX7_init_147 : decode cX7_init 147 = .ok (.bipush 40, 2) := by decide +kernel
theorem dX7_init_149 : decode cX7_init 149 = .ok (.newarray .long, 2) := by decide +kernel
theorem dX7_init_151 : decode cX7_init 151 = .ok (.putfield 68, 3) := by decide +kernel
theorem dX7_init_154 : decode cX7_init 154 = .ok (.return_, 1) := by decide +kernel
theorem dX7_finding_0 : decode cX7_finding 0 = .ok (.aload_n 0, 1) := by decide +kernel
theorem dX7_finding_1 : decode cX7_finding 1 = .ok (.getfield 19, 3) := by decide +kernel
theorem dX7_finding_4 : decode cX7_finding 4 = .ok (.ldc 71, 2) := by decide +kernel
theorem dX7_finding_6 : decode cX7_finding 6 = .ok (.iload_n 1, 1) := by decide +kernel
theorem dX7_finding_7 : decode cX7_finding 7 = .ok (.isub, 1) := by decide +kernel
theorem dX7_finding_8 : decode cX7_finding 8 = .ok (.iconst 1, 1) := by decide +kernel
theorem dX7_finding_9 : decode cX7_finding 9 = .ok (.iadd, 1) := by decide +kernel
theorem dX7_finding_10 : decode cX7_finding 10 = .ok (.dup2, 1) := by decide +kernel
theorem dX7_finding_11 : decode cX7_finding 11 = .ok (.iaload, 1) := by decide +kernel
theorem dX7_finding_12 : decode cX7_finding 12 = .ok (.iconst 1, 1) := by decide +kernel
theorem dX7_finding_13 : decode cX7_finding 13 = .ok (.iadd, 1) := by decide +kernel
theorem dX7_finding_14 : decode cX7_finding 14 = .ok (.iastore, 1) := by decide +kernel
theorem dX7_finding_15 : decode cX7_finding 15 = .ok (.aload_n 0, 1) := by decide +kernel
theorem dX7_finding_16 : decode cX7_finding 16 = .ok (.getfield 19, 3) := by decide +kernel
theorem dX7_finding_19 : decode cX7_finding 19 = .ok (.iconst 0, 1) := by decide +kernel
theorem dX7_finding_20 : decode cX7_finding 20 = .ok (.dup2, 1) := by decide +kernel
theorem dX7_finding_21 : decode cX7_finding 21 = .ok (.iaload, 1) := by decide +kernel
theorem dX7_finding_22 : decode cX7_finding 22 = .ok (.iconst 1, 1) := by decide +kernel
theorem dX7_finding_23 : decode cX7_finding 23 = .ok (.iadd, 1) := by decide +kernel
theorem dX7_finding_24 : decode cX7_finding 24 = .ok (.iastore, 1) := by decide +kernel
theorem dX7_finding_25 : decode cX7_finding 25 = .ok (.iload_n 1, 1) := by decide +kernel
theorem dX7_finding_26 : decode cX7_finding 26 = .ok (.ireturn, 1) := by decide +kernel
theorem dX7_within_0 : decode cX7_within 0 = .ok (.iload_n 0, 1) := by decide +kernel
theorem dX7_within_1 : decode cX7_within 1 = .ok (.iload_n 1, 1) := by decide +kernel
theorem dX7_within_2 : decode cX7_within 2 = .ok (.if_icmp .lt 12, 3) := by decide +kernel
theorem dX7_within_5 : decode cX7_within 5 = .ok (.iload_n 0, 1) := by decide +kernel
theorem dX7_within_6 : decode cX7_within 6 = .ok (.iload_n 2, 1) := by decide +kernel
theorem dX7_within_7 : decode cX7_within 7 = .ok (.if_icmp .gt 7, 3) := by decide +kernel
theorem dX7_within_10 : decode cX7_within 10 = .ok (.iconst 1, 1) := by decide +kernel
theorem dX7_within_11 : decode cX7_within 11 = .ok (.goto 4, 3) := by decide +kernel
theorem dX7_within_14 : decode cX7_within 14 = .ok (.iconst 0, 1) := by decide +kernel
theorem dX7_within_15 : decode cX7_within 15 = .ok (.ireturn, 1) := by decide +kernel
theorem dX7_become_0 : decode cX7_become 0 = .ok (.aload_n 0, 1) := by decide +kernel
theorem dX7_become_1 : decode cX7_become 1 = .ok (.getfield 9, 3) := by decide +kernel
theorem dX7_become_4 : decode cX7_become 4 = .ok (.iload_n 1, 1) := by decide +kernel
theorem dX7_become_5 : decode cX7_become 5 = .ok (.iaload, 1) := by decide +kernel
theorem dX7_become_6 : decode cX7_become 6 = .ok (.istore_n 3, 1) := by decide +kernel
theorem dX7_become_7 : decode cX7_become 7 = .ok (.aload_n 0, 1) := by decide +kernel
theorem dX7_become_8 : decode cX7_become 8 = .ok (.getfield 9, 3) := by decide +kernel
theorem dX7_become_11 : decode cX7_become 11 = .ok (.iload_n 1, 1) := by decide +kernel
theorem dX7_become_12 : decode cX7_become 12 = .ok (.iload_n 2, 1) := by decide +kernel
theorem dX7_become_13 : decode cX7_become 13 = .ok (.iastore, 1) := by decide +kernel
theorem dX7_become_14 : decode cX7_become 14 = .ok (.iload_n 3, 1) := by decide +kernel
theorem dX7_become_15 : decode cX7_become 15 = .ok (.ireturn, 1) := by decide +kernel
theorem dX7_copyRow_0 : decode cX7_copyRow 0 = .ok (.iconst 0, 1) := by decide +kernel
theorem dX7_copyRow_1 : decode cX7_copyRow 1 = .ok (.istore_n 2, 1) := by decide +kernel
theorem dX7_copyRow_2 : decode cX7_copyRow 2 = .ok (.iload_n 2, 1) := by decide +kernel
theorem dX7_copyRow_3 : decode cX7_copyRow 3 = .ok (.bipush 68, 2) := by decide +kernel
theorem dX7_copyRow_5 : decode cX7_copyRow 5 = .ok (.if_icmp .ge 15, 3) := by decide +kernel
theorem dX7_copyRow_8 : decode cX7_copyRow 8 = .ok (.aload_n 1, 1) := by decide +kernel
theorem dX7_copyRow_9 : decode cX7_copyRow 9 = .ok (.iload_n 2, 1) := by decide +kernel
theorem dX7_copyRow_10 : decode cX7_copyRow 10 = .ok (.aload_n 0, 1) := by decide +kernel
theorem dX7_copyRow_11 : decode cX7_copyRow 11 = .ok (.iload_n 2, 1) := by decide +kernel
theorem dX7_copyRow_12 : decode cX7_copyRow 12 = .ok (.iaload, 1) := by decide +kernel
theorem dX7_copyRow_13 : decode cX7_copyRow 13 = .ok (.iastore, 1) := by decide +kernel
theorem dX7_copyRow_14 : decode cX7_copyRow 14 = .ok (.iinc 2 1, 3) := by decide +kernel
theorem dX7_copyRow_17 : decode cX7_copyRow 17 = .ok (.goto (-15), 3) := by decide +kernel
theorem dX7_copyRow_20 : decode cX7_copyRow 20 = .ok (.return_, 1) := by decide +kernel
theorem dX7_putBack_0 : decode cX7_putBack 0 = .ok (.aload_n 0, 1) := by decide +kernel
theorem dX7_putBack_1 : decode cX7_putBack 1 = .ok (.getfield 16, 3) := by decide +kernel
theorem dX7_putBack_4 : decode cX7_putBack 4 = .ok (.aload_n 0, 1) := by decide +kernel
theorem dX7_putBack_5 : decode cX7_putBack 5 = .ok (.getfield 9, 3) := by decide +kernel
theorem dX7_putBack_8 : decode cX7_putBack 8 = .ok (.invokestatic 72, 3) := by decide +kernel
theorem dX7_putBack_11 : decode cX7_putBack 11 = .ok (.iload_n 1, 1) := by decide +kernel
theorem dX7_putBack_12 : decode cX7_putBack 12 = .ok (.ireturn, 1) := by decide +kernel
theorem dX7_orNone_0 : decode cX7_orNone 0 = .ok (.iload_n 1, 1) := by decide +kernel
theorem dX7_orNone_1 : decode cX7_orNone 1 = .ok (.ifCond .ge 12, 3) := by decide +kernel
theorem dX7_orNone_4 : decode cX7_orNone 4 = .ok (.aload_n 0, 1) := by decide +kernel
theorem dX7_orNone_5 : decode cX7_orNone 5 = .ok (.ldc 76, 2) := by decide +kernel
theorem dX7_orNone_7 : decode cX7_orNone 7 = .ok (.invokevirtual 77, 3) := by decide +kernel
theorem dX7_orNone_10 : decode cX7_orNone 10 = .ok (.goto 4, 3) := by decide +kernel
theorem dX7_orNone_13 : decode cX7_orNone 13 = .ok (.iload_n 1, 1) := by decide +kernel
theorem dX7_orNone_14 : decode cX7_orNone 14 = .ok (.ireturn, 1) := by decide +kernel
theorem dX7_bits_0 : decode cX7_bits 0 = .ok (.iconst 0, 1) := by decide +kernel
theorem dX7_bits_1 : decode cX7_bits 1 = .ok (.istore_n 1, 1) := by decide +kernel
theorem dX7_bits_2 : decode cX7_bits 2 = .ok (.iload_n 0, 1) := by decide +kernel
theorem dX7_bits_3 : decode cX7_bits 3 = .ok (.istore_n 2, 1) := by decide +kernel
theorem dX7_bits_4 : decode cX7_bits 4 = .ok (.iload_n 2, 1) := by decide +kernel
theorem dX7_bits_5 : decode cX7_bits 5 = .ok (.ifCond .eq 15, 3) := by decide +kernel
theorem dX7_bits_8 : decode cX7_bits 8 = .ok (.iinc 1 1, 3) := by decide +kernel
theorem dX7_bits_11 : decode cX7_bits 11 = .ok (.iload_n 2, 1) := by decide +kernel
theorem dX7_bits_12 : decode cX7_bits 12 = .ok (.iload_n 2, 1) := by decide +kernel
theorem dX7_bits_13 : decode cX7_bits 13 = .ok (.iconst 1, 1) := by decide +kernel
theorem dX7_bits_14 : decode cX7_bits 14 = .ok (.isub, 1) := by decide +kernel
theorem dX7_bits_15 : decode cX7_bits 15 = .ok (.iand, 1) := by decide +kernel
theorem dX7_bits_16 : decode cX7_bits 16 = .ok (.istore_n 2, 1) := by decide +kernel
theorem dX7_bits_17 : decode cX7_bits 17 = .ok (.goto (-13), 3) := by decide +kernel
theorem dX7_bits_20 : decode cX7_bits 20 = .ok (.iload_n 1, 1) := by decide +kernel
theorem dX7_bits_21 : decode cX7_bits 21 = .ok (.ireturn, 1) := by decide +kernel
theorem dX7_isSide_0 : decode cX7_isSide 0 = .ok (.iload_n 0, 1) := by decide +kernel
theorem dX7_isSide_1 : decode cX7_isSide 1 = .ok (.iconst 0, 1) := by decide +kernel
theorem dX7_isSide_2 : decode cX7_isSide 2 = .ok (.iconst 1, 1) := by decide +kernel
theorem dX7_isSide_3 : decode cX7_isSide 3 = .ok (.invokestatic 81, 3) := by decide +kernel
theorem dX7_isSide_6 : decode cX7_isSide 6 = .ok (.ireturn, 1) := by decide +kernel
theorem dX7_length_0 : decode cX7_length 0 = .ok (.aload_n 0, 1) := by decide +kernel
theorem dX7_length_1 : decode cX7_length 1 = .ok (.getfield 9, 3) := by decide +kernel
theorem dX7_length_4 : decode cX7_length 4 = .ok (.iconst 2, 1) := by decide +kernel
theorem dX7_length_5 : decode cX7_length 5 = .ok (.iload_n 1, 1) := by decide +kernel
theorem dX7_length_6 : decode cX7_length 6 = .ok (.iadd, 1) := by decide +kernel
theorem dX7_length_7 : decode cX7_length 7 = .ok (.iaload, 1) := by decide +kernel
theorem dX7_length_8 : decode cX7_length 8 = .ok (.ireturn, 1) := by decide +kernel
theorem dX7_toneOf_0 : decode cX7_toneOf 0 = .ok (.aload_n 0, 1) := by decide +kernel
theorem dX7_toneOf_1 : decode cX7_toneOf 1 = .ok (.getfield 9, 3) := by decide +kernel
theorem dX7_toneOf_4 : decode cX7_toneOf 4 = .ok (.iconst 4, 1) := by decide +kernel
theorem dX7_toneOf_5 : decode cX7_toneOf 5 = .ok (.bipush 12, 2) := by decide +kernel
theorem dX7_toneOf_7 : decode cX7_toneOf 7 = .ok (.iload_n 1, 1) := by decide +kernel
theorem dX7_toneOf_8 : decode cX7_toneOf 8 = .ok (.imul, 1) := by decide +kernel
theorem dX7_toneOf_9 : decode cX7_toneOf 9 = .ok (.iadd, 1) := by decide +kernel
theorem dX7_toneOf_10 : decode cX7_toneOf 10 = .ok (.iload_n 2, 1) := by decide +kernel
theorem dX7_toneOf_11 : decode cX7_toneOf 11 = .ok (.iadd, 1) := by decide +kernel
theorem dX7_toneOf_12 : decode cX7_toneOf 12 = .ok (.iaload, 1) := by decide +kernel
theorem dX7_toneOf_13 : decode cX7_toneOf 13 = .ok (.ireturn, 1) := by decide +kernel
theorem dX7_laysTune_0 : decode cX7_laysTune 0 = .ok (.iconst 0, 1) := by decide +kernel
theorem dX7_laysTune_1 : decode cX7_laysTune 1 = .ok (.istore 5, 2) := by decide +kernel
theorem dX7_laysTune_3 : decode cX7_laysTune 3 = .ok (.iload 5, 2) := by decide +kernel
theorem dX7_laysTune_5 : decode cX7_laysTune 5 = .ok (.iload_n 2, 1) := by decide +kernel
theorem dX7_laysTune_6 : decode cX7_laysTune 6 = .ok (.if_icmp .ge 37, 3) := by decide +kernel
theorem dX7_laysTune_9 : decode cX7_laysTune 9 = .ok (.aload_n 0, 1) := by decide +kernel
theorem dX7_laysTune_10 : decode cX7_laysTune 10 = .ok (.getfield 9, 3) := by decide +kernel
theorem dX7_laysTune_13 : decode cX7_laysTune 13 = .ok (.iconst 4, 1) := by decide +kernel
theorem dX7_laysTune_14 : decode cX7_laysTune 14 = .ok (.bipush 12, 2) := by decide +kernel
theorem dX7_laysTune_16 : decode cX7_laysTune 16 = .ok (.iload_n 1, 1) := by decide +kernel
theorem dX7_laysTune_17 : decode cX7_laysTune 17 = .ok (.imul, 1) := by decide +kernel
theorem dX7_laysTune_18 : decode cX7_laysTune 18 = .ok (.iadd, 1) := by decide +kernel
theorem dX7_laysTune_19 : decode cX7_laysTune 19 = .ok (.iload 5, 2) := by decide +kernel
theorem dX7_laysTune_21 : decode cX7_laysTune 21 = .ok (.iadd, 1) := by decide +kernel
theorem dX7_laysTune_22 : decode cX7_laysTune 22 = .ok (.lload_n 3, 1) := by decide +kernel
theorem dX7_laysTune_23 : decode cX7_laysTune 23 = .ok (.iconst 4, 1) := by decide +kernel
theorem dX7_laysTune_24 : decode cX7_laysTune 24 = .ok (.iload 5, 2) := by decide +kernel
theorem dX7_laysTune_26 : decode cX7_laysTune 26 = .ok (.imul, 1) := by decide +kernel
theorem dX7_laysTune_27 : decode cX7_laysTune 27 = .ok (.lshr, 1) := by decide +kernel
theorem dX7_laysTune_28 : decode cX7_laysTune 28 = .ok (.ldc2_w 85, 3) := by decide +kernel
theorem dX7_laysTune_31 : decode cX7_laysTune 31 = .ok (.land, 1) := by decide +kernel
theorem dX7_laysTune_32 : decode cX7_laysTune 32 = .ok (.l2i, 1) := by decide +kernel
theorem dX7_laysTune_33 : decode cX7_laysTune 33 = .ok (.bipush 12, 2) := by decide +kernel
theorem dX7_laysTune_35 : decode cX7_laysTune 35 = .ok (.irem, 1) := by decide +kernel
theorem dX7_laysTune_36 : decode cX7_laysTune 36 = .ok (.iastore, 1) := by decide +kernel
theorem dX7_laysTune_37 : decode cX7_laysTune 37 = .ok (.iinc 5 1, 3) := by decide +kernel
theorem dX7_laysTune_40 : decode cX7_laysTune 40 = .ok (.goto (-37), 3) := by decide +kernel
theorem dX7_laysTune_43 : decode cX7_laysTune 43 = .ok (.aload_n 0, 1) := by decide +kernel
theorem dX7_laysTune_44 : decode cX7_laysTune 44 = .ok (.iconst 2, 1) := by decide +kernel
theorem dX7_laysTune_45 : decode cX7_laysTune 45 = .ok (.iload_n 1, 1) := by decide +kernel
theorem dX7_laysTune_46 : decode cX7_laysTune 46 = .ok (.iadd, 1) := by decide +kernel
theorem dX7_laysTune_47 : decode cX7_laysTune 47 = .ok (.iload_n 2, 1) := by decide +kernel
theorem dX7_laysTune_48 : decode cX7_laysTune 48 = .ok (.invokevirtual 87, 3) := by decide +kernel
theorem dX7_laysTune_51 : decode cX7_laysTune 51 = .ok (.ireturn, 1) := by decide +kernel
theorem dX7_tune_0 : decode cX7_tune 0 = .ok (.iload_n 1, 1) := by decide +kernel
theorem dX7_tune_1 : decode cX7_tune 1 = .ok (.invokestatic 91, 3) := by decide +kernel
theorem dX7_tune_4 : decode cX7_tune 4 = .ok (.ifCond .eq 23, 3) := by decide +kernel
theorem dX7_tune_7 : decode cX7_tune 7 = .ok (.iload_n 2, 1) := by decide +kernel
theorem dX7_tune_8 : decode cX7_tune 8 = .ok (.iconst 0, 1) := by decide +kernel
theorem dX7_tune_9 : decode cX7_tune 9 = .ok (.bipush 12, 2) := by decide +kernel
theorem dX7_tune_11 : decode cX7_tune 11 = .ok (.invokestatic 81, 3) := by decide +kernel
theorem dX7_tune_14 : decode cX7_tune 14 = .ok (.ifCond .eq 13, 3) := by decide +kernel
theorem dX7_tune_17 : decode cX7_tune 17 = .ok (.aload_n 0, 1) := by decide +kernel
theorem dX7_tune_18 : decode cX7_tune 18 = .ok (.iload_n 1, 1) := by decide +kernel
theorem dX7_tune_19 : decode cX7_tune 19 = .ok (.iload_n 2, 1) := by decide +kernel
theorem dX7_tune_20 : decode cX7_tune 20 = .ok (.lload_n 3, 1) := by decide +kernel
theorem dX7_tune_21 : decode cX7_tune 21 = .ok (.invokevirtual 95, 3) := by decide +kernel
theorem dX7_tune_24 : decode cX7_tune 24 = .ok (.goto 9, 3) := by decide +kernel
theorem dX7_tune_27 : decode cX7_tune 27 = .ok (.aload_n 0, 1) := by decide +kernel
theorem dX7_tune_28 : decode cX7_tune 28 = .ok (.ldc 71, 2) := by decide +kernel
theorem dX7_tune_30 : decode cX7_tune 30 = .ok (.invokevirtual 77, 3) := by decide +kernel
theorem dX7_tune_33 : decode cX7_tune 33 = .ok (.ireturn, 1) := by decide +kernel
theorem dX7_tone_0 : decode cX7_tone 0 = .ok (.iload_n 1, 1) := by decide +kernel
theorem dX7_tone_1 : decode cX7_tone 1 = .ok (.invokestatic 91, 3) := by decide +kernel
theorem dX7_tone_4 : decode cX7_tone 4 = .ok (.ifCond .eq 7, 3) := by decide +kernel
theorem dX7_tone_7 : decode cX7_tone 7 = .ok (.iload_n 2, 1) := by decide +kernel
theorem dX7_tone_8 : decode cX7_tone 8 = .ok (.ifCond .ge 10, 3) := by decide +kernel
theorem dX7_tone_11 : decode cX7_tone 11 = .ok (.aload_n 0, 1) := by decide +kernel
theorem dX7_tone_12 : decode cX7_tone 12 = .ok (.ldc 71, 2) := by decide +kernel
theorem dX7_tone_14 : decode cX7_tone 14 = .ok (.invokevirtual 77, 3) := by decide +kernel
theorem dX7_tone_17 : decode cX7_tone 17 = .ok (.ireturn, 1) := by decide +kernel
theorem dX7_tone_18 : decode cX7_tone 18 = .ok (.iload_n 2, 1) := by decide +kernel
theorem dX7_tone_19 : decode cX7_tone 19 = .ok (.aload_n 0, 1) := by decide +kernel
theorem dX7_tone_20 : decode cX7_tone 20 = .ok (.iload_n 1, 1) := by decide +kernel
theorem dX7_tone_21 : decode cX7_tone 21 = .ok (.invokevirtual 99, 3) := by decide +kernel
theorem dX7_tone_24 : decode cX7_tone 24 = .ok (.if_icmp .ge 12, 3) := by decide +kernel
theorem dX7_tone_27 : decode cX7_tone 27 = .ok (.aload_n 0, 1) := by decide +kernel
theorem dX7_tone_28 : decode cX7_tone 28 = .ok (.iload_n 1, 1) := by decide +kernel
theorem dX7_tone_29 : decode cX7_tone 29 = .ok (.iload_n 2, 1) := by decide +kernel
theorem dX7_tone_30 : decode cX7_tone 30 = .ok (.invokevirtual 102, 3) := by decide +kernel
theorem dX7_tone_33 : decode cX7_tone 33 = .ok (.goto 9, 3) := by decide +kernel
theorem dX7_tone_36 : decode cX7_tone 36 = .ok (.aload_n 0, 1) := by decide +kernel
theorem dX7_tone_37 : decode cX7_tone 37 = .ok (.ldc 76, 2) := by decide +kernel
theorem dX7_tone_39 : decode cX7_tone 39 = .ok (.invokevirtual 77, 3) := by decide +kernel
theorem dX7_tone_42 : decode cX7_tone 42 = .ok (.ireturn, 1) := by decide +kernel
theorem dX7_tensionOf_0 : decode cX7_tensionOf 0 = .ok (.iconst 0, 1) := by decide +kernel
theorem dX7_tensionOf_1 : decode cX7_tensionOf 1 = .ok (.istore_n 2, 1) := by decide +kernel
theorem dX7_tensionOf_2 : decode cX7_tensionOf 2 = .ok (.iconst 1, 1) := by decide +kernel
theorem dX7_tensionOf_3 : decode cX7_tensionOf 3 = .ok (.istore_n 3, 1) := by decide +kernel
theorem dX7_tensionOf_4 : decode cX7_tensionOf 4 = .ok (.iload_n 3, 1) := by decide +kernel
theorem dX7_tensionOf_5 : decode cX7_tensionOf 5 = .ok (.aload_n 0, 1) := by decide +kernel
theorem dX7_tensionOf_6 : decode cX7_tensionOf 6 = .ok (.iload_n 1, 1) := by decide +kernel
theorem dX7_tensionOf_7 : decode cX7_tensionOf 7 = .ok (.invokevirtual 99, 3) := by decide +kernel
theorem dX7_tensionOf_10 : decode cX7_tensionOf 10 = .ok (.if_icmp .ge 51, 3) := by decide +kernel
theorem dX7_tensionOf_13 : decode cX7_tensionOf 13 = .ok (.aload_n 0, 1) := by decide +kernel
theorem dX7_tensionOf_14 : decode cX7_tensionOf 14 = .ok (.iload_n 1, 1) := by decide +kernel
theorem dX7_tensionOf_15 : decode cX7_tensionOf 15 = .ok (.iload_n 3, 1) := by decide +kernel
theorem dX7_tensionOf_16 : decode cX7_tensionOf 16 = .ok (.invokevirtual 102, 3) := by decide +kernel
theorem dX7_tensionOf_19 : decode cX7_tensionOf 19 = .ok (.aload_n 0, 1) := by decide +kernel
theorem dX7_tensionOf_20 : decode cX7_tensionOf 20 = .ok (.iload_n 1, 1) := by decide +kernel
theorem dX7_tensionOf_21 : decode cX7_tensionOf 21 = .ok (.iload_n 3, 1) := by decide +kernel
theorem dX7_tensionOf_22 : decode cX7_tensionOf 22 = .ok (.iconst 1, 1) := by decide +kernel
theorem dX7_tensionOf_23 : decode cX7_tensionOf 23 = .ok (.isub, 1) := by decide +kernel
theorem dX7_tensionOf_24 : decode cX7_tensionOf 24 = .ok (.invokevirtual 102, 3) := by decide +kernel
theorem dX7_tensionOf_27 : decode cX7_tensionOf 27 = .ok (.isub, 1) := by decide +kernel
theorem dX7_tensionOf_28 : decode cX7_tensionOf 28 = .ok (.invokestatic 105, 3) := by decide +kernel
theorem dX7_tensionOf_31 : decode cX7_tensionOf 31 = .ok (.istore 4, 2) := by decide +kernel
theorem dX7_tensionOf_33 : decode cX7_tensionOf 33 = .ok (.iload_n 2, 1) := by decide +kernel
theorem dX7_tensionOf_34 : decode cX7_tensionOf 34 = .ok (.iload 4, 2) := by decide +kernel
theorem dX7_tensionOf_36 : decode cX7_tensionOf 36 = .ok (.bipush 12, 2) := by decide +kernel
theorem dX7_tensionOf_38 : decode cX7_tensionOf 38 = .ok (.iload 4, 2) := by decide +kernel
theorem dX7_tensionOf_40 : decode cX7_tensionOf 40 = .ok (.isub, 1) := by decide +kernel
theorem dX7_tensionOf_41 : decode cX7_tensionOf 41 = .ok (.invokestatic 110, 3) := by decide +kernel
theorem dX7_tensionOf_44 : decode cX7_tensionOf 44 = .ok (.iconst 4, 1) := by decide +kernel
theorem dX7_tensionOf_45 : decode cX7_tensionOf 45 = .ok (.if_icmp .lt 7, 3) := by decide +kernel
theorem dX7_tensionOf_48 : decode cX7_tensionOf 48 = .ok (.iconst 1, 1) := by decide +kernel
theorem dX7_tensionOf_49 : decode cX7_tensionOf 49 = .ok (.goto 4, 3) := by decide +kernel
theorem dX7_tensionOf_52 : decode cX7_tensionOf 52 = .ok (.iconst 0, 1) := by decide +kernel
theorem dX7_tensionOf_53 : decode cX7_tensionOf 53 = .ok (.iadd, 1) := by decide +kernel
theorem dX7_tensionOf_54 : decode cX7_tensionOf 54 = .ok (.istore_n 2, 1) := by decide +kernel
theorem dX7_tensionOf_55 : decode cX7_tensionOf 55 = .ok (.iinc 3 1, 3) := by decide +kernel
theorem dX7_tensionOf_58 : decode cX7_tensionOf 58 = .ok (.goto (-54), 3) := by decide +kernel
theorem dX7_tensionOf_61 : decode cX7_tensionOf 61 = .ok (.iload_n 2, 1) := by decide +kernel
theorem dX7_tensionOf_62 : decode cX7_tensionOf 62 = .ok (.ireturn, 1) := by decide +kernel
theorem dX7_isHome_0 : decode cX7_isHome 0 = .ok (.aload_n 0, 1) := by decide +kernel
theorem dX7_isHome_1 : decode cX7_isHome 1 = .ok (.iload_n 1, 1) := by decide +kernel
theorem dX7_isHome_2 : decode cX7_isHome 2 = .ok (.invokevirtual 99, 3) := by decide +kernel
theorem dX7_isHome_5 : decode cX7_isHome 5 = .ok (.ifCond .le 22, 3) := by decide +kernel
theorem dX7_isHome_8 : decode cX7_isHome 8 = .ok (.aload_n 0, 1) := by decide +kernel
theorem dX7_isHome_9 : decode cX7_isHome 9 = .ok (.iload_n 1, 1) := by decide +kernel
theorem dX7_isHome_10 : decode cX7_isHome 10 = .ok (.aload_n 0, 1) := by decide +kernel
theorem dX7_isHome_11 : decode cX7_isHome 11 = .ok (.iload_n 1, 1) := by decide +kernel
theorem dX7_isHome_12 : decode cX7_isHome 12 = .ok (.invokevirtual 99, 3) := by decide +kernel
theorem dX7_isHome_15 : decode cX7_isHome 15 = .ok (.iconst 1, 1) := by decide +kernel
theorem dX7_isHome_16 : decode cX7_isHome 16 = .ok (.isub, 1) := by decide +kernel
theorem dX7_isHome_17 : decode cX7_isHome 17 = .ok (.invokevirtual 102, 3) := by decide +kernel
theorem dX7_isHome_20 : decode cX7_isHome 20 = .ok (.ifCond .ne 7, 3) := by decide +kernel
theorem dX7_isHome_23 : decode cX7_isHome 23 = .ok (.iconst 1, 1) := by decide +kernel
theorem dX7_isHome_24 : decode cX7_isHome 24 = .ok (.goto 4, 3) := by decide +kernel
theorem dX7_isHome_27 : decode cX7_isHome 27 = .ok (.iconst 0, 1) := by decide +kernel
theorem dX7_isHome_28 : decode cX7_isHome 28 = .ok (.ireturn, 1) := by decide +kernel
theorem dX7_tonesIn_0 : decode cX7_tonesIn 0 = .ok (.iconst 0, 1) := by decide +kernel
theorem dX7_tonesIn_1 : decode cX7_tonesIn 1 = .ok (.istore_n 2, 1) := by decide +kernel
theorem dX7_tonesIn_2 : decode cX7_tonesIn 2 = .ok (.iconst 0, 1) := by decide +kernel
theorem dX7_tonesIn_3 : decode cX7_tonesIn 3 = .ok (.istore_n 3, 1) := by decide +kernel
theorem dX7_tonesIn_4 : decode cX7_tonesIn 4 = .ok (.iload_n 3, 1) := by decide +kernel
theorem dX7_tonesIn_5 : decode cX7_tonesIn 5 = .ok (.aload_n 0, 1) := by decide +kernel
theorem dX7_tonesIn_6 : decode cX7_tonesIn 6 = .ok (.iload_n 1, 1) := by decide +kernel
theorem dX7_tonesIn_7 : decode cX7_tonesIn 7 = .ok (.invokevirtual 99, 3) := by decide +kernel
theorem dX7_tonesIn_10 : decode cX7_tonesIn 10 = .ok (.if_icmp .ge 20, 3) := by decide +kernel
theorem dX7_tonesIn_13 : decode cX7_tonesIn 13 = .ok (.iload_n 2, 1) := by decide +kernel
theorem dX7_tonesIn_14 : decode cX7_tonesIn 14 = .ok (.iconst 1, 1) := by decide +kernel
theorem dX7_tonesIn_15 : decode cX7_tonesIn 15 = .ok (.aload_n 0, 1) := by decide +kernel
theorem dX7_tonesIn_16 : decode cX7_tonesIn 16 = .ok (.iload_n 1, 1) := by decide +kernel
theorem dX7_tonesIn_17 : decode cX7_tonesIn 17 = .ok (.iload_n 3, 1) := by decide +kernel
theorem dX7_tonesIn_18 : decode cX7_tonesIn 18 = .ok (.invokevirtual 102, 3) := by decide +kernel
theorem dX7_tonesIn_21 : decode cX7_tonesIn 21 = .ok (.ishl, 1) := by decide +kernel
theorem dX7_tonesIn_22 : decode cX7_tonesIn 22 = .ok (.ior, 1) := by decide +kernel
theorem dX7_tonesIn_23 : decode cX7_tonesIn 23 = .ok (.istore_n 2, 1) := by decide +kernel
theorem dX7_tonesIn_24 : decode cX7_tonesIn 24 = .ok (.iinc 3 1, 3) := by decide +kernel
theorem dX7_tonesIn_27 : decode cX7_tonesIn 27 = .ok (.goto (-23), 3) := by decide +kernel
theorem dX7_tonesIn_30 : decode cX7_tonesIn 30 = .ok (.iload_n 2, 1) := by decide +kernel
theorem dX7_tonesIn_31 : decode cX7_tonesIn 31 = .ok (.ireturn, 1) := by decide +kernel
theorem dX7_unlikeNow_0 : decode cX7_unlikeNow 0 = .ok (.iconst 0, 1) := by decide +kernel
theorem dX7_unlikeNow_1 : decode cX7_unlikeNow 1 = .ok (.istore_n 1, 1) := by decide +kernel
theorem dX7_unlikeNow_2 : decode cX7_unlikeNow 2 = .ok (.iconst 0, 1) := by decide +kernel
theorem dX7_unlikeNow_3 : decode cX7_unlikeNow 3 = .ok (.istore_n 2, 1) := by decide +kernel
theorem dX7_unlikeNow_4 : decode cX7_unlikeNow 4 = .ok (.iload_n 2, 1) := by decide +kernel
theorem dX7_unlikeNow_5 : decode cX7_unlikeNow 5 = .ok (.aload_n 0, 1) := by decide +kernel
theorem dX7_unlikeNow_6 : decode cX7_unlikeNow 6 = .ok (.iconst 0, 1) := by decide +kernel
theorem dX7_unlikeNow_7 : decode cX7_unlikeNow 7 = .ok (.invokevirtual 99, 3) := by decide +kernel
theorem dX7_unlikeNow_10 : decode cX7_unlikeNow 10 = .ok (.aload_n 0, 1) := by decide +kernel
theorem dX7_unlikeNow_11 : decode cX7_unlikeNow 11 = .ok (.iconst 1, 1) := by decide +kernel
theorem dX7_unlikeNow_12 : decode cX7_unlikeNow 12 = .ok (.invokevirtual 99, 3) := by decide +kernel
theorem dX7_unlikeNow_15 : decode cX7_unlikeNow 15 = .ok (.invokestatic 113, 3) := by decide +kernel
theorem dX7_unlikeNow_18 : decode cX7_unlikeNow 18 = .ok (.if_icmp .ge 60, 3) := by decide +kernel
theorem dX7_unlikeNow_21 : decode cX7_unlikeNow 21 = .ok (.iload_n 2, 1) := by decide +kernel
theorem dX7_unlikeNow_22 : decode cX7_unlikeNow 22 = .ok (.aload_n 0, 1) := by decide +kernel
theorem dX7_unlikeNow_23 : decode cX7_unlikeNow 23 = .ok (.iconst 0, 1) := by decide +kernel
theorem dX7_unlikeNow_24 : decode cX7_unlikeNow 24 = .ok (.invokevirtual 99, 3) := by decide +kernel
theorem dX7_unlikeNow_27 : decode cX7_unlikeNow 27 = .ok (.if_icmp .ge 16, 3) := by decide +kernel
theorem dX7_unlikeNow_30 : decode cX7_unlikeNow 30 = .ok (.iload_n 2, 1) := by decide +kernel
theorem dX7_unlikeNow_31 : decode cX7_unlikeNow 31 = .ok (.aload_n 0, 1) := by decide +kernel
theorem dX7_unlikeNow_32 : decode cX7_unlikeNow 32 = .ok (.iconst 1, 1) := by decide +kernel
theorem dX7_unlikeNow_33 : decode cX7_unlikeNow 33 = .ok (.invokevirtual 99, 3) := by decide +kernel
theorem dX7_unlikeNow_36 : decode cX7_unlikeNow 36 = .ok (.if_icmp .ge 7, 3) := by decide +kernel
theorem dX7_unlikeNow_39 : decode cX7_unlikeNow 39 = .ok (.iconst 1, 1) := by decide +kernel
theorem dX7_unlikeNow_40 : decode cX7_unlikeNow 40 = .ok (.goto 4, 3) := by decide +kernel
theorem dX7_unlikeNow_43 : decode cX7_unlikeNow 43 = .ok (.iconst 0, 1) := by decide +kernel
theorem dX7_unlikeNow_44 : decode cX7_unlikeNow 44 = .ok (.istore_n 3, 1) := by decide +kernel
theorem dX7_unlikeNow_45 : decode cX7_unlikeNow 45 = .ok (.iload_n 1, 1) := by decide +kernel
theorem dX7_unlikeNow_46 : decode cX7_unlikeNow 46 = .ok (.iload_n 3, 1) := by decide +kernel
theorem dX7_unlikeNow_47 : decode cX7_unlikeNow 47 = .ok (.ifCond .eq 22, 3) := by decide +kernel
theorem dX7_unlikeNow_50 : decode cX7_unlikeNow 50 = .ok (.aload_n 0, 1) := by decide +kernel
theorem dX7_unlikeNow_51 : decode cX7_unlikeNow 51 = .ok (.iconst 0, 1) := by decide +kernel
theorem dX7_unlikeNow_52 : decode cX7_unlikeNow 52 = .ok (.iload_n 2, 1) := by decide +kernel
theorem dX7_unlikeNow_53 : decode cX7_unlikeNow 53 = .ok (.invokevirtual 102, 3) := by decide +kernel
theorem dX7_unlikeNow_56 : decode cX7_unlikeNow 56 = .ok (.aload_n 0, 1) := by decide +kernel
theorem dX7_unlikeNow_57 : decode cX7_unlikeNow 57 = .ok (.iconst 1, 1) := by decide +kernel
theorem dX7_unlikeNow_58 : decode cX7_unlikeNow 58 = .ok (.iload_n 2, 1) := by decide +kernel
theorem dX7_unlikeNow_59 : decode cX7_unlikeNow 59 = .ok (.invokevirtual 102, 3) := by decide +kernel
theorem dX7_unlikeNow_62 : decode cX7_unlikeNow 62 = .ok (.if_icmp .ne 7, 3) := by decide +kernel
theorem dX7_unlikeNow_65 : decode cX7_unlikeNow 65 = .ok (.iconst 0, 1) := by decide +kernel
theorem dX7_unlikeNow_66 : decode cX7_unlikeNow 66 = .ok (.goto 4, 3) := by decide +kernel
theorem dX7_unlikeNow_69 : decode cX7_unlikeNow 69 = .ok (.iconst 1, 1) := by decide +kernel
theorem dX7_unlikeNow_70 : decode cX7_unlikeNow 70 = .ok (.iadd, 1) := by decide +kernel
theorem dX7_unlikeNow_71 : decode cX7_unlikeNow 71 = .ok (.istore_n 1, 1) := by decide +kernel
theorem dX7_unlikeNow_72 : decode cX7_unlikeNow 72 = .ok (.iinc 2 1, 3) := by decide +kernel
theorem dX7_unlikeNow_75 : decode cX7_unlikeNow 75 = .ok (.goto (-71), 3) := by decide +kernel
theorem dX7_unlikeNow_78 : decode cX7_unlikeNow 78 = .ok (.iload_n 1, 1) := by decide +kernel
theorem dX7_unlikeNow_79 : decode cX7_unlikeNow 79 = .ok (.ireturn, 1) := by decide +kernel
theorem dX7_areAlike_0 : decode cX7_areAlike 0 = .ok (.aload_n 0, 1) := by decide +kernel
theorem dX7_areAlike_1 : decode cX7_areAlike 1 = .ok (.iconst 0, 1) := by decide +kernel
theorem dX7_areAlike_2 : decode cX7_areAlike 2 = .ok (.invokevirtual 99, 3) := by decide +kernel
theorem dX7_areAlike_5 : decode cX7_areAlike 5 = .ok (.ifCond .le 14, 3) := by decide +kernel
theorem dX7_areAlike_8 : decode cX7_areAlike 8 = .ok (.aload_n 0, 1) := by decide +kernel
theorem dX7_areAlike_9 : decode cX7_areAlike 9 = .ok (.invokevirtual 116, 3) := by decide +kernel
theorem dX7_areAlike_12 : decode cX7_areAlike 12 = .ok (.ifCond .ne 7, 3) := by decide +kernel
theorem dX7_areAlike_15 : decode cX7_areAlike 15 = .ok (.iconst 1, 1) := by decide +kernel
theorem dX7_areAlike_16 : decode cX7_areAlike 16 = .ok (.goto 4, 3) := by decide +kernel
theorem dX7_areAlike_19 : decode cX7_areAlike 19 = .ok (.iconst 0, 1) := by decide +kernel
theorem dX7_areAlike_20 : decode cX7_areAlike 20 = .ok (.ireturn, 1) := by decide +kernel
theorem dX7_manyOf_0 : decode cX7_manyOf 0 = .ok (.iconst 0, 1) := by decide +kernel
theorem dX7_manyOf_1 : decode cX7_manyOf 1 = .ok (.istore_n 2, 1) := by decide +kernel
theorem dX7_manyOf_2 : decode cX7_manyOf 2 = .ok (.iconst 0, 1) := by decide +kernel
theorem dX7_manyOf_3 : decode cX7_manyOf 3 = .ok (.istore_n 3, 1) := by decide +kernel
theorem dX7_manyOf_4 : decode cX7_manyOf 4 = .ok (.iload_n 3, 1) := by decide +kernel
theorem dX7_manyOf_5 : decode cX7_manyOf 5 = .ok (.aload_n 0, 1) := by decide +kernel
theorem dX7_manyOf_6 : decode cX7_manyOf 6 = .ok (.getfield 9, 3) := by decide +kernel
theorem dX7_manyOf_9 : decode cX7_manyOf 9 = .ok (.iconst 1, 1) := by decide +kernel
theorem dX7_manyOf_10 : decode cX7_manyOf 10 = .ok (.iaload, 1) := by decide +kernel
theorem dX7_manyOf_11 : decode cX7_manyOf 11 = .ok (.if_icmp .ge 27, 3) := by decide +kernel
theorem dX7_manyOf_14 : decode cX7_manyOf 14 = .ok (.iload_n 2, 1) := by decide +kernel
theorem dX7_manyOf_15 : decode cX7_manyOf 15 = .ok (.aload_n 0, 1) := by decide +kernel
theorem dX7_manyOf_16 : decode cX7_manyOf 16 = .ok (.iload_n 3, 1) := by decide +kernel
theorem dX7_manyOf_17 : decode cX7_manyOf 17 = .ok (.iconst 1, 1) := by decide +kernel
theorem dX7_manyOf_18 : decode cX7_manyOf 18 = .ok (.invokevirtual 120, 3) := by decide +kernel
theorem dX7_manyOf_21 : decode cX7_manyOf 21 = .ok (.iload_n 1, 1) := by decide +kernel
theorem dX7_manyOf_22 : decode cX7_manyOf 22 = .ok (.if_icmp .ne 7, 3) := by decide +kernel
theorem dX7_manyOf_25 : decode cX7_manyOf 25 = .ok (.iconst 1, 1) := by decide +kernel
theorem dX7_manyOf_26 : decode cX7_manyOf 26 = .ok (.goto 4, 3) := by decide +kernel
theorem dX7_manyOf_29 : decode cX7_manyOf 29 = .ok (.iconst 0, 1) := by decide +kernel
theorem dX7_manyOf_30 : decode cX7_manyOf 30 = .ok (.iadd, 1) := by decide +kernel
theorem dX7_manyOf_31 : decode cX7_manyOf 31 = .ok (.istore_n 2, 1) := by decide +kernel
theorem dX7_manyOf_32 : decode cX7_manyOf 32 = .ok (.iinc 3 1, 3) := by decide +kernel
theorem dX7_manyOf_35 : decode cX7_manyOf 35 = .ok (.goto (-31), 3) := by decide +kernel
theorem dX7_manyOf_38 : decode cX7_manyOf 38 = .ok (.iload_n 2, 1) := by decide +kernel
theorem dX7_manyOf_39 : decode cX7_manyOf 39 = .ok (.ireturn, 1) := by decide +kernel
theorem dX7_side_0 : decode cX7_side 0 = .ok (.iload_n 1, 1) := by decide +kernel
theorem dX7_side_1 : decode cX7_side 1 = .ok (.invokestatic 91, 3) := by decide +kernel
theorem dX7_side_4 : decode cX7_side 4 = .ok (.ifCond .ne 10, 3) := by decide +kernel
theorem dX7_side_7 : decode cX7_side 7 = .ok (.aload_n 0, 1) := by decide +kernel
theorem dX7_side_8 : decode cX7_side 8 = .ok (.ldc 71, 2) := by decide +kernel
theorem dX7_side_10 : decode cX7_side 10 = .ok (.invokevirtual 77, 3) := by decide +kernel
theorem dX7_side_13 : decode cX7_side 13 = .ok (.ireturn, 1) := by decide +kernel
theorem dX7_side_14 : decode cX7_side 14 = .ok (.iload_n 2, 1) := by decide +kernel
theorem dX7_side_15 : decode cX7_side 15 = .ok (.tableswitch 71 0 4 #[33, 39, 45, 59, 65], 33) := by decide +kernel
theorem dX7_side_48 : decode cX7_side 48 = .ok (.aload_n 0, 1) := by decide +kernel
theorem dX7_side_49 : decode cX7_side 49 = .ok (.iload_n 1, 1) := by decide +kernel
theorem dX7_side_50 : decode cX7_side 50 = .ok (.invokevirtual 99, 3) := by decide +kernel
theorem dX7_side_53 : decode cX7_side 53 = .ok (.ireturn, 1) := by decide +kernel
theorem dX7_side_54 : decode cX7_side 54 = .ok (.aload_n 0, 1) := by decide +kernel
theorem dX7_side_55 : decode cX7_side 55 = .ok (.iload_n 1, 1) := by decide +kernel
theorem dX7_side_56 : decode cX7_side 56 = .ok (.invokevirtual 123, 3) := by decide +kernel
theorem dX7_side_59 : decode cX7_side 59 = .ok (.ireturn, 1) := by decide +kernel
theorem dX7_side_60 : decode cX7_side 60 = .ok (.aload_n 0, 1) := by decide +kernel
theorem dX7_side_61 : decode cX7_side 61 = .ok (.iload_n 1, 1) := by decide +kernel
theorem dX7_side_62 : decode cX7_side 62 = .ok (.invokevirtual 126, 3) := by decide +kernel
theorem dX7_side_65 : decode cX7_side 65 = .ok (.ifCond .eq 7, 3) := by decide +kernel
theorem dX7_side_68 : decode cX7_side 68 = .ok (.iconst 1, 1) := by decide +kernel
theorem dX7_side_69 : decode cX7_side 69 = .ok (.goto 4, 3) := by decide +kernel
theorem dX7_side_72 : decode cX7_side 72 = .ok (.iconst 0, 1) := by decide +kernel
theorem dX7_side_73 : decode cX7_side 73 = .ok (.ireturn, 1) := by decide +kernel
theorem dX7_side_74 : decode cX7_side 74 = .ok (.aload_n 0, 1) := by decide +kernel
theorem dX7_side_75 : decode cX7_side 75 = .ok (.iload_n 1, 1) := by decide +kernel
theorem dX7_side_76 : decode cX7_side 76 = .ok (.invokevirtual 129, 3) := by decide +kernel
theorem dX7_side_79 : decode cX7_side 79 = .ok (.ireturn, 1) := by decide +kernel
theorem dX7_side_80 : decode cX7_side 80 = .ok (.aload_n 0, 1) := by decide +kernel
theorem dX7_side_81 : decode cX7_side 81 = .ok (.iload_n 1, 1) := by decide +kernel
theorem dX7_side_82 : decode cX7_side 82 = .ok (.invokevirtual 132, 3) := by decide +kernel
theorem dX7_side_85 : decode cX7_side 85 = .ok (.ireturn, 1) := by decide +kernel
theorem dX7_side_86 : decode cX7_side 86 = .ok (.aload_n 0, 1) := by decide +kernel
theorem dX7_side_87 : decode cX7_side 87 = .ok (.ldc 71, 2) := by decide +kernel
theorem dX7_side_89 : decode cX7_side 89 = .ok (.invokevirtual 77, 3) := by decide +kernel
theorem dX7_side_92 : decode cX7_side 92 = .ok (.ireturn, 1) := by decide +kernel
theorem dX7_isAttache_0 : decode cX7_isAttache 0 = .ok (.iload_n 1, 1) := by decide +kernel
theorem dX7_isAttache_1 : decode cX7_isAttache 1 = .ok (.iconst 0, 1) := by decide +kernel
theorem dX7_isAttache_2 : decode cX7_isAttache 2 = .ok (.aload_n 0, 1) := by decide +kernel
theorem dX7_isAttache_3 : decode cX7_isAttache 3 = .ok (.getfield 9, 3) := by decide +kernel
theorem dX7_isAttache_6 : decode cX7_isAttache 6 = .ok (.iconst 1, 1) := by decide +kernel
theorem dX7_isAttache_7 : decode cX7_isAttache 7 = .ok (.iaload, 1) := by decide +kernel
theorem dX7_isAttache_8 : decode cX7_isAttache 8 = .ok (.iconst 1, 1) := by decide +kernel
theorem dX7_isAttache_9 : decode cX7_isAttache 9 = .ok (.isub, 1) := by decide +kernel
theorem dX7_isAttache_10 : decode cX7_isAttache 10 = .ok (.invokestatic 81, 3) := by decide +kernel
theorem dX7_isAttache_13 : decode cX7_isAttache 13 = .ok (.ireturn, 1) := by decide +kernel
theorem dX7_attacheAt_0 : decode cX7_attacheAt 0 = .ok (.bipush 28, 2) := by decide +kernel
theorem dX7_attacheAt_2 : decode cX7_attacheAt 2 = .ok (.iconst 5, 1) := by decide +kernel
theorem dX7_attacheAt_3 : decode cX7_attacheAt 3 = .ok (.iload_n 0, 1) := by decide +kernel
theorem dX7_attacheAt_4 : decode cX7_attacheAt 4 = .ok (.imul, 1) := by decide +kernel
theorem dX7_attacheAt_5 : decode cX7_attacheAt 5 = .ok (.iadd, 1) := by decide +kernel
theorem dX7_attacheAt_6 : decode cX7_attacheAt 6 = .ok (.iload_n 1, 1) := by decide +kernel
theorem dX7_attacheAt_7 : decode cX7_attacheAt 7 = .ok (.iadd, 1) := by decide +kernel
theorem dX7_attacheAt_8 : decode cX7_attacheAt 8 = .ok (.ireturn, 1) := by decide +kernel
theorem dX7_attacheIs_0 : decode cX7_attacheIs 0 = .ok (.aload_n 0, 1) := by decide +kernel
theorem dX7_attacheIs_1 : decode cX7_attacheIs 1 = .ok (.getfield 9, 3) := by decide +kernel
theorem dX7_attacheIs_4 : decode cX7_attacheIs 4 = .ok (.iload_n 1, 1) := by decide +kernel
theorem dX7_attacheIs_5 : decode cX7_attacheIs 5 = .ok (.iload_n 2, 1) := by decide +kernel
theorem dX7_attacheIs_6 : decode cX7_attacheIs 6 = .ok (.invokestatic 135, 3) := by decide +kernel
theorem dX7_attacheIs_9 : decode cX7_attacheIs 9 = .ok (.iaload, 1) := by decide +kernel
theorem dX7_attacheIs_10 : decode cX7_attacheIs 10 = .ok (.ireturn, 1) := by decide +kernel
theorem dX7_isKind_0 : decode cX7_isKind 0 = .ok (.iload_n 0, 1) := by decide +kernel
theorem dX7_isKind_1 : decode cX7_isKind 1 = .ok (.iconst 0, 1) := by decide +kernel
theorem dX7_isKind_2 : decode cX7_isKind 2 = .ok (.iconst 5, 1) := by decide +kernel
theorem dX7_isKind_3 : decode cX7_isKind 3 = .ok (.invokestatic 81, 3) := by decide +kernel
theorem dX7_isKind_6 : decode cX7_isKind 6 = .ok (.ireturn, 1) := by decide +kernel
theorem dX7_isTone_0 : decode cX7_isTone 0 = .ok (.lload_n 0, 1) := by decide +kernel
theorem dX7_isTone_1 : decode cX7_isTone 1 = .ok (.lconst 0, 1) := by decide +kernel
theorem dX7_isTone_2 : decode cX7_isTone 2 = .ok (.lcmp, 1) := by decide +kernel
theorem dX7_isTone_3 : decode cX7_isTone 3 = .ok (.ifCond .lt 15, 3) := by decide +kernel
theorem dX7_isTone_6 : decode cX7_isTone 6 = .ok (.lload_n 0, 1) := by decide +kernel
theorem dX7_isTone_7 : decode cX7_isTone 7 = .ok (.ldc2_w 138, 3) := by decide +kernel
theorem dX7_isTone_10 : decode cX7_isTone 10 = .ok (.lcmp, 1) := by decide +kernel
theorem dX7_isTone_11 : decode cX7_isTone 11 = .ok (.ifCond .ge 7, 3) := by decide +kernel
theorem dX7_isTone_14 : decode cX7_isTone 14 = .ok (.iconst 1, 1) := by decide +kernel
theorem dX7_isTone_15 : decode cX7_isTone 15 = .ok (.goto 4, 3) := by decide +kernel
theorem dX7_isTone_18 : decode cX7_isTone 18 = .ok (.iconst 0, 1) := by decide +kernel
theorem dX7_isTone_19 : decode cX7_isTone 19 = .ok (.ireturn, 1) := by decide +kernel
theorem dX7_comes_0 : decode cX7_comes 0 = .ok (.aload_n 0, 1) := by decide +kernel
theorem dX7_comes_1 : decode cX7_comes 1 = .ok (.getfield 9, 3) := by decide +kernel
theorem dX7_comes_4 : decode cX7_comes 4 = .ok (.iconst 1, 1) := by decide +kernel
theorem dX7_comes_5 : decode cX7_comes 5 = .ok (.iaload, 1) := by decide +kernel
theorem dX7_comes_6 : decode cX7_comes 6 = .ok (.istore 5, 2) := by decide +kernel
theorem dX7_comes_8 : decode cX7_comes 8 = .ok (.aload_n 0, 1) := by decide +kernel
theorem dX7_comes_9 : decode cX7_comes 9 = .ok (.getfield 9, 3) := by decide +kernel
theorem dX7_comes_12 : decode cX7_comes 12 = .ok (.iload 5, 2) := by decide +kernel
theorem dX7_comes_14 : decode cX7_comes 14 = .ok (.iconst 0, 1) := by decide +kernel
theorem dX7_comes_15 : decode cX7_comes 15 = .ok (.invokestatic 135, 3) := by decide +kernel
theorem dX7_comes_18 : decode cX7_comes 18 = .ok (.iload_n 1, 1) := by decide +kernel
theorem dX7_comes_19 : decode cX7_comes 19 = .ok (.iastore, 1) := by decide +kernel
theorem dX7_comes_20 : decode cX7_comes 20 = .ok (.aload_n 0, 1) := by decide +kernel
theorem dX7_comes_21 : decode cX7_comes 21 = .ok (.getfield 9, 3) := by decide +kernel
theorem dX7_comes_24 : decode cX7_comes 24 = .ok (.iload 5, 2) := by decide +kernel
theorem dX7_comes_26 : decode cX7_comes 26 = .ok (.iconst 1, 1) := by decide +kernel
theorem dX7_comes_27 : decode cX7_comes 27 = .ok (.invokestatic 135, 3) := by decide +kernel
theorem dX7_comes_30 : decode cX7_comes 30 = .ok (.iload_n 2, 1) := by decide +kernel
theorem dX7_comes_31 : decode cX7_comes 31 = .ok (.iastore, 1) := by decide +kernel
theorem dX7_comes_32 : decode cX7_comes 32 = .ok (.aload_n 0, 1) := by decide +kernel
theorem dX7_comes_33 : decode cX7_comes 33 = .ok (.getfield 9, 3) := by decide +kernel
theorem dX7_comes_36 : decode cX7_comes 36 = .ok (.iload 5, 2) := by decide +kernel
theorem dX7_comes_38 : decode cX7_comes 38 = .ok (.iconst 2, 1) := by decide +kernel
theorem dX7_comes_39 : decode cX7_comes 39 = .ok (.invokestatic 135, 3) := by decide +kernel
theorem dX7_comes_42 : decode cX7_comes 42 = .ok (.iload_n 3, 1) := by decide +kernel
theorem dX7_comes_43 : decode cX7_comes 43 = .ok (.iastore, 1) := by decide +kernel
theorem dX7_comes_44 : decode cX7_comes 44 = .ok (.aload_n 0, 1) := by decide +kernel
theorem dX7_comes_45 : decode cX7_comes 45 = .ok (.getfield 9, 3) := by decide +kernel
theorem dX7_comes_48 : decode cX7_comes 48 = .ok (.iload 5, 2) := by decide +kernel
theorem dX7_comes_50 : decode cX7_comes 50 = .ok (.iconst 3, 1) := by decide +kernel
theorem dX7_comes_51 : decode cX7_comes 51 = .ok (.invokestatic 135, 3) := by decide +kernel
theorem dX7_comes_54 : decode cX7_comes 54 = .ok (.iload 4, 2) := by decide +kernel
theorem dX7_comes_56 : decode cX7_comes 56 = .ok (.iastore, 1) := by decide +kernel
theorem dX7_comes_57 : decode cX7_comes 57 = .ok (.aload_n 0, 1) := by decide +kernel
theorem dX7_comes_58 : decode cX7_comes 58 = .ok (.getfield 9, 3) := by decide +kernel
theorem dX7_comes_61 : decode cX7_comes 61 = .ok (.iload 5, 2) := by decide +kernel
theorem dX7_comes_63 : decode cX7_comes 63 = .ok (.iconst 4, 1) := by decide +kernel
theorem dX7_comes_64 : decode cX7_comes 64 = .ok (.invokestatic 135, 3) := by decide +kernel
theorem dX7_comes_67 : decode cX7_comes 67 = .ok (.iconst 0, 1) := by decide +kernel
theorem dX7_comes_68 : decode cX7_comes 68 = .ok (.iastore, 1) := by decide +kernel
theorem dX7_comes_69 : decode cX7_comes 69 = .ok (.aload_n 0, 1) := by decide +kernel
theorem dX7_comes_70 : decode cX7_comes 70 = .ok (.getfield 9, 3) := by decide +kernel
theorem dX7_comes_73 : decode cX7_comes 73 = .ok (.iconst 1, 1) := by decide +kernel
theorem dX7_comes_74 : decode cX7_comes 74 = .ok (.dup2, 1) := by decide +kernel
theorem dX7_comes_75 : decode cX7_comes 75 = .ok (.iaload, 1) := by decide +kernel
theorem dX7_comes_76 : decode cX7_comes 76 = .ok (.iconst 1, 1) := by decide +kernel
theorem dX7_comes_77 : decode cX7_comes 77 = .ok (.iadd, 1) := by decide +kernel
theorem dX7_comes_78 : decode cX7_comes 78 = .ok (.iastore, 1) := by decide +kernel
theorem dX7_comes_79 : decode cX7_comes 79 = .ok (.iload 5, 2) := by decide +kernel
theorem dX7_comes_81 : decode cX7_comes 81 = .ok (.ireturn, 1) := by decide +kernel
theorem dX7_attache_0 : decode cX7_attache 0 = .ok (.iload_n 1, 1) := by decide +kernel
theorem dX7_attache_1 : decode cX7_attache 1 = .ok (.invokestatic 140, 3) := by decide +kernel
theorem dX7_attache_4 : decode cX7_attache 4 = .ok (.ifCond .eq 10, 3) := by decide +kernel
theorem dX7_attache_7 : decode cX7_attache 7 = .ok (.iload_n 2, 1) := by decide +kernel
theorem dX7_attache_8 : decode cX7_attache 8 = .ok (.invokestatic 91, 3) := by decide +kernel
theorem dX7_attache_11 : decode cX7_attache 11 = .ok (.ifCond .ne 10, 3) := by decide +kernel
theorem dX7_attache_14 : decode cX7_attache 14 = .ok (.aload_n 0, 1) := by decide +kernel
theorem dX7_attache_15 : decode cX7_attache 15 = .ok (.ldc 71, 2) := by decide +kernel
theorem dX7_attache_17 : decode cX7_attache 17 = .ok (.invokevirtual 77, 3) := by decide +kernel
theorem dX7_attache_20 : decode cX7_attache 20 = .ok (.ireturn, 1) := by decide +kernel
theorem dX7_attache_21 : decode cX7_attache 21 = .ok (.aload_n 0, 1) := by decide +kernel
theorem dX7_attache_22 : decode cX7_attache 22 = .ok (.getfield 9, 3) := by decide +kernel
theorem dX7_attache_25 : decode cX7_attache 25 = .ok (.iconst 1, 1) := by decide +kernel
theorem dX7_attache_26 : decode cX7_attache 26 = .ok (.iaload, 1) := by decide +kernel
theorem dX7_attache_27 : decode cX7_attache 27 = .ok (.bipush 8, 2) := by decide +kernel
theorem dX7_attache_29 : decode cX7_attache 29 = .ok (.if_icmp .ne 12, 3) := by decide +kernel
theorem dX7_attache_32 : decode cX7_attache 32 = .ok (.aload_n 0, 1) := by decide +kernel
theorem dX7_attache_33 : decode cX7_attache 33 = .ok (.ldc 143, 2) := by decide +kernel
theorem dX7_attache_35 : decode cX7_attache 35 = .ok (.invokevirtual 77, 3) := by decide +kernel
theorem dX7_attache_38 : decode cX7_attache 38 = .ok (.goto 11, 3) := by decide +kernel
theorem dX7_attache_41 : decode cX7_attache 41 = .ok (.aload_n 0, 1) := by decide +kernel
theorem dX7_attache_42 : decode cX7_attache 42 = .ok (.iload_n 1, 1) := by decide +kernel
theorem dX7_attache_43 : decode cX7_attache 43 = .ok (.iload_n 2, 1) := by decide +kernel
theorem dX7_attache_44 : decode cX7_attache 44 = .ok (.iconst 0, 1) := by decide +kernel
theorem dX7_attache_45 : decode cX7_attache 45 = .ok (.iconst 0, 1) := by decide +kernel
theorem dX7_attache_46 : decode cX7_attache 46 = .ok (.invokevirtual 144, 3) := by decide +kernel
theorem dX7_attache_49 : decode cX7_attache 49 = .ok (.ireturn, 1) := by decide +kernel
theorem dX7_longOf_0 : decode cX7_longOf 0 = .ok (.iload_n 0, 1) := by decide +kernel
theorem dX7_longOf_1 : decode cX7_longOf 1 = .ok (.iconst 3, 1) := by decide +kernel
theorem dX7_longOf_2 : decode cX7_longOf 2 = .ok (.if_icmp .ne 15, 3) := by decide +kernel
theorem dX7_longOf_5 : decode cX7_longOf 5 = .ok (.iload_n 1, 1) := by decide +kernel
theorem dX7_longOf_6 : decode cX7_longOf 6 = .ok (.bipush 6, 2) := by decide +kernel
theorem dX7_longOf_8 : decode cX7_longOf 8 = .ok (.if_icmp .le 9, 3) := by decide +kernel
theorem dX7_longOf_11 : decode cX7_longOf 11 = .ok (.iload_n 1, 1) := by decide +kernel
theorem dX7_longOf_12 : decode cX7_longOf 12 = .ok (.iconst 1, 1) := by decide +kernel
theorem dX7_longOf_13 : decode cX7_longOf 13 = .ok (.isub, 1) := by decide +kernel
theorem dX7_longOf_14 : decode cX7_longOf 14 = .ok (.goto 4, 3) := by decide +kernel
theorem dX7_longOf_17 : decode cX7_longOf 17 = .ok (.iload_n 1, 1) := by decide +kernel
theorem dX7_longOf_18 : decode cX7_longOf 18 = .ok (.ireturn, 1) := by decide +kernel
theorem dX7_answers_0 : decode cX7_answers 0 = .ok (.aload_n 0, 1) := by decide +kernel
theorem dX7_answers_1 : decode cX7_answers 1 = .ok (.iload 4, 2) := by decide +kernel
theorem dX7_answers_3 : decode cX7_answers 3 = .ok (.invokevirtual 99, 3) := by decide +kernel
theorem dX7_answers_6 : decode cX7_answers 6 = .ok (.iconst 1, 1) := by decide +kernel
theorem dX7_answers_7 : decode cX7_answers 7 = .ok (.isub, 1) := by decide +kernel
theorem dX7_answers_8 : decode cX7_answers 8 = .ok (.istore 6, 2) := by decide +kernel
theorem dX7_answers_10 : decode cX7_answers 10 = .ok (.iload_n 2, 1) := by decide +kernel
theorem dX7_answers_11 : decode cX7_answers 11 = .ok (.bipush 6, 2) := by decide +kernel
theorem dX7_answers_13 : decode cX7_answers 13 = .ok (.iload_n 3, 1) := by decide +kernel
theorem dX7_answers_14 : decode cX7_answers 14 = .ok (.iload 5, 2) := by decide +kernel
theorem dX7_answers_16 : decode cX7_answers 16 = .ok (.ishr, 1) := by decide +kernel
theorem dX7_answers_17 : decode cX7_answers 17 = .ok (.iconst 1, 1) := by decide +kernel
theorem dX7_answers_18 : decode cX7_answers 18 = .ok (.iand, 1) := by decide +kernel
theorem dX7_answers_19 : decode cX7_answers 19 = .ok (.imul, 1) := by decide +kernel
theorem dX7_answers_20 : decode cX7_answers 20 = .ok (.iadd, 1) := by decide +kernel
theorem dX7_answers_21 : decode cX7_answers 21 = .ok (.istore 7, 2) := by decide +kernel
theorem dX7_answers_23 : decode cX7_answers 23 = .ok (.iload_n 1, 1) := by decide +kernel
theorem dX7_answers_24 : decode cX7_answers 24 = .ok (.tableswitch 150 1 5 #[36, 62, 81, 96, 126], 36) := by decide +kernel
theorem dX7_answers_60 : decode cX7_answers 60 = .ok (.iload 7, 2) := by decide +kernel
theorem dX7_answers_62 : decode cX7_answers 62 = .ok (.iconst 2, 1) := by decide +kernel
theorem dX7_answers_63 : decode cX7_answers 63 = .ok (.aload_n 0, 1) := by decide +kernel
theorem dX7_answers_64 : decode cX7_answers 64 = .ok (.iload 4, 2) := by decide +kernel
theorem dX7_answers_66 : decode cX7_answers 66 = .ok (.iconst 0, 1) := by decide +kernel
theorem dX7_answers_67 : decode cX7_answers 67 = .ok (.invokevirtual 102, 3) := by decide +kernel
theorem dX7_answers_70 : decode cX7_answers 70 = .ok (.imul, 1) := by decide +kernel
theorem dX7_answers_71 : decode cX7_answers 71 = .ok (.aload_n 0, 1) := by decide +kernel
theorem dX7_answers_72 : decode cX7_answers 72 = .ok (.iload 4, 2) := by decide +kernel
theorem dX7_answers_74 : decode cX7_answers 74 = .ok (.iload 5, 2) := by decide +kernel
theorem dX7_answers_76 : decode cX7_answers 76 = .ok (.invokevirtual 102, 3) := by decide +kernel
theorem dX7_answers_79 : decode cX7_answers 79 = .ok (.isub, 1) := by decide +kernel
theorem dX7_answers_80 : decode cX7_answers 80 = .ok (.iadd, 1) := by decide +kernel
theorem dX7_answers_81 : decode cX7_answers 81 = .ok (.istore 7, 2) := by decide +kernel
theorem dX7_answers_83 : decode cX7_answers 83 = .ok (.goto 104, 3) := by decide +kernel
theorem dX7_answers_86 : decode cX7_answers 86 = .ok (.iload 7, 2) := by decide +kernel
theorem dX7_answers_88 : decode cX7_answers 88 = .ok (.aload_n 0, 1) := by decide +kernel
theorem dX7_answers_89 : decode cX7_answers 89 = .ok (.iload 4, 2) := by decide +kernel
theorem dX7_answers_91 : decode cX7_answers 91 = .ok (.iload 6, 2) := by decide +kernel
theorem dX7_answers_93 : decode cX7_answers 93 = .ok (.iload 5, 2) := by decide +kernel
theorem dX7_answers_95 : decode cX7_answers 95 = .ok (.isub, 1) := by decide +kernel
theorem dX7_answers_96 : decode cX7_answers 96 = .ok (.invokevirtual 102, 3) := by decide +kernel
theorem dX7_answers_99 : decode cX7_answers 99 = .ok (.iadd, 1) := by decide +kernel
theorem dX7_answers_100 : decode cX7_answers 100 = .ok (.istore 7, 2) := by decide +kernel
theorem dX7_answers_102 : decode cX7_answers 102 = .ok (.goto 85, 3) := by decide +kernel
theorem dX7_answers_105 : decode cX7_answers 105 = .ok (.iload 7, 2) := by decide +kernel
theorem dX7_answers_107 : decode cX7_answers 107 = .ok (.aload_n 0, 1) := by decide +kernel
theorem dX7_answers_108 : decode cX7_answers 108 = .ok (.iload 4, 2) := by decide +kernel
theorem dX7_answers_110 : decode cX7_answers 110 = .ok (.iconst 0, 1) := by decide +kernel
theorem dX7_answers_111 : decode cX7_answers 111 = .ok (.invokevirtual 102, 3) := by decide +kernel
theorem dX7_answers_114 : decode cX7_answers 114 = .ok (.iadd, 1) := by decide +kernel
theorem dX7_answers_115 : decode cX7_answers 115 = .ok (.istore 7, 2) := by decide +kernel
theorem dX7_answers_117 : decode cX7_answers 117 = .ok (.goto 70, 3) := by decide +kernel
theorem dX7_answers_120 : decode cX7_answers 120 = .ok (.iload 7, 2) := by decide +kernel
theorem dX7_answers_122 : decode cX7_answers 122 = .ok (.iconst 2, 1) := by decide +kernel
theorem dX7_answers_123 : decode cX7_answers 123 = .ok (.aload_n 0, 1) := by decide +kernel
theorem dX7_answers_124 : decode cX7_answers 124 = .ok (.iload 4, 2) := by decide +kernel
theorem dX7_answers_126 : decode cX7_answers 126 = .ok (.iload 6, 2) := by decide +kernel
theorem dX7_answers_128 : decode cX7_answers 128 = .ok (.invokevirtual 102, 3) := by decide +kernel
theorem dX7_answers_131 : decode cX7_answers 131 = .ok (.imul, 1) := by decide +kernel
theorem dX7_answers_132 : decode cX7_answers 132 = .ok (.aload_n 0, 1) := by decide +kernel
theorem dX7_answers_133 : decode cX7_answers 133 = .ok (.iload 4, 2) := by decide +kernel
theorem dX7_answers_135 : decode cX7_answers 135 = .ok (.iload 6, 2) := by decide +kernel
theorem dX7_answers_137 : decode cX7_answers 137 = .ok (.iload 5, 2) := by decide +kernel
theorem dX7_answers_139 : decode cX7_answers 139 = .ok (.isub, 1) := by decide +kernel
theorem dX7_answers_140 : decode cX7_answers 140 = .ok (.invokevirtual 102, 3) := by decide +kernel
theorem dX7_answers_143 : decode cX7_answers 143 = .ok (.isub, 1) := by decide +kernel
theorem dX7_answers_144 : decode cX7_answers 144 = .ok (.iadd, 1) := by decide +kernel
theorem dX7_answers_145 : decode cX7_answers 145 = .ok (.istore 7, 2) := by decide +kernel
theorem dX7_answers_147 : decode cX7_answers 147 = .ok (.goto 40, 3) := by decide +kernel
theorem dX7_answers_150 : decode cX7_answers 150 = .ok (.iload 7, 2) := by decide +kernel
theorem dX7_answers_152 : decode cX7_answers 152 = .ok (.aload_n 0, 1) := by decide +kernel
theorem dX7_answers_153 : decode cX7_answers 153 = .ok (.iload 4, 2) := by decide +kernel
theorem dX7_answers_155 : decode cX7_answers 155 = .ok (.iload 6, 2) := by decide +kernel
theorem dX7_answers_157 : decode cX7_answers 157 = .ok (.iload 5, 2) := by decide +kernel
theorem dX7_answers_159 : decode cX7_answers 159 = .ok (.isub, 1) := by decide +kernel
theorem dX7_answers_160 : decode cX7_answers 160 = .ok (.invokevirtual 102, 3) := by decide +kernel
theorem dX7_answers_163 : decode cX7_answers 163 = .ok (.iload 5, 2) := by decide +kernel
theorem dX7_answers_165 : decode cX7_answers 165 = .ok (.iconst 2, 1) := by decide +kernel
theorem dX7_answers_166 : decode cX7_answers 166 = .ok (.irem, 1) := by decide +kernel
theorem dX7_answers_167 : decode cX7_answers 167 = .ok (.iadd, 1) := by decide +kernel
theorem dX7_answers_168 : decode cX7_answers 168 = .ok (.iadd, 1) := by decide +kernel
theorem dX7_answers_169 : decode cX7_answers 169 = .ok (.istore 7, 2) := by decide +kernel
theorem dX7_answers_171 : decode cX7_answers 171 = .ok (.goto 16, 3) := by decide +kernel
theorem dX7_answers_174 : decode cX7_answers 174 = .ok (.iload 7, 2) := by decide +kernel
theorem dX7_answers_176 : decode cX7_answers 176 = .ok (.aload_n 0, 1) := by decide +kernel
theorem dX7_answers_177 : decode cX7_answers 177 = .ok (.iload 4, 2) := by decide +kernel
theorem dX7_answers_179 : decode cX7_answers 179 = .ok (.iload 5, 2) := by decide +kernel
theorem dX7_answers_181 : decode cX7_answers 181 = .ok (.invokevirtual 102, 3) := by decide +kernel
theorem dX7_answers_184 : decode cX7_answers 184 = .ok (.iadd, 1) := by decide +kernel
theorem dX7_answers_185 : decode cX7_answers 185 = .ok (.istore 7, 2) := by decide +kernel
theorem dX7_answers_187 : decode cX7_answers 187 = .ok (.iload 7, 2) := by decide +kernel
theorem dX7_answers_189 : decode cX7_answers 189 = .ok (.bipush 12, 2) := by decide +kernel
theorem dX7_answers_191 : decode cX7_answers 191 = .ok (.iadd, 1) := by decide +kernel
theorem dX7_answers_192 : decode cX7_answers 192 = .ok (.bipush 12, 2) := by decide +kernel
theorem dX7_answers_194 : decode cX7_answers 194 = .ok (.irem, 1) := by decide +kernel
theorem dX7_answers_195 : decode cX7_answers 195 = .ok (.ireturn, 1) := by decide +kernel
theorem dX7_answerAt_0 : decode cX7_answerAt 0 = .ok (.aload_n 0, 1) := by decide +kernel
theorem dX7_answerAt_1 : decode cX7_answerAt 1 = .ok (.aload_n 0, 1) := by decide +kernel
theorem dX7_answerAt_2 : decode cX7_answerAt 2 = .ok (.iload_n 1, 1) := by decide +kernel
theorem dX7_answerAt_3 : decode cX7_answerAt 3 = .ok (.iconst 0, 1) := by decide +kernel
theorem dX7_answerAt_4 : decode cX7_answerAt 4 = .ok (.invokevirtual 120, 3) := by decide +kernel
theorem dX7_answerAt_7 : decode cX7_answerAt 7 = .ok (.aload_n 0, 1) := by decide +kernel
theorem dX7_answerAt_8 : decode cX7_answerAt 8 = .ok (.iload_n 1, 1) := by decide +kernel
theorem dX7_answerAt_9 : decode cX7_answerAt 9 = .ok (.iconst 2, 1) := by decide +kernel
theorem dX7_answerAt_10 : decode cX7_answerAt 10 = .ok (.invokevirtual 120, 3) := by decide +kernel
theorem dX7_answerAt_13 : decode cX7_answerAt 13 = .ok (.aload_n 0, 1) := by decide +kernel
theorem dX7_answerAt_14 : decode cX7_answerAt 14 = .ok (.iload_n 1, 1) := by decide +kernel
theorem dX7_answerAt_15 : decode cX7_answerAt 15 = .ok (.iconst 3, 1) := by decide +kernel
theorem dX7_answerAt_16 : decode cX7_answerAt 16 = .ok (.invokevirtual 120, 3) := by decide +kernel
theorem dX7_answerAt_19 : decode cX7_answerAt 19 = .ok (.iconst 1, 1) := by decide +kernel
theorem dX7_answerAt_20 : decode cX7_answerAt 20 = .ok (.aload_n 0, 1) := by decide +kernel
theorem dX7_answerAt_21 : decode cX7_answerAt 21 = .ok (.iload_n 1, 1) := by decide +kernel
theorem dX7_answerAt_22 : decode cX7_answerAt 22 = .ok (.iconst 1, 1) := by decide +kernel
theorem dX7_answerAt_23 : decode cX7_answerAt 23 = .ok (.invokevirtual 120, 3) := by decide +kernel
theorem dX7_answerAt_26 : decode cX7_answerAt 26 = .ok (.isub, 1) := by decide +kernel
theorem dX7_answerAt_27 : decode cX7_answerAt 27 = .ok (.iload_n 2, 1) := by decide +kernel
theorem dX7_answerAt_28 : decode cX7_answerAt 28 = .ok (.invokevirtual 148, 3) := by decide +kernel
theorem dX7_answerAt_31 : decode cX7_answerAt 31 = .ok (.ireturn, 1) := by decide +kernel
theorem dX7_longNow_0 : decode cX7_longNow 0 = .ok (.aload_n 0, 1) := by decide +kernel
theorem dX7_longNow_1 : decode cX7_longNow 1 = .ok (.iload_n 1, 1) := by decide +kernel
theorem dX7_longNow_2 : decode cX7_longNow 2 = .ok (.iconst 0, 1) := by decide +kernel
theorem dX7_longNow_3 : decode cX7_longNow 3 = .ok (.invokevirtual 120, 3) := by decide +kernel
theorem dX7_longNow_6 : decode cX7_longNow 6 = .ok (.aload_n 0, 1) := by decide +kernel
theorem dX7_longNow_7 : decode cX7_longNow 7 = .ok (.iconst 1, 1) := by decide +kernel
theorem dX7_longNow_8 : decode cX7_longNow 8 = .ok (.aload_n 0, 1) := by decide +kernel
theorem dX7_longNow_9 : decode cX7_longNow 9 = .ok (.iload_n 1, 1) := by decide +kernel
theorem dX7_longNow_10 : decode cX7_longNow 10 = .ok (.iconst 1, 1) := by decide +kernel
theorem dX7_longNow_11 : decode cX7_longNow 11 = .ok (.invokevirtual 120, 3) := by decide +kernel
theorem dX7_longNow_14 : decode cX7_longNow 14 = .ok (.isub, 1) := by decide +kernel
theorem dX7_longNow_15 : decode cX7_longNow 15 = .ok (.invokevirtual 99, 3) := by decide +kernel
theorem dX7_longNow_18 : decode cX7_longNow 18 = .ok (.invokestatic 152, 3) := by decide +kernel
theorem dX7_longNow_21 : decode cX7_longNow 21 = .ok (.ireturn, 1) := by decide +kernel
theorem dX7_of_0 : decode cX7_of 0 = .ok (.aload_n 0, 1) := by decide +kernel
theorem dX7_of_1 : decode cX7_of 1 = .ok (.iload_n 1, 1) := by decide +kernel
theorem dX7_of_2 : decode cX7_of 2 = .ok (.invokevirtual 155, 3) := by decide +kernel
theorem dX7_of_5 : decode cX7_of 5 = .ok (.ifCond .eq 12, 3) := by decide +kernel
theorem dX7_of_8 : decode cX7_of 8 = .ok (.iload_n 2, 1) := by decide +kernel
theorem dX7_of_9 : decode cX7_of 9 = .ok (.iconst 0, 1) := by decide +kernel
theorem dX7_of_10 : decode cX7_of 10 = .ok (.iconst 5, 1) := by decide +kernel
theorem dX7_of_11 : decode cX7_of 11 = .ok (.invokestatic 81, 3) := by decide +kernel
theorem dX7_of_14 : decode cX7_of 14 = .ok (.ifCond .ne 10, 3) := by decide +kernel
theorem dX7_of_17 : decode cX7_of 17 = .ok (.aload_n 0, 1) := by decide +kernel
theorem dX7_of_18 : decode cX7_of 18 = .ok (.ldc 71, 2) := by decide +kernel
theorem dX7_of_20 : decode cX7_of 20 = .ok (.invokevirtual 77, 3) := by decide +kernel
theorem dX7_of_23 : decode cX7_of 23 = .ok (.ireturn, 1) := by decide +kernel
theorem dX7_of_24 : decode cX7_of 24 = .ok (.iload_n 2, 1) := by decide +kernel
theorem dX7_of_25 : decode cX7_of 25 = .ok (.iconst 5, 1) := by decide +kernel
theorem dX7_of_26 : decode cX7_of 26 = .ok (.if_icmp .ge 12, 3) := by decide +kernel
theorem dX7_of_29 : decode cX7_of 29 = .ok (.aload_n 0, 1) := by decide +kernel
theorem dX7_of_30 : decode cX7_of 30 = .ok (.iload_n 1, 1) := by decide +kernel
theorem dX7_of_31 : decode cX7_of 31 = .ok (.iload_n 2, 1) := by decide +kernel
theorem dX7_of_32 : decode cX7_of 32 = .ok (.invokevirtual 120, 3) := by decide +kernel
theorem dX7_of_35 : decode cX7_of 35 = .ok (.goto 8, 3) := by decide +kernel
theorem dX7_of_38 : decode cX7_of 38 = .ok (.aload_n 0, 1) := by decide +kernel
theorem dX7_of_39 : decode cX7_of 39 = .ok (.iload_n 1, 1) := by decide +kernel
theorem dX7_of_40 : decode cX7_of 40 = .ok (.invokevirtual 158, 3) := by decide +kernel
theorem dX7_of_43 : decode cX7_of 43 = .ok (.ireturn, 1) := by decide +kernel
theorem dX7_answer_0 : decode cX7_answer 0 = .ok (.aload_n 0, 1) := by decide +kernel
theorem dX7_answer_1 : decode cX7_answer 1 = .ok (.iload_n 1, 1) := by decide +kernel
theorem dX7_answer_2 : decode cX7_answer 2 = .ok (.invokevirtual 155, 3) := by decide +kernel
theorem dX7_answer_5 : decode cX7_answer 5 = .ok (.ifCond .eq 7, 3) := by decide +kernel
theorem dX7_answer_8 : decode cX7_answer 8 = .ok (.iload_n 2, 1) := by decide +kernel
theorem dX7_answer_9 : decode cX7_answer 9 = .ok (.ifCond .ge 10, 3) := by decide +kernel
theorem dX7_answer_12 : decode cX7_answer 12 = .ok (.aload_n 0, 1) := by decide +kernel
theorem dX7_answer_13 : decode cX7_answer 13 = .ok (.ldc 71, 2) := by decide +kernel
theorem dX7_answer_15 : decode cX7_answer 15 = .ok (.invokevirtual 77, 3) := by decide +kernel
theorem dX7_answer_18 : decode cX7_answer 18 = .ok (.ireturn, 1) := by decide +kernel
theorem dX7_answer_19 : decode cX7_answer 19 = .ok (.iload_n 2, 1) := by decide +kernel
theorem dX7_answer_20 : decode cX7_answer 20 = .ok (.aload_n 0, 1) := by decide +kernel
theorem dX7_answer_21 : decode cX7_answer 21 = .ok (.iload_n 1, 1) := by decide +kernel
theorem dX7_answer_22 : decode cX7_answer 22 = .ok (.invokevirtual 158, 3) := by decide +kernel
theorem dX7_answer_25 : decode cX7_answer 25 = .ok (.if_icmp .ge 12, 3) := by decide +kernel
theorem dX7_answer_28 : decode cX7_answer 28 = .ok (.aload_n 0, 1) := by decide +kernel
theorem dX7_answer_29 : decode cX7_answer 29 = .ok (.iload_n 1, 1) := by decide +kernel
theorem dX7_answer_30 : decode cX7_answer 30 = .ok (.iload_n 2, 1) := by decide +kernel
theorem dX7_answer_31 : decode cX7_answer 31 = .ok (.invokevirtual 161, 3) := by decide +kernel
theorem dX7_answer_34 : decode cX7_answer 34 = .ok (.goto 9, 3) := by decide +kernel
theorem dX7_answer_37 : decode cX7_answer 37 = .ok (.aload_n 0, 1) := by decide +kernel
theorem dX7_answer_38 : decode cX7_answer 38 = .ok (.ldc 76, 2) := by decide +kernel
theorem dX7_answer_40 : decode cX7_answer 40 = .ok (.invokevirtual 77, 3) := by decide +kernel
theorem dX7_answer_43 : decode cX7_answer 43 = .ok (.ireturn, 1) := by decide +kernel
theorem dX7_set_0 : decode cX7_set 0 = .ok (.iload_n 2, 1) := by decide +kernel
theorem dX7_set_1 : decode cX7_set 1 = .ok (.iconst 1, 1) := by decide +kernel
theorem dX7_set_2 : decode cX7_set 2 = .ok (.if_icmp .ne 7, 3) := by decide +kernel
theorem dX7_set_5 : decode cX7_set 5 = .ok (.iconst 1, 1) := by decide +kernel
theorem dX7_set_6 : decode cX7_set 6 = .ok (.goto 36, 3) := by decide +kernel
theorem dX7_set_9 : decode cX7_set 9 = .ok (.iload_n 2, 1) := by decide +kernel
theorem dX7_set_10 : decode cX7_set 10 = .ok (.iconst 2, 1) := by decide +kernel
theorem dX7_set_11 : decode cX7_set 11 = .ok (.if_icmp .ne 8, 3) := by decide +kernel
theorem dX7_set_14 : decode cX7_set 14 = .ok (.bipush 11, 2) := by decide +kernel
theorem dX7_set_16 : decode cX7_set 16 = .ok (.goto 26, 3) := by decide +kernel
theorem dX7_set_19 : decode cX7_set 19 = .ok (.iload_n 2, 1) := by decide +kernel
theorem dX7_set_20 : decode cX7_set 20 = .ok (.iconst 3, 1) := by decide +kernel
theorem dX7_set_21 : decode cX7_set 21 = .ok (.if_icmp .ne 9, 3) := by decide +kernel
theorem dX7_set_24 : decode cX7_set 24 = .ok (.sipush 4095, 3) := by decide +kernel
theorem dX7_set_27 : decode cX7_set 27 = .ok (.goto 15, 3) := by decide +kernel
theorem dX7_set_30 : decode cX7_set 30 = .ok (.iload_n 2, 1) := by decide +kernel
theorem dX7_set_31 : decode cX7_set 31 = .ok (.iconst 4, 1) := by decide +kernel
theorem dX7_set_32 : decode cX7_set 32 = .ok (.if_icmp .ne 9, 3) := by decide +kernel
theorem dX7_set_35 : decode cX7_set 35 = .ok (.sipush 9999, 3) := by decide +kernel
theorem dX7_set_38 : decode cX7_set 38 = .ok (.goto 4, 3) := by decide +kernel
theorem dX7_set_41 : decode cX7_set 41 = .ok (.iconst (-1), 1) := by decide +kernel
theorem dX7_set_42 : decode cX7_set 42 = .ok (.istore 4, 2) := by decide +kernel
theorem dX7_set_44 : decode cX7_set 44 = .ok (.aload_n 0, 1) := by decide +kernel
theorem dX7_set_45 : decode cX7_set 45 = .ok (.iload_n 1, 1) := by decide +kernel
theorem dX7_set_46 : decode cX7_set 46 = .ok (.invokevirtual 155, 3) := by decide +kernel
theorem dX7_set_49 : decode cX7_set 49 = .ok (.ifCond .eq 26, 3) := by decide +kernel
theorem dX7_set_52 : decode cX7_set 52 = .ok (.iload_n 3, 1) := by decide +kernel
theorem dX7_set_53 : decode cX7_set 53 = .ok (.iconst 0, 1) := by decide +kernel
theorem dX7_set_54 : decode cX7_set 54 = .ok (.iload 4, 2) := by decide +kernel
theorem dX7_set_56 : decode cX7_set 56 = .ok (.invokestatic 81, 3) := by decide +kernel
theorem dX7_set_59 : decode cX7_set 59 = .ok (.ifCond .eq 16, 3) := by decide +kernel
theorem dX7_set_62 : decode cX7_set 62 = .ok (.aload_n 0, 1) := by decide +kernel
theorem dX7_set_63 : decode cX7_set 63 = .ok (.iload_n 1, 1) := by decide +kernel
theorem dX7_set_64 : decode cX7_set 64 = .ok (.iload_n 2, 1) := by decide +kernel
theorem dX7_set_65 : decode cX7_set 65 = .ok (.invokestatic 135, 3) := by decide +kernel
theorem dX7_set_68 : decode cX7_set 68 = .ok (.iload_n 3, 1) := by decide +kernel
theorem dX7_set_69 : decode cX7_set 69 = .ok (.invokevirtual 87, 3) := by decide +kernel
theorem dX7_set_72 : decode cX7_set 72 = .ok (.goto 9, 3) := by decide +kernel
theorem dX7_set_75 : decode cX7_set 75 = .ok (.aload_n 0, 1) := by decide +kernel
theorem dX7_set_76 : decode cX7_set 76 = .ok (.ldc 71, 2) := by decide +kernel
theorem dX7_set_78 : decode cX7_set 78 = .ok (.invokevirtual 77, 3) := by decide +kernel
theorem dX7_set_81 : decode cX7_set 81 = .ok (.ireturn, 1) := by decide +kernel
theorem dX7_turn_0 : decode cX7_turn 0 = .ok (.aload_n 0, 1) := by decide +kernel
theorem dX7_turn_1 : decode cX7_turn 1 = .ok (.iload_n 1, 1) := by decide +kernel
theorem dX7_turn_2 : decode cX7_turn 2 = .ok (.invokevirtual 155, 3) := by decide +kernel
theorem dX7_turn_5 : decode cX7_turn 5 = .ok (.ifCond .eq 23, 3) := by decide +kernel
theorem dX7_turn_8 : decode cX7_turn 8 = .ok (.iload_n 2, 1) := by decide +kernel
theorem dX7_turn_9 : decode cX7_turn 9 = .ok (.invokestatic 140, 3) := by decide +kernel
theorem dX7_turn_12 : decode cX7_turn 12 = .ok (.ifCond .eq 16, 3) := by decide +kernel
theorem dX7_turn_15 : decode cX7_turn 15 = .ok (.aload_n 0, 1) := by decide +kernel
theorem dX7_turn_16 : decode cX7_turn 16 = .ok (.iload_n 1, 1) := by decide +kernel
theorem dX7_turn_17 : decode cX7_turn 17 = .ok (.iconst 0, 1) := by decide +kernel
theorem dX7_turn_18 : decode cX7_turn 18 = .ok (.invokestatic 135, 3) := by decide +kernel
theorem dX7_turn_21 : decode cX7_turn 21 = .ok (.iload_n 2, 1) := by decide +kernel
theorem dX7_turn_22 : decode cX7_turn 22 = .ok (.invokevirtual 87, 3) := by decide +kernel
theorem dX7_turn_25 : decode cX7_turn 25 = .ok (.goto 9, 3) := by decide +kernel
theorem dX7_turn_28 : decode cX7_turn 28 = .ok (.aload_n 0, 1) := by decide +kernel
theorem dX7_turn_29 : decode cX7_turn 29 = .ok (.ldc 71, 2) := by decide +kernel
theorem dX7_turn_31 : decode cX7_turn 31 = .ok (.invokevirtual 77, 3) := by decide +kernel
theorem dX7_turn_34 : decode cX7_turn 34 = .ok (.ireturn, 1) := by decide +kernel
theorem dX7_as_0 : decode cX7_as 0 = .ok (.aload_n 0, 1) := by decide +kernel
theorem dX7_as_1 : decode cX7_as 1 = .ok (.iload_n 1, 1) := by decide +kernel
theorem dX7_as_2 : decode cX7_as 2 = .ok (.invokevirtual 155, 3) := by decide +kernel
theorem dX7_as_5 : decode cX7_as 5 = .ok (.ifCond .eq 10, 3) := by decide +kernel
theorem dX7_as_8 : decode cX7_as 8 = .ok (.iload_n 2, 1) := by decide +kernel
theorem dX7_as_9 : decode cX7_as 9 = .ok (.invokestatic 140, 3) := by decide +kernel
theorem dX7_as_12 : decode cX7_as 12 = .ok (.ifCond .ne 10, 3) := by decide +kernel
theorem dX7_as_15 : decode cX7_as 15 = .ok (.aload_n 0, 1) := by decide +kernel
theorem dX7_as_16 : decode cX7_as 16 = .ok (.ldc 71, 2) := by decide +kernel
theorem dX7_as_18 : decode cX7_as 18 = .ok (.invokevirtual 77, 3) := by decide +kernel
theorem dX7_as_21 : decode cX7_as 21 = .ok (.ireturn, 1) := by decide +kernel
theorem dX7_as_22 : decode cX7_as 22 = .ok (.aload_n 0, 1) := by decide +kernel
theorem dX7_as_23 : decode cX7_as 23 = .ok (.iload_n 1, 1) := by decide +kernel
theorem dX7_as_24 : decode cX7_as 24 = .ok (.iconst 0, 1) := by decide +kernel
theorem dX7_as_25 : decode cX7_as 25 = .ok (.invokevirtual 120, 3) := by decide +kernel
theorem dX7_as_28 : decode cX7_as 28 = .ok (.istore_n 3, 1) := by decide +kernel
theorem dX7_as_29 : decode cX7_as 29 = .ok (.iload_n 2, 1) := by decide +kernel
theorem dX7_as_30 : decode cX7_as 30 = .ok (.ifCond .eq 28, 3) := by decide +kernel
theorem dX7_as_33 : decode cX7_as 33 = .ok (.iload_n 2, 1) := by decide +kernel
theorem dX7_as_34 : decode cX7_as 34 = .ok (.iload_n 3, 1) := by decide +kernel
theorem dX7_as_35 : decode cX7_as 35 = .ok (.if_icmp .eq 23, 3) := by decide +kernel
theorem dX7_as_38 : decode cX7_as 38 = .ok (.iload_n 2, 1) := by decide +kernel
theorem dX7_as_39 : decode cX7_as 39 = .ok (.iconst 1, 1) := by decide +kernel
theorem dX7_as_40 : decode cX7_as 40 = .ok (.if_icmp .ne 8, 3) := by decide +kernel
theorem dX7_as_43 : decode cX7_as 43 = .ok (.iload_n 3, 1) := by decide +kernel
theorem dX7_as_44 : decode cX7_as 44 = .ok (.iconst 4, 1) := by decide +kernel
theorem dX7_as_45 : decode cX7_as 45 = .ok (.if_icmp .eq 13, 3) := by decide +kernel
theorem dX7_as_48 : decode cX7_as 48 = .ok (.iload_n 2, 1) := by decide +kernel
theorem dX7_as_49 : decode cX7_as 49 = .ok (.iconst 2, 1) := by decide +kernel
theorem dX7_as_50 : decode cX7_as 50 = .ok (.if_icmp .ne 12, 3) := by decide +kernel
theorem dX7_as_53 : decode cX7_as 53 = .ok (.iload_n 3, 1) := by decide +kernel
theorem dX7_as_54 : decode cX7_as 54 = .ok (.iconst 5, 1) := by decide +kernel
theorem dX7_as_55 : decode cX7_as 55 = .ok (.if_icmp .ne 7, 3) := by decide +kernel
theorem dX7_as_58 : decode cX7_as 58 = .ok (.iconst 1, 1) := by decide +kernel
theorem dX7_as_59 : decode cX7_as 59 = .ok (.goto 4, 3) := by decide +kernel
theorem dX7_as_62 : decode cX7_as 62 = .ok (.iconst 0, 1) := by decide +kernel
theorem dX7_as_63 : decode cX7_as 63 = .ok (.istore 4, 2) := by decide +kernel
theorem dX7_as_65 : decode cX7_as 65 = .ok (.iload 4, 2) := by decide +kernel
theorem dX7_as_67 : decode cX7_as 67 = .ok (.ifCond .eq 12, 3) := by decide +kernel
theorem dX7_as_70 : decode cX7_as 70 = .ok (.aload_n 0, 1) := by decide +kernel
theorem dX7_as_71 : decode cX7_as 71 = .ok (.iload_n 1, 1) := by decide +kernel
theorem dX7_as_72 : decode cX7_as 72 = .ok (.iconst 2, 1) := by decide +kernel
theorem dX7_as_73 : decode cX7_as 73 = .ok (.invokevirtual 120, 3) := by decide +kernel
theorem dX7_as_76 : decode cX7_as 76 = .ok (.goto 9, 3) := by decide +kernel
theorem dX7_as_79 : decode cX7_as 79 = .ok (.aload_n 0, 1) := by decide +kernel
theorem dX7_as_80 : decode cX7_as 80 = .ok (.ldc 164, 2) := by decide +kernel
theorem dX7_as_82 : decode cX7_as 82 = .ok (.invokevirtual 77, 3) := by decide +kernel
theorem dX7_as_85 : decode cX7_as 85 = .ok (.ireturn, 1) := by decide +kernel
theorem dX7_whose_0 : decode cX7_whose 0 = .ok (.aload_n 0, 1) := by decide +kernel
theorem dX7_whose_1 : decode cX7_whose 1 = .ok (.getfield 9, 3) := by decide +kernel
theorem dX7_whose_4 : decode cX7_whose 4 = .ok (.iconst 0, 1) := by decide +kernel
theorem dX7_whose_5 : decode cX7_whose 5 = .ok (.iaload, 1) := by decide +kernel
theorem dX7_whose_6 : decode cX7_whose 6 = .ok (.iconst 2, 1) := by decide +kernel
theorem dX7_whose_7 : decode cX7_whose 7 = .ok (.irem, 1) := by decide +kernel
theorem dX7_whose_8 : decode cX7_whose 8 = .ok (.istore_n 1, 1) := by decide +kernel
theorem dX7_whose_9 : decode cX7_whose 9 = .ok (.aload_n 0, 1) := by decide +kernel
theorem dX7_whose_10 : decode cX7_whose 10 = .ok (.iload_n 1, 1) := by decide +kernel
theorem dX7_whose_11 : decode cX7_whose 11 = .ok (.invokevirtual 132, 3) := by decide +kernel
theorem dX7_whose_14 : decode cX7_whose 14 = .ok (.istore_n 2, 1) := by decide +kernel
theorem dX7_whose_15 : decode cX7_whose 15 = .ok (.iload_n 2, 1) := by decide +kernel
theorem dX7_whose_16 : decode cX7_whose 16 = .ok (.ifCond .ne 7, 3) := by decide +kernel
theorem dX7_whose_19 : decode cX7_whose 19 = .ok (.iconst (-1), 1) := by decide +kernel
theorem dX7_whose_20 : decode cX7_whose 20 = .ok (.goto 13, 3) := by decide +kernel
theorem dX7_whose_23 : decode cX7_whose 23 = .ok (.aload_n 0, 1) := by decide +kernel
theorem dX7_whose_24 : decode cX7_whose 24 = .ok (.getfield 9, 3) := by decide +kernel
theorem dX7_whose_27 : decode cX7_whose 27 = .ok (.iconst 0, 1) := by decide +kernel
theorem dX7_whose_28 : decode cX7_whose 28 = .ok (.iaload, 1) := by decide +kernel
theorem dX7_whose_29 : decode cX7_whose 29 = .ok (.iconst 2, 1) := by decide +kernel
theorem dX7_whose_30 : decode cX7_whose 30 = .ok (.idiv, 1) := by decide +kernel
theorem dX7_whose_31 : decode cX7_whose 31 = .ok (.iload_n 2, 1) := by decide +kernel
theorem dX7_whose_32 : decode cX7_whose 32 = .ok (.irem, 1) := by decide +kernel
theorem dX7_whose_33 : decode cX7_whose 33 = .ok (.istore_n 3, 1) := by decide +kernel
theorem dX7_whose_34 : decode cX7_whose 34 = .ok (.iconst 0, 1) := by decide +kernel
theorem dX7_whose_35 : decode cX7_whose 35 = .ok (.istore 4, 2) := by decide +kernel
theorem dX7_whose_37 : decode cX7_whose 37 = .ok (.iload 4, 2) := by decide +kernel
theorem dX7_whose_39 : decode cX7_whose 39 = .ok (.aload_n 0, 1) := by decide +kernel
theorem dX7_whose_40 : decode cX7_whose 40 = .ok (.getfield 9, 3) := by decide +kernel
theorem dX7_whose_43 : decode cX7_whose 43 = .ok (.iconst 1, 1) := by decide +kernel
theorem dX7_whose_44 : decode cX7_whose 44 = .ok (.iaload, 1) := by decide +kernel
theorem dX7_whose_45 : decode cX7_whose 45 = .ok (.if_icmp .ge 34, 3) := by decide +kernel
theorem dX7_whose_48 : decode cX7_whose 48 = .ok (.iload_n 2, 1) := by decide +kernel
theorem dX7_whose_49 : decode cX7_whose 49 = .ok (.ifCond .le 30, 3) := by decide +kernel
theorem dX7_whose_52 : decode cX7_whose 52 = .ok (.aload_n 0, 1) := by decide +kernel
theorem dX7_whose_53 : decode cX7_whose 53 = .ok (.iload 4, 2) := by decide +kernel
theorem dX7_whose_55 : decode cX7_whose 55 = .ok (.iconst 1, 1) := by decide +kernel
theorem dX7_whose_56 : decode cX7_whose 56 = .ok (.invokevirtual 120, 3) := by decide +kernel
theorem dX7_whose_59 : decode cX7_whose 59 = .ok (.iload_n 1, 1) := by decide +kernel
theorem dX7_whose_60 : decode cX7_whose 60 = .ok (.if_icmp .ne 13, 3) := by decide +kernel
theorem dX7_whose_63 : decode cX7_whose 63 = .ok (.iload_n 3, 1) := by decide +kernel
theorem dX7_whose_64 : decode cX7_whose 64 = .ok (.ifCond .ne 6, 3) := by decide +kernel
theorem dX7_whose_67 : decode cX7_whose 67 = .ok (.iload 4, 2) := by decide +kernel
theorem dX7_whose_69 : decode cX7_whose 69 = .ok (.ireturn, 1) := by decide +kernel
theorem dX7_whose_70 : decode cX7_whose 70 = .ok (.iinc 3 (-1), 3) := by decide +kernel
theorem dX7_whose_73 : decode cX7_whose 73 = .ok (.iinc 4 1, 3) := by decide +kernel
theorem dX7_whose_76 : decode cX7_whose 76 = .ok (.goto (-39), 3) := by decide +kernel
theorem dX7_whose_79 : decode cX7_whose 79 = .ok (.iconst (-1), 1) := by decide +kernel
theorem dX7_whose_80 : decode cX7_whose 80 = .ok (.ireturn, 1) := by decide +kernel
theorem dX7_writes_0 : decode cX7_writes 0 = .ok (.aload_n 0, 1) := by decide +kernel
theorem dX7_writes_1 : decode cX7_writes 1 = .ok (.iload_n 1, 1) := by decide +kernel
theorem dX7_writes_2 : decode cX7_writes 2 = .ok (.invokevirtual 158, 3) := by decide +kernel
theorem dX7_writes_5 : decode cX7_writes 5 = .ok (.istore_n 2, 1) := by decide +kernel
theorem dX7_writes_6 : decode cX7_writes 6 = .ok (.aload_n 0, 1) := by decide +kernel
theorem dX7_writes_7 : decode cX7_writes 7 = .ok (.iload_n 1, 1) := by decide +kernel
theorem dX7_writes_8 : decode cX7_writes 8 = .ok (.iconst 1, 1) := by decide +kernel
theorem dX7_writes_9 : decode cX7_writes 9 = .ok (.invokevirtual 120, 3) := by decide +kernel
theorem dX7_writes_12 : decode cX7_writes 12 = .ok (.istore_n 3, 1) := by decide +kernel
theorem dX7_writes_13 : decode cX7_writes 13 = .ok (.iconst 0, 1) := by decide +kernel
theorem dX7_writes_14 : decode cX7_writes 14 = .ok (.istore 4, 2) := by decide +kernel
theorem dX7_writes_16 : decode cX7_writes 16 = .ok (.iload 4, 2) := by decide +kernel
theorem dX7_writes_18 : decode cX7_writes 18 = .ok (.iload_n 2, 1) := by decide +kernel
theorem dX7_writes_19 : decode cX7_writes 19 = .ok (.if_icmp .ge 23, 3) := by decide +kernel
theorem dX7_writes_22 : decode cX7_writes 22 = .ok (.aload_n 0, 1) := by decide +kernel
theorem dX7_writes_23 : decode cX7_writes 23 = .ok (.getfield 22, 3) := by decide +kernel
theorem dX7_writes_26 : decode cX7_writes 26 = .ok (.iload 4, 2) := by decide +kernel
theorem dX7_writes_28 : decode cX7_writes 28 = .ok (.aload_n 0, 1) := by decide +kernel
theorem dX7_writes_29 : decode cX7_writes 29 = .ok (.iload_n 1, 1) := by decide +kernel
theorem dX7_writes_30 : decode cX7_writes 30 = .ok (.iload 4, 2) := by decide +kernel
theorem dX7_writes_32 : decode cX7_writes 32 = .ok (.invokevirtual 161, 3) := by decide +kernel
theorem dX7_writes_35 : decode cX7_writes 35 = .ok (.iastore, 1) := by decide +kernel
theorem dX7_writes_36 : decode cX7_writes 36 = .ok (.iinc 4 1, 3) := by decide +kernel
theorem dX7_writes_39 : decode cX7_writes 39 = .ok (.goto (-23), 3) := by decide +kernel
theorem dX7_writes_42 : decode cX7_writes 42 = .ok (.iconst 0, 1) := by decide +kernel
theorem dX7_writes_43 : decode cX7_writes 43 = .ok (.istore 4, 2) := by decide +kernel
theorem dX7_writes_45 : decode cX7_writes 45 = .ok (.iload 4, 2) := by decide +kernel
theorem dX7_writes_47 : decode cX7_writes 47 = .ok (.iload_n 2, 1) := by decide +kernel
theorem dX7_writes_48 : decode cX7_writes 48 = .ok (.if_icmp .ge 30, 3) := by decide +kernel
theorem dX7_writes_51 : decode cX7_writes 51 = .ok (.aload_n 0, 1) := by decide +kernel
theorem dX7_writes_52 : decode cX7_writes 52 = .ok (.getfield 9, 3) := by decide +kernel
theorem dX7_writes_55 : decode cX7_writes 55 = .ok (.iconst 4, 1) := by decide +kernel
theorem dX7_writes_56 : decode cX7_writes 56 = .ok (.bipush 12, 2) := by decide +kernel
theorem dX7_writes_58 : decode cX7_writes 58 = .ok (.iload_n 3, 1) := by decide +kernel
theorem dX7_writes_59 : decode cX7_writes 59 = .ok (.imul, 1) := by decide +kernel
theorem dX7_writes_60 : decode cX7_writes 60 = .ok (.iadd, 1) := by decide +kernel
theorem dX7_writes_61 : decode cX7_writes 61 = .ok (.iload 4, 2) := by decide +kernel
theorem dX7_writes_63 : decode cX7_writes 63 = .ok (.iadd, 1) := by decide +kernel
theorem dX7_writes_64 : decode cX7_writes 64 = .ok (.aload_n 0, 1) := by decide +kernel
theorem dX7_writes_65 : decode cX7_writes 65 = .ok (.getfield 22, 3) := by decide +kernel
theorem dX7_writes_68 : decode cX7_writes 68 = .ok (.iload 4, 2) := by decide +kernel
theorem dX7_writes_70 : decode cX7_writes 70 = .ok (.iaload, 1) := by decide +kernel
theorem dX7_writes_71 : decode cX7_writes 71 = .ok (.iastore, 1) := by decide +kernel
theorem dX7_writes_72 : decode cX7_writes 72 = .ok (.iinc 4 1, 3) := by decide +kernel
theorem dX7_writes_75 : decode cX7_writes 75 = .ok (.goto (-30), 3) := by decide +kernel
theorem dX7_writes_78 : decode cX7_writes 78 = .ok (.aload_n 0, 1) := by decide +kernel
theorem dX7_writes_79 : decode cX7_writes 79 = .ok (.getfield 9, 3) := by decide +kernel
theorem dX7_writes_82 : decode cX7_writes 82 = .ok (.iconst 2, 1) := by decide +kernel
theorem dX7_writes_83 : decode cX7_writes 83 = .ok (.iload_n 3, 1) := by decide +kernel
theorem dX7_writes_84 : decode cX7_writes 84 = .ok (.iadd, 1) := by decide +kernel
theorem dX7_writes_85 : decode cX7_writes 85 = .ok (.iload_n 2, 1) := by decide +kernel
theorem dX7_writes_86 : decode cX7_writes 86 = .ok (.iastore, 1) := by decide +kernel
theorem dX7_writes_87 : decode cX7_writes 87 = .ok (.aload_n 0, 1) := by decide +kernel
theorem dX7_writes_88 : decode cX7_writes 88 = .ok (.getfield 9, 3) := by decide +kernel
theorem dX7_writes_91 : decode cX7_writes 91 = .ok (.iload_n 1, 1) := by decide +kernel
theorem dX7_writes_92 : decode cX7_writes 92 = .ok (.iconst 4, 1) := by decide +kernel
theorem dX7_writes_93 : decode cX7_writes 93 = .ok (.invokestatic 135, 3) := by decide +kernel
theorem dX7_writes_96 : decode cX7_writes 96 = .ok (.sipush 9999, 3) := by decide +kernel
theorem dX7_writes_99 : decode cX7_writes 99 = .ok (.aload_n 0, 1) := by decide +kernel
theorem dX7_writes_100 : decode cX7_writes 100 = .ok (.iload_n 1, 1) := by decide +kernel
theorem dX7_writes_101 : decode cX7_writes 101 = .ok (.iconst 4, 1) := by decide +kernel
theorem dX7_writes_102 : decode cX7_writes 102 = .ok (.invokevirtual 120, 3) := by decide +kernel
theorem dX7_writes_105 : decode cX7_writes 105 = .ok (.iconst 1, 1) := by decide +kernel
theorem dX7_writes_106 : decode cX7_writes 106 = .ok (.iadd, 1) := by decide +kernel
theorem dX7_writes_107 : decode cX7_writes 107 = .ok (.invokestatic 110, 3) := by decide +kernel
theorem dX7_writes_110 : decode cX7_writes 110 = .ok (.iastore, 1) := by decide +kernel
theorem dX7_writes_111 : decode cX7_writes 111 = .ok (.return_, 1) := by decide +kernel
theorem dX7_day_0 : decode cX7_day 0 = .ok (.aload_n 0, 1) := by decide +kernel
theorem dX7_day_1 : decode cX7_day 1 = .ok (.invokevirtual 165, 3) := by decide +kernel
theorem dX7_day_4 : decode cX7_day 4 = .ok (.istore_n 1, 1) := by decide +kernel
theorem dX7_day_5 : decode cX7_day 5 = .ok (.iload_n 1, 1) := by decide +kernel
theorem dX7_day_6 : decode cX7_day 6 = .ok (.ifCond .lt 16, 3) := by decide +kernel
theorem dX7_day_9 : decode cX7_day 9 = .ok (.aload_n 0, 1) := by decide +kernel
theorem dX7_day_10 : decode cX7_day 10 = .ok (.iload_n 1, 1) := by decide +kernel
theorem dX7_day_11 : decode cX7_day 11 = .ok (.invokevirtual 158, 3) := by decide +kernel
theorem dX7_day_14 : decode cX7_day 14 = .ok (.ifCond .le 8, 3) := by decide +kernel
theorem dX7_day_17 : decode cX7_day 17 = .ok (.aload_n 0, 1) := by decide +kernel
theorem dX7_day_18 : decode cX7_day 18 = .ok (.iload_n 1, 1) := by decide +kernel
theorem dX7_day_19 : decode cX7_day 19 = .ok (.invokevirtual 168, 3) := by decide +kernel
theorem dX7_day_22 : decode cX7_day 22 = .ok (.aload_n 0, 1) := by decide +kernel
theorem dX7_day_23 : decode cX7_day 23 = .ok (.getfield 9, 3) := by decide +kernel
theorem dX7_day_26 : decode cX7_day 26 = .ok (.iconst 0, 1) := by decide +kernel
theorem dX7_day_27 : decode cX7_day 27 = .ok (.dup2, 1) := by decide +kernel
theorem dX7_day_28 : decode cX7_day 28 = .ok (.iaload, 1) := by decide +kernel
theorem dX7_day_29 : decode cX7_day 29 = .ok (.iconst 1, 1) := by decide +kernel
theorem dX7_day_30 : decode cX7_day 30 = .ok (.iadd, 1) := by decide +kernel
theorem dX7_day_31 : decode cX7_day 31 = .ok (.iastore, 1) := by decide +kernel
theorem dX7_day_32 : decode cX7_day 32 = .ok (.return_, 1) := by decide +kernel
theorem dX7_daysGo_0 : decode cX7_daysGo 0 = .ok (.iconst 0, 1) := by decide +kernel
theorem dX7_daysGo_1 : decode cX7_daysGo 1 = .ok (.istore_n 2, 1) := by decide +kernel
theorem dX7_daysGo_2 : decode cX7_daysGo 2 = .ok (.iload_n 2, 1) := by decide +kernel
theorem dX7_daysGo_3 : decode cX7_daysGo 3 = .ok (.iload_n 1, 1) := by decide +kernel
theorem dX7_daysGo_4 : decode cX7_daysGo 4 = .ok (.if_icmp .ge 13, 3) := by decide +kernel
theorem dX7_daysGo_7 : decode cX7_daysGo 7 = .ok (.aload_n 0, 1) := by decide +kernel
theorem dX7_daysGo_8 : decode cX7_daysGo 8 = .ok (.invokevirtual 172, 3) := by decide +kernel
theorem dX7_daysGo_11 : decode cX7_daysGo 11 = .ok (.iinc 2 1, 3) := by decide +kernel
theorem dX7_daysGo_14 : decode cX7_daysGo 14 = .ok (.goto (-12), 3) := by decide +kernel
theorem dX7_daysGo_17 : decode cX7_daysGo 17 = .ok (.return_, 1) := by decide +kernel
theorem dX7_days_0 : decode cX7_days 0 = .ok (.iload_n 1, 1) := by decide +kernel
theorem dX7_days_1 : decode cX7_days 1 = .ok (.iconst 1, 1) := by decide +kernel
theorem dX7_days_2 : decode cX7_days 2 = .ok (.bipush 60, 2) := by decide +kernel
theorem dX7_days_4 : decode cX7_days 4 = .ok (.invokestatic 81, 3) := by decide +kernel
theorem dX7_days_7 : decode cX7_days 7 = .ok (.ifCond .ne 10, 3) := by decide +kernel
theorem dX7_days_10 : decode cX7_days 10 = .ok (.aload_n 0, 1) := by decide +kernel
theorem dX7_days_11 : decode cX7_days 11 = .ok (.ldc 71, 2) := by decide +kernel
theorem dX7_days_13 : decode cX7_days 13 = .ok (.invokevirtual 77, 3) := by decide +kernel
theorem dX7_days_16 : decode cX7_days 16 = .ok (.ireturn, 1) := by decide +kernel
theorem dX7_days_17 : decode cX7_days 17 = .ok (.aload_n 0, 1) := by decide +kernel
theorem dX7_days_18 : decode cX7_days 18 = .ok (.getfield 9, 3) := by decide +kernel
theorem dX7_days_21 : decode cX7_days 21 = .ok (.iconst 0, 1) := by decide +kernel
theorem dX7_days_22 : decode cX7_days 22 = .ok (.iaload, 1) := by decide +kernel
theorem dX7_days_23 : decode cX7_days 23 = .ok (.iload_n 1, 1) := by decide +kernel
theorem dX7_days_24 : decode cX7_days 24 = .ok (.iadd, 1) := by decide +kernel
theorem dX7_days_25 : decode cX7_days 25 = .ok (.sipush 9999, 3) := by decide +kernel
theorem dX7_days_28 : decode cX7_days 28 = .ok (.if_icmp .le 10, 3) := by decide +kernel
theorem dX7_days_31 : decode cX7_days 31 = .ok (.aload_n 0, 1) := by decide +kernel
theorem dX7_days_32 : decode cX7_days 32 = .ok (.ldc 175, 2) := by decide +kernel
theorem dX7_days_34 : decode cX7_days 34 = .ok (.invokevirtual 77, 3) := by decide +kernel
theorem dX7_days_37 : decode cX7_days 37 = .ok (.ireturn, 1) := by decide +kernel
theorem dX7_days_38 : decode cX7_days 38 = .ok (.aload_n 0, 1) := by decide +kernel
theorem dX7_days_39 : decode cX7_days 39 = .ok (.iload_n 1, 1) := by decide +kernel
theorem dX7_days_40 : decode cX7_days 40 = .ok (.invokevirtual 176, 3) := by decide +kernel
theorem dX7_days_43 : decode cX7_days 43 = .ok (.aload_n 0, 1) := by decide +kernel
theorem dX7_days_44 : decode cX7_days 44 = .ok (.iconst 0, 1) := by decide +kernel
theorem dX7_days_45 : decode cX7_days 45 = .ok (.invokevirtual 123, 3) := by decide +kernel
theorem dX7_days_48 : decode cX7_days 48 = .ok (.aload_n 0, 1) := by decide +kernel
theorem dX7_days_49 : decode cX7_days 49 = .ok (.iconst 1, 1) := by decide +kernel
theorem dX7_days_50 : decode cX7_days 50 = .ok (.invokevirtual 123, 3) := by decide +kernel
theorem dX7_days_53 : decode cX7_days 53 = .ok (.iadd, 1) := by decide +kernel
theorem dX7_days_54 : decode cX7_days 54 = .ok (.ireturn, 1) := by decide +kernel
theorem dX7_now_0 : decode cX7_now 0 = .ok (.iload_n 1, 1) := by decide +kernel
theorem dX7_now_1 : decode cX7_now 1 = .ok (.tableswitch 106 0 5 #[39, 46, 55, 60, 88, 101], 39) := by decide +kernel
theorem dX7_now_40 : decode cX7_now 40 = .ok (.aload_n 0, 1) := by decide +kernel
theorem dX7_now_41 : decode cX7_now 41 = .ok (.getfield 9, 3) := by decide +kernel
theorem dX7_now_44 : decode cX7_now 44 = .ok (.iconst 0, 1) := by decide +kernel
theorem dX7_now_45 : decode cX7_now 45 = .ok (.iaload, 1) := by decide +kernel
theorem dX7_now_46 : decode cX7_now 46 = .ok (.ireturn, 1) := by decide +kernel
theorem dX7_now_47 : decode cX7_now 47 = .ok (.aload_n 0, 1) := by decide +kernel
theorem dX7_now_48 : decode cX7_now 48 = .ok (.getfield 9, 3) := by decide +kernel
theorem dX7_now_51 : decode cX7_now 51 = .ok (.iconst 0, 1) := by decide +kernel
theorem dX7_now_52 : decode cX7_now 52 = .ok (.iaload, 1) := by decide +kernel
theorem dX7_now_53 : decode cX7_now 53 = .ok (.iconst 2, 1) := by decide +kernel
theorem dX7_now_54 : decode cX7_now 54 = .ok (.irem, 1) := by decide +kernel
theorem dX7_now_55 : decode cX7_now 55 = .ok (.ireturn, 1) := by decide +kernel
theorem dX7_now_56 : decode cX7_now 56 = .ok (.aload_n 0, 1) := by decide +kernel
theorem dX7_now_57 : decode cX7_now 57 = .ok (.invokevirtual 165, 3) := by decide +kernel
theorem dX7_now_60 : decode cX7_now 60 = .ok (.ireturn, 1) := by decide +kernel
theorem dX7_now_61 : decode cX7_now 61 = .ok (.aload_n 0, 1) := by decide +kernel
theorem dX7_now_62 : decode cX7_now 62 = .ok (.iconst 0, 1) := by decide +kernel
theorem dX7_now_63 : decode cX7_now 63 = .ok (.invokevirtual 126, 3) := by decide +kernel
theorem dX7_now_66 : decode cX7_now 66 = .ok (.ifCond .eq 7, 3) := by decide +kernel
theorem dX7_now_69 : decode cX7_now 69 = .ok (.iconst 1, 1) := by decide +kernel
theorem dX7_now_70 : decode cX7_now 70 = .ok (.goto 4, 3) := by decide +kernel
theorem dX7_now_73 : decode cX7_now 73 = .ok (.iconst 0, 1) := by decide +kernel
theorem dX7_now_74 : decode cX7_now 74 = .ok (.aload_n 0, 1) := by decide +kernel
theorem dX7_now_75 : decode cX7_now 75 = .ok (.iconst 1, 1) := by decide +kernel
theorem dX7_now_76 : decode cX7_now 76 = .ok (.invokevirtual 126, 3) := by decide +kernel
theorem dX7_now_79 : decode cX7_now 79 = .ok (.ifCond .eq 7, 3) := by decide +kernel
theorem dX7_now_82 : decode cX7_now 82 = .ok (.iconst 2, 1) := by decide +kernel
theorem dX7_now_83 : decode cX7_now 83 = .ok (.goto 4, 3) := by decide +kernel
theorem dX7_now_86 : decode cX7_now 86 = .ok (.iconst 0, 1) := by decide +kernel
theorem dX7_now_87 : decode cX7_now 87 = .ok (.iadd, 1) := by decide +kernel
theorem dX7_now_88 : decode cX7_now 88 = .ok (.ireturn, 1) := by decide +kernel
theorem dX7_now_89 : decode cX7_now 89 = .ok (.aload_n 0, 1) := by decide +kernel
theorem dX7_now_90 : decode cX7_now 90 = .ok (.invokevirtual 179, 3) := by decide +kernel
theorem dX7_now_93 : decode cX7_now 93 = .ok (.ifCond .eq 7, 3) := by decide +kernel
theorem dX7_now_96 : decode cX7_now 96 = .ok (.iconst 1, 1) := by decide +kernel
theorem dX7_now_97 : decode cX7_now 97 = .ok (.goto 4, 3) := by decide +kernel
theorem dX7_now_100 : decode cX7_now 100 = .ok (.iconst 0, 1) := by decide +kernel
theorem dX7_now_101 : decode cX7_now 101 = .ok (.ireturn, 1) := by decide +kernel
theorem dX7_now_102 : decode cX7_now 102 = .ok (.aload_n 0, 1) := by decide +kernel
theorem dX7_now_103 : decode cX7_now 103 = .ok (.invokevirtual 116, 3) := by decide +kernel
theorem dX7_now_106 : decode cX7_now 106 = .ok (.ireturn, 1) := by decide +kernel
theorem dX7_now_107 : decode cX7_now 107 = .ok (.aload_n 0, 1) := by decide +kernel
theorem dX7_now_108 : decode cX7_now 108 = .ok (.ldc 71, 2) := by decide +kernel
theorem dX7_now_110 : decode cX7_now 110 = .ok (.invokevirtual 77, 3) := by decide +kernel
theorem dX7_now_113 : decode cX7_now 113 = .ok (.ireturn, 1) := by decide +kernel
theorem dX7_isOn_0 : decode cX7_isOn 0 = .ok (.iload_n 0, 1) := by decide +kernel
theorem dX7_isOn_1 : decode cX7_isOn 1 = .ok (.iconst 0, 1) := by decide +kernel
theorem dX7_isOn_2 : decode cX7_isOn 2 = .ok (.bipush 60, 2) := by decide +kernel
theorem dX7_isOn_4 : decode cX7_isOn 4 = .ok (.invokestatic 81, 3) := by decide +kernel
theorem dX7_isOn_7 : decode cX7_isOn 7 = .ok (.ireturn, 1) := by decide +kernel
theorem dX7_on_0 : decode cX7_on 0 = .ok (.iload_n 1, 1) := by decide +kernel
theorem dX7_on_1 : decode cX7_on 1 = .ok (.invokestatic 91, 3) := by decide +kernel
theorem dX7_on_4 : decode cX7_on 4 = .ok (.ifCond .eq 20, 3) := by decide +kernel
theorem dX7_on_7 : decode cX7_on 7 = .ok (.iload_n 2, 1) := by decide +kernel
theorem dX7_on_8 : decode cX7_on 8 = .ok (.iconst 0, 1) := by decide +kernel
theorem dX7_on_9 : decode cX7_on 9 = .ok (.bipush 11, 2) := by decide +kernel
theorem dX7_on_11 : decode cX7_on 11 = .ok (.invokestatic 81, 3) := by decide +kernel
theorem dX7_on_14 : decode cX7_on 14 = .ok (.ifCond .eq 10, 3) := by decide +kernel
theorem dX7_on_17 : decode cX7_on 17 = .ok (.iload_n 3, 1) := by decide +kernel
theorem dX7_on_18 : decode cX7_on 18 = .ok (.invokestatic 183, 3) := by decide +kernel
theorem dX7_on_21 : decode cX7_on 21 = .ok (.ifCond .ne 10, 3) := by decide +kernel
theorem dX7_on_24 : decode cX7_on 24 = .ok (.aload_n 0, 1) := by decide +kernel
theorem dX7_on_25 : decode cX7_on 25 = .ok (.ldc 71, 2) := by decide +kernel
theorem dX7_on_27 : decode cX7_on 27 = .ok (.invokevirtual 77, 3) := by decide +kernel
theorem dX7_on_30 : decode cX7_on 30 = .ok (.ireturn, 1) := by decide +kernel
theorem dX7_on_31 : decode cX7_on 31 = .ok (.aload_n 0, 1) := by decide +kernel
theorem dX7_on_32 : decode cX7_on 32 = .ok (.getfield 9, 3) := by decide +kernel
theorem dX7_on_35 : decode cX7_on 35 = .ok (.aload_n 0, 1) := by decide +kernel
theorem dX7_on_36 : decode cX7_on 36 = .ok (.getfield 16, 3) := by decide +kernel
theorem dX7_on_39 : decode cX7_on 39 = .ok (.invokestatic 72, 3) := by decide +kernel
theorem dX7_on_42 : decode cX7_on 42 = .ok (.aload_n 0, 1) := by decide +kernel
theorem dX7_on_43 : decode cX7_on 43 = .ok (.iload_n 3, 1) := by decide +kernel
theorem dX7_on_44 : decode cX7_on 44 = .ok (.invokevirtual 176, 3) := by decide +kernel
theorem dX7_on_47 : decode cX7_on 47 = .ok (.aload_n 0, 1) := by decide +kernel
theorem dX7_on_48 : decode cX7_on 48 = .ok (.aload_n 0, 1) := by decide +kernel
theorem dX7_on_49 : decode cX7_on 49 = .ok (.iload_n 2, 1) := by decide +kernel
theorem dX7_on_50 : decode cX7_on 50 = .ok (.aload_n 0, 1) := by decide +kernel
theorem dX7_on_51 : decode cX7_on 51 = .ok (.iload_n 1, 1) := by decide +kernel
theorem dX7_on_52 : decode cX7_on 52 = .ok (.invokevirtual 99, 3) := by decide +kernel
theorem dX7_on_55 : decode cX7_on 55 = .ok (.if_icmp .ge 12, 3) := by decide +kernel
theorem dX7_on_58 : decode cX7_on 58 = .ok (.aload_n 0, 1) := by decide +kernel
theorem dX7_on_59 : decode cX7_on 59 = .ok (.iload_n 1, 1) := by decide +kernel
theorem dX7_on_60 : decode cX7_on 60 = .ok (.iload_n 2, 1) := by decide +kernel
theorem dX7_on_61 : decode cX7_on 61 = .ok (.invokevirtual 102, 3) := by decide +kernel
theorem dX7_on_64 : decode cX7_on 64 = .ok (.goto 4, 3) := by decide +kernel
theorem dX7_on_67 : decode cX7_on 67 = .ok (.iconst (-1), 1) := by decide +kernel
theorem dX7_on_68 : decode cX7_on 68 = .ok (.invokevirtual 186, 3) := by decide +kernel
theorem dX7_on_71 : decode cX7_on 71 = .ok (.invokevirtual 189, 3) := by decide +kernel
theorem dX7_on_74 : decode cX7_on 74 = .ok (.ireturn, 1) := by decide +kernel
theorem dX7_tensionOn_0 : decode cX7_tensionOn 0 = .ok (.aload_n 0, 1) := by decide +kernel
theorem dX7_tensionOn_1 : decode cX7_tensionOn 1 = .ok (.getfield 9, 3) := by decide +kernel
theorem dX7_tensionOn_4 : decode cX7_tensionOn 4 = .ok (.aload_n 0, 1) := by decide +kernel
theorem dX7_tensionOn_5 : decode cX7_tensionOn 5 = .ok (.getfield 16, 3) := by decide +kernel
theorem dX7_tensionOn_8 : decode cX7_tensionOn 8 = .ok (.invokestatic 72, 3) := by decide +kernel
theorem dX7_tensionOn_11 : decode cX7_tensionOn 11 = .ok (.aload_n 0, 1) := by decide +kernel
theorem dX7_tensionOn_12 : decode cX7_tensionOn 12 = .ok (.iload_n 2, 1) := by decide +kernel
theorem dX7_tensionOn_13 : decode cX7_tensionOn 13 = .ok (.invokevirtual 176, 3) := by decide +kernel
theorem dX7_tensionOn_16 : decode cX7_tensionOn 16 = .ok (.aload_n 0, 1) := by decide +kernel
theorem dX7_tensionOn_17 : decode cX7_tensionOn 17 = .ok (.aload_n 0, 1) := by decide +kernel
theorem dX7_tensionOn_18 : decode cX7_tensionOn 18 = .ok (.iload_n 1, 1) := by decide +kernel
theorem dX7_tensionOn_19 : decode cX7_tensionOn 19 = .ok (.invokevirtual 123, 3) := by decide +kernel
theorem dX7_tensionOn_22 : decode cX7_tensionOn 22 = .ok (.invokevirtual 186, 3) := by decide +kernel
theorem dX7_tensionOn_25 : decode cX7_tensionOn 25 = .ok (.ireturn, 1) := by decide +kernel
theorem dX7_tension_0 : decode cX7_tension 0 = .ok (.iload_n 1, 1) := by decide +kernel
theorem dX7_tension_1 : decode cX7_tension 1 = .ok (.invokestatic 91, 3) := by decide +kernel
theorem dX7_tension_4 : decode cX7_tension 4 = .ok (.ifCond .eq 19, 3) := by decide +kernel
theorem dX7_tension_7 : decode cX7_tension 7 = .ok (.iload_n 2, 1) := by decide +kernel
theorem dX7_tension_8 : decode cX7_tension 8 = .ok (.invokestatic 183, 3) := by decide +kernel
theorem dX7_tension_11 : decode cX7_tension 11 = .ok (.ifCond .eq 12, 3) := by decide +kernel
theorem dX7_tension_14 : decode cX7_tension 14 = .ok (.aload_n 0, 1) := by decide +kernel
theorem dX7_tension_15 : decode cX7_tension 15 = .ok (.iload_n 1, 1) := by decide +kernel
theorem dX7_tension_16 : decode cX7_tension 16 = .ok (.iload_n 2, 1) := by decide +kernel
theorem dX7_tension_17 : decode cX7_tension 17 = .ok (.invokevirtual 192, 3) := by decide +kernel
theorem dX7_tension_20 : decode cX7_tension 20 = .ok (.goto 9, 3) := by decide +kernel
theorem dX7_tension_23 : decode cX7_tension 23 = .ok (.aload_n 0, 1) := by decide +kernel
theorem dX7_tension_24 : decode cX7_tension 24 = .ok (.ldc 71, 2) := by decide +kernel
theorem dX7_tension_26 : decode cX7_tension 26 = .ok (.invokevirtual 77, 3) := by decide +kernel
theorem dX7_tension_29 : decode cX7_tension 29 = .ok (.ireturn, 1) := by decide +kernel
theorem dX7_soonest_0 : decode cX7_soonest 0 = .ok (.aload_n 0, 1) := by decide +kernel
theorem dX7_soonest_1 : decode cX7_soonest 1 = .ok (.getfield 9, 3) := by decide +kernel
theorem dX7_soonest_4 : decode cX7_soonest 4 = .ok (.aload_n 0, 1) := by decide +kernel
theorem dX7_soonest_5 : decode cX7_soonest 5 = .ok (.getfield 16, 3) := by decide +kernel
theorem dX7_soonest_8 : decode cX7_soonest 8 = .ok (.invokestatic 72, 3) := by decide +kernel
theorem dX7_soonest_11 : decode cX7_soonest 11 = .ok (.iconst (-1), 1) := by decide +kernel
theorem dX7_soonest_12 : decode cX7_soonest 12 = .ok (.istore_n 3, 1) := by decide +kernel
theorem dX7_soonest_13 : decode cX7_soonest 13 = .ok (.iconst 0, 1) := by decide +kernel
theorem dX7_soonest_14 : decode cX7_soonest 14 = .ok (.istore 4, 2) := by decide +kernel
theorem dX7_soonest_16 : decode cX7_soonest 16 = .ok (.iload 4, 2) := by decide +kernel
theorem dX7_soonest_18 : decode cX7_soonest 18 = .ok (.iload_n 2, 1) := by decide +kernel
theorem dX7_soonest_19 : decode cX7_soonest 19 = .ok (.if_icmp .gt 46, 3) := by decide +kernel
theorem dX7_soonest_22 : decode cX7_soonest 22 = .ok (.iload_n 3, 1) := by decide +kernel
theorem dX7_soonest_23 : decode cX7_soonest 23 = .ok (.ifCond .ge 42, 3) := by decide +kernel
theorem dX7_soonest_26 : decode cX7_soonest 26 = .ok (.iload_n 1, 1) := by decide +kernel
theorem dX7_soonest_27 : decode cX7_soonest 27 = .ok (.ifCond .ge 13, 3) := by decide +kernel
theorem dX7_soonest_30 : decode cX7_soonest 30 = .ok (.aload_n 0, 1) := by decide +kernel
theorem dX7_soonest_31 : decode cX7_soonest 31 = .ok (.invokevirtual 179, 3) := by decide +kernel
theorem dX7_soonest_34 : decode cX7_soonest 34 = .ok (.ifCond .eq 19, 3) := by decide +kernel
theorem dX7_soonest_37 : decode cX7_soonest 37 = .ok (.goto 11, 3) := by decide +kernel
theorem dX7_soonest_40 : decode cX7_soonest 40 = .ok (.aload_n 0, 1) := by decide +kernel
theorem dX7_soonest_41 : decode cX7_soonest 41 = .ok (.iload_n 1, 1) := by decide +kernel
theorem dX7_soonest_42 : decode cX7_soonest 42 = .ok (.invokevirtual 126, 3) := by decide +kernel
theorem dX7_soonest_45 : decode cX7_soonest 45 = .ok (.ifCond .eq 8, 3) := by decide +kernel
theorem dX7_soonest_48 : decode cX7_soonest 48 = .ok (.iload 4, 2) := by decide +kernel
theorem dX7_soonest_50 : decode cX7_soonest 50 = .ok (.goto 4, 3) := by decide +kernel
theorem dX7_soonest_53 : decode cX7_soonest 53 = .ok (.iconst (-1), 1) := by decide +kernel
theorem dX7_soonest_54 : decode cX7_soonest 54 = .ok (.istore_n 3, 1) := by decide +kernel
theorem dX7_soonest_55 : decode cX7_soonest 55 = .ok (.aload_n 0, 1) := by decide +kernel
theorem dX7_soonest_56 : decode cX7_soonest 56 = .ok (.invokevirtual 172, 3) := by decide +kernel
theorem dX7_soonest_59 : decode cX7_soonest 59 = .ok (.iinc 4 1, 3) := by decide +kernel
theorem dX7_soonest_62 : decode cX7_soonest 62 = .ok (.goto (-46), 3) := by decide +kernel
theorem dX7_soonest_65 : decode cX7_soonest 65 = .ok (.aload_n 0, 1) := by decide +kernel
theorem dX7_soonest_66 : decode cX7_soonest 66 = .ok (.iload_n 3, 1) := by decide +kernel
theorem dX7_soonest_67 : decode cX7_soonest 67 = .ok (.invokevirtual 186, 3) := by decide +kernel
theorem dX7_soonest_70 : decode cX7_soonest 70 = .ok (.ireturn, 1) := by decide +kernel
theorem dX7_home_0 : decode cX7_home 0 = .ok (.iload_n 1, 1) := by decide +kernel
theorem dX7_home_1 : decode cX7_home 1 = .ok (.invokestatic 91, 3) := by decide +kernel
theorem dX7_home_4 : decode cX7_home 4 = .ok (.ifCond .eq 18, 3) := by decide +kernel
theorem dX7_home_7 : decode cX7_home 7 = .ok (.aload_n 0, 1) := by decide +kernel
theorem dX7_home_8 : decode cX7_home 8 = .ok (.aload_n 0, 1) := by decide +kernel
theorem dX7_home_9 : decode cX7_home 9 = .ok (.iload_n 1, 1) := by decide +kernel
theorem dX7_home_10 : decode cX7_home 10 = .ok (.sipush 200, 3) := by decide +kernel
theorem dX7_home_13 : decode cX7_home 13 = .ok (.invokevirtual 195, 3) := by decide +kernel
theorem dX7_home_16 : decode cX7_home 16 = .ok (.invokevirtual 189, 3) := by decide +kernel
theorem dX7_home_19 : decode cX7_home 19 = .ok (.goto 9, 3) := by decide +kernel
theorem dX7_home_22 : decode cX7_home 22 = .ok (.aload_n 0, 1) := by decide +kernel
theorem dX7_home_23 : decode cX7_home 23 = .ok (.ldc 71, 2) := by decide +kernel
theorem dX7_home_25 : decode cX7_home 25 = .ok (.invokevirtual 77, 3) := by decide +kernel
theorem dX7_home_28 : decode cX7_home 28 = .ok (.ireturn, 1) := by decide +kernel
theorem dX7_alike_0 : decode cX7_alike 0 = .ok (.aload_n 0, 1) := by decide +kernel
theorem dX7_alike_1 : decode cX7_alike 1 = .ok (.aload_n 0, 1) := by decide +kernel
theorem dX7_alike_2 : decode cX7_alike 2 = .ok (.iconst (-1), 1) := by decide +kernel
theorem dX7_alike_3 : decode cX7_alike 3 = .ok (.sipush 200, 3) := by decide +kernel
theorem dX7_alike_6 : decode cX7_alike 6 = .ok (.invokevirtual 195, 3) := by decide +kernel
theorem dX7_alike_9 : decode cX7_alike 9 = .ok (.invokevirtual 189, 3) := by decide +kernel
theorem dX7_alike_12 : decode cX7_alike 12 = .ok (.ireturn, 1) := by decide +kernel
theorem dX7_isAsAside_0 : decode cX7_isAsAside 0 = .ok (.aload_n 0, 1) := by decide +kernel
theorem dX7_isAsAside_1 : decode cX7_isAsAside 1 = .ok (.iload_n 1, 1) := by decide +kernel
theorem dX7_isAsAside_2 : decode cX7_isAsAside 2 = .ok (.invokevirtual 99, 3) := by decide +kernel
theorem dX7_isAsAside_5 : decode cX7_isAsAside 5 = .ok (.aload_n 0, 1) := by decide +kernel
theorem dX7_isAsAside_6 : decode cX7_isAsAside 6 = .ok (.getfield 16, 3) := by decide +kernel
theorem dX7_isAsAside_9 : decode cX7_isAsAside 9 = .ok (.iconst 2, 1) := by decide +kernel
theorem dX7_isAsAside_10 : decode cX7_isAsAside 10 = .ok (.iload_n 1, 1) := by decide +kernel
theorem dX7_isAsAside_11 : decode cX7_isAsAside 11 = .ok (.iadd, 1) := by decide +kernel
theorem dX7_isAsAside_12 : decode cX7_isAsAside 12 = .ok (.iaload, 1) := by decide +kernel
theorem dX7_isAsAside_13 : decode cX7_isAsAside 13 = .ok (.if_icmp .ne 7, 3) := by decide +kernel
theorem dX7_isAsAside_16 : decode cX7_isAsAside 16 = .ok (.iconst 1, 1) := by decide +kernel
theorem dX7_isAsAside_17 : decode cX7_isAsAside 17 = .ok (.goto 4, 3) := by decide +kernel
theorem dX7_isAsAside_20 : decode cX7_isAsAside 20 = .ok (.iconst 0, 1) := by decide +kernel
theorem dX7_isAsAside_21 : decode cX7_isAsAside 21 = .ok (.istore_n 2, 1) := by decide +kernel
theorem dX7_isAsAside_22 : decode cX7_isAsAside 22 = .ok (.iconst 0, 1) := by decide +kernel
theorem dX7_isAsAside_23 : decode cX7_isAsAside 23 = .ok (.istore_n 3, 1) := by decide +kernel
theorem dX7_isAsAside_24 : decode cX7_isAsAside 24 = .ok (.iload_n 3, 1) := by decide +kernel
theorem dX7_isAsAside_25 : decode cX7_isAsAside 25 = .ok (.aload_n 0, 1) := by decide +kernel
theorem dX7_isAsAside_26 : decode cX7_isAsAside 26 = .ok (.iload_n 1, 1) := by decide +kernel
theorem dX7_isAsAside_27 : decode cX7_isAsAside 27 = .ok (.invokevirtual 99, 3) := by decide +kernel
theorem dX7_isAsAside_30 : decode cX7_isAsAside 30 = .ok (.if_icmp .ge 41, 3) := by decide +kernel
theorem dX7_isAsAside_33 : decode cX7_isAsAside 33 = .ok (.iload_n 2, 1) := by decide +kernel
theorem dX7_isAsAside_34 : decode cX7_isAsAside 34 = .ok (.ifCond .eq 37, 3) := by decide +kernel
theorem dX7_isAsAside_37 : decode cX7_isAsAside 37 = .ok (.aload_n 0, 1) := by decide +kernel
theorem dX7_isAsAside_38 : decode cX7_isAsAside 38 = .ok (.iload_n 1, 1) := by decide +kernel
theorem dX7_isAsAside_39 : decode cX7_isAsAside 39 = .ok (.iload_n 3, 1) := by decide +kernel
theorem dX7_isAsAside_40 : decode cX7_isAsAside 40 = .ok (.invokevirtual 102, 3) := by decide +kernel
theorem dX7_isAsAside_43 : decode cX7_isAsAside 43 = .ok (.aload_n 0, 1) := by decide +kernel
theorem dX7_isAsAside_44 : decode cX7_isAsAside 44 = .ok (.getfield 16, 3) := by decide +kernel
theorem dX7_isAsAside_47 : decode cX7_isAsAside 47 = .ok (.iconst 4, 1) := by decide +kernel
theorem dX7_isAsAside_48 : decode cX7_isAsAside 48 = .ok (.bipush 12, 2) := by decide +kernel
theorem dX7_isAsAside_50 : decode cX7_isAsAside 50 = .ok (.iload_n 1, 1) := by decide +kernel
theorem dX7_isAsAside_51 : decode cX7_isAsAside 51 = .ok (.imul, 1) := by decide +kernel
theorem dX7_isAsAside_52 : decode cX7_isAsAside 52 = .ok (.iadd, 1) := by decide +kernel
theorem dX7_isAsAside_53 : decode cX7_isAsAside 53 = .ok (.iload_n 3, 1) := by decide +kernel
theorem dX7_isAsAside_54 : decode cX7_isAsAside 54 = .ok (.iadd, 1) := by decide +kernel
theorem dX7_isAsAside_55 : decode cX7_isAsAside 55 = .ok (.iaload, 1) := by decide +kernel
theorem dX7_isAsAside_56 : decode cX7_isAsAside 56 = .ok (.if_icmp .ne 7, 3) := by decide +kernel
theorem dX7_isAsAside_59 : decode cX7_isAsAside 59 = .ok (.iconst 1, 1) := by decide +kernel
theorem dX7_isAsAside_60 : decode cX7_isAsAside 60 = .ok (.goto 4, 3) := by decide +kernel
theorem dX7_isAsAside_63 : decode cX7_isAsAside 63 = .ok (.iconst 0, 1) := by decide +kernel
theorem dX7_isAsAside_64 : decode cX7_isAsAside 64 = .ok (.istore_n 2, 1) := by decide +kernel
theorem dX7_isAsAside_65 : decode cX7_isAsAside 65 = .ok (.iinc 3 1, 3) := by decide +kernel
theorem dX7_isAsAside_68 : decode cX7_isAsAside 68 = .ok (.goto (-44), 3) := by decide +kernel
theorem dX7_isAsAside_71 : decode cX7_isAsAside 71 = .ok (.iload_n 2, 1) := by decide +kernel
theorem dX7_isAsAside_72 : decode cX7_isAsAside 72 = .ok (.ireturn, 1) := by decide +kernel
theorem dX7_again_0 : decode cX7_again 0 = .ok (.iload_n 1, 1) := by decide +kernel
theorem dX7_again_1 : decode cX7_again 1 = .ok (.invokestatic 91, 3) := by decide +kernel
theorem dX7_again_4 : decode cX7_again 4 = .ok (.ifCond .ne 10, 3) := by decide +kernel
theorem dX7_again_7 : decode cX7_again 7 = .ok (.aload_n 0, 1) := by decide +kernel
theorem dX7_again_8 : decode cX7_again 8 = .ok (.ldc 71, 2) := by decide +kernel
theorem dX7_again_10 : decode cX7_again 10 = .ok (.invokevirtual 77, 3) := by decide +kernel
theorem dX7_again_13 : decode cX7_again 13 = .ok (.ireturn, 1) := by decide +kernel
theorem dX7_again_14 : decode cX7_again 14 = .ok (.aload_n 0, 1) := by decide +kernel
theorem dX7_again_15 : decode cX7_again 15 = .ok (.getfield 9, 3) := by decide +kernel
theorem dX7_again_18 : decode cX7_again 18 = .ok (.aload_n 0, 1) := by decide +kernel
theorem dX7_again_19 : decode cX7_again 19 = .ok (.getfield 16, 3) := by decide +kernel
theorem dX7_again_22 : decode cX7_again 22 = .ok (.invokestatic 72, 3) := by decide +kernel
theorem dX7_again_25 : decode cX7_again 25 = .ok (.iconst 0, 1) := by decide +kernel
theorem dX7_again_26 : decode cX7_again 26 = .ok (.istore_n 2, 1) := by decide +kernel
theorem dX7_again_27 : decode cX7_again 27 = .ok (.iconst (-1), 1) := by decide +kernel
theorem dX7_again_28 : decode cX7_again 28 = .ok (.istore_n 3, 1) := by decide +kernel
theorem dX7_again_29 : decode cX7_again 29 = .ok (.iconst 1, 1) := by decide +kernel
theorem dX7_again_30 : decode cX7_again 30 = .ok (.istore 4, 2) := by decide +kernel
theorem dX7_again_32 : decode cX7_again 32 = .ok (.iload 4, 2) := by decide +kernel
theorem dX7_again_34 : decode cX7_again 34 = .ok (.sipush 200, 3) := by decide +kernel
theorem dX7_again_37 : decode cX7_again 37 = .ok (.if_icmp .gt 55, 3) := by decide +kernel
theorem dX7_again_40 : decode cX7_again 40 = .ok (.iload_n 3, 1) := by decide +kernel
theorem dX7_again_41 : decode cX7_again 41 = .ok (.ifCond .ge 51, 3) := by decide +kernel
theorem dX7_again_44 : decode cX7_again 44 = .ok (.aload_n 0, 1) := by decide +kernel
theorem dX7_again_45 : decode cX7_again 45 = .ok (.invokevirtual 172, 3) := by decide +kernel
theorem dX7_again_48 : decode cX7_again 48 = .ok (.aload_n 0, 1) := by decide +kernel
theorem dX7_again_49 : decode cX7_again 49 = .ok (.iload_n 1, 1) := by decide +kernel
theorem dX7_again_50 : decode cX7_again 50 = .ok (.invokevirtual 198, 3) := by decide +kernel
theorem dX7_again_53 : decode cX7_again 53 = .ok (.istore 5, 2) := by decide +kernel
theorem dX7_again_55 : decode cX7_again 55 = .ok (.iload 5, 2) := by decide +kernel
theorem dX7_again_57 : decode cX7_again 57 = .ok (.ifCond .eq 12, 3) := by decide +kernel
theorem dX7_again_60 : decode cX7_again 60 = .ok (.iload_n 2, 1) := by decide +kernel
theorem dX7_again_61 : decode cX7_again 61 = .ok (.ifCond .eq 8, 3) := by decide +kernel
theorem dX7_again_64 : decode cX7_again 64 = .ok (.iload 4, 2) := by decide +kernel
theorem dX7_again_66 : decode cX7_again 66 = .ok (.goto 4, 3) := by decide +kernel
theorem dX7_again_69 : decode cX7_again 69 = .ok (.iconst (-1), 1) := by decide +kernel
theorem dX7_again_70 : decode cX7_again 70 = .ok (.istore_n 3, 1) := by decide +kernel
theorem dX7_again_71 : decode cX7_again 71 = .ok (.iload_n 2, 1) := by decide +kernel
theorem dX7_again_72 : decode cX7_again 72 = .ok (.ifCond .ne 8, 3) := by decide +kernel
theorem dX7_again_75 : decode cX7_again 75 = .ok (.iload 5, 2) := by decide +kernel
theorem dX7_again_77 : decode cX7_again 77 = .ok (.ifCond .ne 7, 3) := by decide +kernel
theorem dX7_again_80 : decode cX7_again 80 = .ok (.iconst 1, 1) := by decide +kernel
theorem dX7_again_81 : decode cX7_again 81 = .ok (.goto 4, 3) := by decide +kernel
theorem dX7_again_84 : decode cX7_again 84 = .ok (.iconst 0, 1) := by decide +kernel
theorem dX7_again_85 : decode cX7_again 85 = .ok (.istore_n 2, 1) := by decide +kernel
theorem dX7_again_86 : decode cX7_again 86 = .ok (.iinc 4 1, 3) := by decide +kernel
theorem dX7_again_89 : decode cX7_again 89 = .ok (.goto (-57), 3) := by decide +kernel
theorem dX7_again_92 : decode cX7_again 92 = .ok (.aload_n 0, 1) := by decide +kernel
theorem dX7_again_93 : decode cX7_again 93 = .ok (.aload_n 0, 1) := by decide +kernel
theorem dX7_again_94 : decode cX7_again 94 = .ok (.iload_n 3, 1) := by decide +kernel
theorem dX7_again_95 : decode cX7_again 95 = .ok (.invokevirtual 186, 3) := by decide +kernel
theorem dX7_again_98 : decode cX7_again 98 = .ok (.invokevirtual 189, 3) := by decide +kernel
theorem dX7_again_101 : decode cX7_again 101 = .ok (.ireturn, 1) := by decide +kernel
theorem dX7_bestOf_0 : decode cX7_bestOf 0 = .ok (.iload_n 1, 1) := by decide +kernel
theorem dX7_bestOf_1 : decode cX7_bestOf 1 = .ok (.iload_n 2, 1) := by decide +kernel
theorem dX7_bestOf_2 : decode cX7_bestOf 2 = .ok (.invokestatic 135, 3) := by decide +kernel
theorem dX7_bestOf_5 : decode cX7_bestOf 5 = .ok (.istore 4, 2) := by decide +kernel
theorem dX7_bestOf_7 : decode cX7_bestOf 7 = .ok (.aload_n 0, 1) := by decide +kernel
theorem dX7_bestOf_8 : decode cX7_bestOf 8 = .ok (.getfield 9, 3) := by decide +kernel
theorem dX7_bestOf_11 : decode cX7_bestOf 11 = .ok (.iload 4, 2) := by decide +kernel
theorem dX7_bestOf_13 : decode cX7_bestOf 13 = .ok (.iaload, 1) := by decide +kernel
theorem dX7_bestOf_14 : decode cX7_bestOf 14 = .ok (.istore 5, 2) := by decide +kernel
theorem dX7_bestOf_16 : decode cX7_bestOf 16 = .ok (.iconst (-1), 1) := by decide +kernel
theorem dX7_bestOf_17 : decode cX7_bestOf 17 = .ok (.istore 6, 2) := by decide +kernel
theorem dX7_bestOf_19 : decode cX7_bestOf 19 = .ok (.bipush 101, 2) := by decide +kernel
theorem dX7_bestOf_21 : decode cX7_bestOf 21 = .ok (.istore 7, 2) := by decide +kernel
theorem dX7_bestOf_23 : decode cX7_bestOf 23 = .ok (.iconst 0, 1) := by decide +kernel
theorem dX7_bestOf_24 : decode cX7_bestOf 24 = .ok (.istore 8, 2) := by decide +kernel
theorem dX7_bestOf_26 : decode cX7_bestOf 26 = .ok (.iload 8, 2) := by decide +kernel
theorem dX7_bestOf_28 : decode cX7_bestOf 28 = .ok (.iload_n 3, 1) := by decide +kernel
theorem dX7_bestOf_29 : decode cX7_bestOf 29 = .ok (.if_icmp .gt 79, 3) := by decide +kernel
theorem dX7_bestOf_32 : decode cX7_bestOf 32 = .ok (.aload_n 0, 1) := by decide +kernel
theorem dX7_bestOf_33 : decode cX7_bestOf 33 = .ok (.getfield 9, 3) := by decide +kernel
theorem dX7_bestOf_36 : decode cX7_bestOf 36 = .ok (.iload 4, 2) := by decide +kernel
theorem dX7_bestOf_38 : decode cX7_bestOf 38 = .ok (.iload 8, 2) := by decide +kernel
theorem dX7_bestOf_40 : decode cX7_bestOf 40 = .ok (.iastore, 1) := by decide +kernel
theorem dX7_bestOf_41 : decode cX7_bestOf 41 = .ok (.aload_n 0, 1) := by decide +kernel
theorem dX7_bestOf_42 : decode cX7_bestOf 42 = .ok (.aload_n 0, 1) := by decide +kernel
theorem dX7_bestOf_43 : decode cX7_bestOf 43 = .ok (.iload_n 1, 1) := by decide +kernel
theorem dX7_bestOf_44 : decode cX7_bestOf 44 = .ok (.iconst 1, 1) := by decide +kernel
theorem dX7_bestOf_45 : decode cX7_bestOf 45 = .ok (.invokevirtual 120, 3) := by decide +kernel
theorem dX7_bestOf_48 : decode cX7_bestOf 48 = .ok (.bipush 100, 2) := by decide +kernel
theorem dX7_bestOf_50 : decode cX7_bestOf 50 = .ok (.invokevirtual 195, 3) := by decide +kernel
theorem dX7_bestOf_53 : decode cX7_bestOf 53 = .ok (.istore 9, 2) := by decide +kernel
theorem dX7_bestOf_55 : decode cX7_bestOf 55 = .ok (.iload 9, 2) := by decide +kernel
theorem dX7_bestOf_57 : decode cX7_bestOf 57 = .ok (.ifCond .lt 14, 3) := by decide +kernel
theorem dX7_bestOf_60 : decode cX7_bestOf 60 = .ok (.iload 9, 2) := by decide +kernel
theorem dX7_bestOf_62 : decode cX7_bestOf 62 = .ok (.iload 7, 2) := by decide +kernel
theorem dX7_bestOf_64 : decode cX7_bestOf 64 = .ok (.if_icmp .ge 7, 3) := by decide +kernel
theorem dX7_bestOf_67 : decode cX7_bestOf 67 = .ok (.iconst 1, 1) := by decide +kernel
theorem dX7_bestOf_68 : decode cX7_bestOf 68 = .ok (.goto 4, 3) := by decide +kernel
theorem dX7_bestOf_71 : decode cX7_bestOf 71 = .ok (.iconst 0, 1) := by decide +kernel
theorem dX7_bestOf_72 : decode cX7_bestOf 72 = .ok (.istore 10, 2) := by decide +kernel
theorem dX7_bestOf_74 : decode cX7_bestOf 74 = .ok (.iload 10, 2) := by decide +kernel
theorem dX7_bestOf_76 : decode cX7_bestOf 76 = .ok (.ifCond .eq 8, 3) := by decide +kernel
theorem dX7_bestOf_79 : decode cX7_bestOf 79 = .ok (.iload 8, 2) := by decide +kernel
theorem dX7_bestOf_81 : decode cX7_bestOf 81 = .ok (.goto 5, 3) := by decide +kernel
theorem dX7_bestOf_84 : decode cX7_bestOf 84 = .ok (.iload 6, 2) := by decide +kernel
theorem dX7_bestOf_86 : decode cX7_bestOf 86 = .ok (.istore 6, 2) := by decide +kernel
theorem dX7_bestOf_88 : decode cX7_bestOf 88 = .ok (.iload 10, 2) := by decide +kernel
theorem dX7_bestOf_90 : decode cX7_bestOf 90 = .ok (.ifCond .eq 8, 3) := by decide +kernel
theorem dX7_bestOf_93 : decode cX7_bestOf 93 = .ok (.iload 9, 2) := by decide +kernel
theorem dX7_bestOf_95 : decode cX7_bestOf 95 = .ok (.goto 5, 3) := by decide +kernel
theorem dX7_bestOf_98 : decode cX7_bestOf 98 = .ok (.iload 7, 2) := by decide +kernel
theorem dX7_bestOf_100 : decode cX7_bestOf 100 = .ok (.istore 7, 2) := by decide +kernel
theorem dX7_bestOf_102 : decode cX7_bestOf 102 = .ok (.iinc 8 1, 3) := by decide +kernel
theorem dX7_bestOf_105 : decode cX7_bestOf 105 = .ok (.goto (-79), 3) := by decide +kernel
theorem dX7_bestOf_108 : decode cX7_bestOf 108 = .ok (.aload_n 0, 1) := by decide +kernel
theorem dX7_bestOf_109 : decode cX7_bestOf 109 = .ok (.getfield 9, 3) := by decide +kernel
theorem dX7_bestOf_112 : decode cX7_bestOf 112 = .ok (.iload 4, 2) := by decide +kernel
theorem dX7_bestOf_114 : decode cX7_bestOf 114 = .ok (.iload 5, 2) := by decide +kernel
theorem dX7_bestOf_116 : decode cX7_bestOf 116 = .ok (.iastore, 1) := by decide +kernel
theorem dX7_bestOf_117 : decode cX7_bestOf 117 = .ok (.iload 6, 2) := by decide +kernel
theorem dX7_bestOf_119 : decode cX7_bestOf 119 = .ok (.ireturn, 1) := by decide +kernel
theorem dX7_key_0 : decode cX7_key 0 = .ok (.aload_n 0, 1) := by decide +kernel
theorem dX7_key_1 : decode cX7_key 1 = .ok (.iload_n 1, 1) := by decide +kernel
theorem dX7_key_2 : decode cX7_key 2 = .ok (.invokevirtual 155, 3) := by decide +kernel
theorem dX7_key_5 : decode cX7_key 5 = .ok (.ifCond .eq 18, 3) := by decide +kernel
theorem dX7_key_8 : decode cX7_key 8 = .ok (.aload_n 0, 1) := by decide +kernel
theorem dX7_key_9 : decode cX7_key 9 = .ok (.aload_n 0, 1) := by decide +kernel
theorem dX7_key_10 : decode cX7_key 10 = .ok (.iload_n 1, 1) := by decide +kernel
theorem dX7_key_11 : decode cX7_key 11 = .ok (.iconst 2, 1) := by decide +kernel
theorem dX7_key_12 : decode cX7_key 12 = .ok (.bipush 11, 2) := by decide +kernel
theorem dX7_key_14 : decode cX7_key 14 = .ok (.invokevirtual 201, 3) := by decide +kernel
theorem dX7_key_17 : decode cX7_key 17 = .ok (.invokevirtual 189, 3) := by decide +kernel
theorem dX7_key_20 : decode cX7_key 20 = .ok (.goto 9, 3) := by decide +kernel
theorem dX7_key_23 : decode cX7_key 23 = .ok (.aload_n 0, 1) := by decide +kernel
theorem dX7_key_24 : decode cX7_key 24 = .ok (.ldc 71, 2) := by decide +kernel
theorem dX7_key_26 : decode cX7_key 26 = .ok (.invokevirtual 77, 3) := by decide +kernel
theorem dX7_key_29 : decode cX7_key 29 = .ok (.ireturn, 1) := by decide +kernel
theorem dX7_kind_0 : decode cX7_kind 0 = .ok (.aload_n 0, 1) := by decide +kernel
theorem dX7_kind_1 : decode cX7_kind 1 = .ok (.iload_n 1, 1) := by decide +kernel
theorem dX7_kind_2 : decode cX7_kind 2 = .ok (.invokevirtual 155, 3) := by decide +kernel
theorem dX7_kind_5 : decode cX7_kind 5 = .ok (.ifCond .eq 17, 3) := by decide +kernel
theorem dX7_kind_8 : decode cX7_kind 8 = .ok (.aload_n 0, 1) := by decide +kernel
theorem dX7_kind_9 : decode cX7_kind 9 = .ok (.aload_n 0, 1) := by decide +kernel
theorem dX7_kind_10 : decode cX7_kind 10 = .ok (.iload_n 1, 1) := by decide +kernel
theorem dX7_kind_11 : decode cX7_kind 11 = .ok (.iconst 0, 1) := by decide +kernel
theorem dX7_kind_12 : decode cX7_kind 12 = .ok (.iconst 5, 1) := by decide +kernel
theorem dX7_kind_13 : decode cX7_kind 13 = .ok (.invokevirtual 201, 3) := by decide +kernel
theorem dX7_kind_16 : decode cX7_kind 16 = .ok (.invokevirtual 189, 3) := by decide +kernel
theorem dX7_kind_19 : decode cX7_kind 19 = .ok (.goto 9, 3) := by decide +kernel
theorem dX7_kind_22 : decode cX7_kind 22 = .ok (.aload_n 0, 1) := by decide +kernel
theorem dX7_kind_23 : decode cX7_kind 23 = .ok (.ldc 71, 2) := by decide +kernel
theorem dX7_kind_25 : decode cX7_kind 25 = .ok (.invokevirtual 77, 3) := by decide +kernel
theorem dX7_kind_28 : decode cX7_kind 28 = .ok (.ireturn, 1) := by decide +kernel
theorem dX7_blot_0 : decode cX7_blot 0 = .ok (.aload_n 0, 1) := by decide +kernel
theorem dX7_blot_1 : decode cX7_blot 1 = .ok (.iload_n 1, 1) := by decide +kernel
theorem dX7_blot_2 : decode cX7_blot 2 = .ok (.invokevirtual 155, 3) := by decide +kernel
theorem dX7_blot_5 : decode cX7_blot 5 = .ok (.ifCond .eq 10, 3) := by decide +kernel
theorem dX7_blot_8 : decode cX7_blot 8 = .ok (.iload_n 2, 1) := by decide +kernel
theorem dX7_blot_9 : decode cX7_blot 9 = .ok (.invokestatic 91, 3) := by decide +kernel
theorem dX7_blot_12 : decode cX7_blot 12 = .ok (.ifCond .ne 10, 3) := by decide +kernel
theorem dX7_blot_15 : decode cX7_blot 15 = .ok (.aload_n 0, 1) := by decide +kernel
theorem dX7_blot_16 : decode cX7_blot 16 = .ok (.ldc 71, 2) := by decide +kernel
theorem dX7_blot_18 : decode cX7_blot 18 = .ok (.invokevirtual 77, 3) := by decide +kernel
theorem dX7_blot_21 : decode cX7_blot 21 = .ok (.ireturn, 1) := by decide +kernel
theorem dX7_blot_22 : decode cX7_blot 22 = .ok (.iload_n 1, 1) := by decide +kernel
theorem dX7_blot_23 : decode cX7_blot 23 = .ok (.iconst 3, 1) := by decide +kernel
theorem dX7_blot_24 : decode cX7_blot 24 = .ok (.invokestatic 135, 3) := by decide +kernel
theorem dX7_blot_27 : decode cX7_blot 27 = .ok (.istore_n 3, 1) := by decide +kernel
theorem dX7_blot_28 : decode cX7_blot 28 = .ok (.aload_n 0, 1) := by decide +kernel
theorem dX7_blot_29 : decode cX7_blot 29 = .ok (.iload_n 2, 1) := by decide +kernel
theorem dX7_blot_30 : decode cX7_blot 30 = .ok (.bipush 100, 2) := by decide +kernel
theorem dX7_blot_32 : decode cX7_blot 32 = .ok (.invokevirtual 195, 3) := by decide +kernel
theorem dX7_blot_35 : decode cX7_blot 35 = .ok (.istore 4, 2) := by decide +kernel
theorem dX7_blot_37 : decode cX7_blot 37 = .ok (.iload 4, 2) := by decide +kernel
theorem dX7_blot_39 : decode cX7_blot 39 = .ok (.ifCond .ge 8, 3) := by decide +kernel
theorem dX7_blot_42 : decode cX7_blot 42 = .ok (.bipush 101, 2) := by decide +kernel
theorem dX7_blot_44 : decode cX7_blot 44 = .ok (.goto 5, 3) := by decide +kernel
theorem dX7_blot_47 : decode cX7_blot 47 = .ok (.iload 4, 2) := by decide +kernel
theorem dX7_blot_49 : decode cX7_blot 49 = .ok (.istore 5, 2) := by decide +kernel
theorem dX7_blot_51 : decode cX7_blot 51 = .ok (.iconst (-1), 1) := by decide +kernel
theorem dX7_blot_52 : decode cX7_blot 52 = .ok (.istore 6, 2) := by decide +kernel
theorem dX7_blot_54 : decode cX7_blot 54 = .ok (.iconst 0, 1) := by decide +kernel
theorem dX7_blot_55 : decode cX7_blot 55 = .ok (.istore 7, 2) := by decide +kernel
theorem dX7_blot_57 : decode cX7_blot 57 = .ok (.iload 7, 2) := by decide +kernel
theorem dX7_blot_59 : decode cX7_blot 59 = .ok (.bipush 12, 2) := by decide +kernel
theorem dX7_blot_61 : decode cX7_blot 61 = .ok (.if_icmp .ge 91, 3) := by decide +kernel
theorem dX7_blot_64 : decode cX7_blot 64 = .ok (.aload_n 0, 1) := by decide +kernel
theorem dX7_blot_65 : decode cX7_blot 65 = .ok (.getfield 9, 3) := by decide +kernel
theorem dX7_blot_68 : decode cX7_blot 68 = .ok (.iload_n 3, 1) := by decide +kernel
theorem dX7_blot_69 : decode cX7_blot 69 = .ok (.dup2, 1) := by decide +kernel
theorem dX7_blot_70 : decode cX7_blot 70 = .ok (.iaload, 1) := by decide +kernel
theorem dX7_blot_71 : decode cX7_blot 71 = .ok (.iconst 1, 1) := by decide +kernel
theorem dX7_blot_72 : decode cX7_blot 72 = .ok (.iload 7, 2) := by decide +kernel
theorem dX7_blot_74 : decode cX7_blot 74 = .ok (.ishl, 1) := by decide +kernel
theorem dX7_blot_75 : decode cX7_blot 75 = .ok (.ixor, 1) := by decide +kernel
theorem dX7_blot_76 : decode cX7_blot 76 = .ok (.iastore, 1) := by decide +kernel
theorem dX7_blot_77 : decode cX7_blot 77 = .ok (.aload_n 0, 1) := by decide +kernel
theorem dX7_blot_78 : decode cX7_blot 78 = .ok (.iload_n 2, 1) := by decide +kernel
theorem dX7_blot_79 : decode cX7_blot 79 = .ok (.bipush 100, 2) := by decide +kernel
theorem dX7_blot_81 : decode cX7_blot 81 = .ok (.invokevirtual 195, 3) := by decide +kernel
theorem dX7_blot_84 : decode cX7_blot 84 = .ok (.istore 8, 2) := by decide +kernel
theorem dX7_blot_86 : decode cX7_blot 86 = .ok (.aload_n 0, 1) := by decide +kernel
theorem dX7_blot_87 : decode cX7_blot 87 = .ok (.getfield 9, 3) := by decide +kernel
theorem dX7_blot_90 : decode cX7_blot 90 = .ok (.iload_n 3, 1) := by decide +kernel
theorem dX7_blot_91 : decode cX7_blot 91 = .ok (.dup2, 1) := by decide +kernel
theorem dX7_blot_92 : decode cX7_blot 92 = .ok (.iaload, 1) := by decide +kernel
theorem dX7_blot_93 : decode cX7_blot 93 = .ok (.iconst 1, 1) := by decide +kernel
theorem dX7_blot_94 : decode cX7_blot 94 = .ok (.iload 7, 2) := by decide +kernel
theorem dX7_blot_96 : decode cX7_blot 96 = .ok (.ishl, 1) := by decide +kernel
theorem dX7_blot_97 : decode cX7_blot 97 = .ok (.ixor, 1) := by decide +kernel
theorem dX7_blot_98 : decode cX7_blot 98 = .ok (.iastore, 1) := by decide +kernel
theorem dX7_blot_99 : decode cX7_blot 99 = .ok (.iload 8, 2) := by decide +kernel
theorem dX7_blot_101 : decode cX7_blot 101 = .ok (.ifCond .lt 14, 3) := by decide +kernel
theorem dX7_blot_104 : decode cX7_blot 104 = .ok (.iload 8, 2) := by decide +kernel
theorem dX7_blot_106 : decode cX7_blot 106 = .ok (.iload 5, 2) := by decide +kernel
theorem dX7_blot_108 : decode cX7_blot 108 = .ok (.if_icmp .ge 7, 3) := by decide +kernel
theorem dX7_blot_111 : decode cX7_blot 111 = .ok (.iconst 1, 1) := by decide +kernel
theorem dX7_blot_112 : decode cX7_blot 112 = .ok (.goto 4, 3) := by decide +kernel
theorem dX7_blot_115 : decode cX7_blot 115 = .ok (.iconst 0, 1) := by decide +kernel
theorem dX7_blot_116 : decode cX7_blot 116 = .ok (.istore 9, 2) := by decide +kernel
theorem dX7_blot_118 : decode cX7_blot 118 = .ok (.iload 9, 2) := by decide +kernel
theorem dX7_blot_120 : decode cX7_blot 120 = .ok (.ifCond .eq 8, 3) := by decide +kernel
theorem dX7_blot_123 : decode cX7_blot 123 = .ok (.iload 7, 2) := by decide +kernel
theorem dX7_blot_125 : decode cX7_blot 125 = .ok (.goto 5, 3) := by decide +kernel
theorem dX7_blot_128 : decode cX7_blot 128 = .ok (.iload 6, 2) := by decide +kernel
theorem dX7_blot_130 : decode cX7_blot 130 = .ok (.istore 6, 2) := by decide +kernel
theorem dX7_blot_132 : decode cX7_blot 132 = .ok (.iload 9, 2) := by decide +kernel
theorem dX7_blot_134 : decode cX7_blot 134 = .ok (.ifCond .eq 8, 3) := by decide +kernel
theorem dX7_blot_137 : decode cX7_blot 137 = .ok (.iload 8, 2) := by decide +kernel
theorem dX7_blot_139 : decode cX7_blot 139 = .ok (.goto 5, 3) := by decide +kernel
theorem dX7_blot_142 : decode cX7_blot 142 = .ok (.iload 5, 2) := by decide +kernel
theorem dX7_blot_144 : decode cX7_blot 144 = .ok (.istore 5, 2) := by decide +kernel
theorem dX7_blot_146 : decode cX7_blot 146 = .ok (.iinc 7 1, 3) := by decide +kernel
theorem dX7_blot_149 : decode cX7_blot 149 = .ok (.goto (-92), 3) := by decide +kernel
theorem dX7_blot_152 : decode cX7_blot 152 = .ok (.aload_n 0, 1) := by decide +kernel
theorem dX7_blot_153 : decode cX7_blot 153 = .ok (.iload 6, 2) := by decide +kernel
theorem dX7_blot_155 : decode cX7_blot 155 = .ok (.invokevirtual 189, 3) := by decide +kernel
theorem dX7_blot_158 : decode cX7_blot 158 = .ok (.ireturn, 1) := by decide +kernel
theorem dX7_calm_0 : decode cX7_calm 0 = .ok (.aload_n 0, 1) := by decide +kernel
theorem dX7_calm_1 : decode cX7_calm 1 = .ok (.iload_n 1, 1) := by decide +kernel
theorem dX7_calm_2 : decode cX7_calm 2 = .ok (.invokevirtual 155, 3) := by decide +kernel
theorem dX7_calm_5 : decode cX7_calm 5 = .ok (.ifCond .eq 20, 3) := by decide +kernel
theorem dX7_calm_8 : decode cX7_calm 8 = .ok (.iload_n 2, 1) := by decide +kernel
theorem dX7_calm_9 : decode cX7_calm 9 = .ok (.invokestatic 91, 3) := by decide +kernel
theorem dX7_calm_12 : decode cX7_calm 12 = .ok (.ifCond .eq 13, 3) := by decide +kernel
theorem dX7_calm_15 : decode cX7_calm 15 = .ok (.iload_n 3, 1) := by decide +kernel
theorem dX7_calm_16 : decode cX7_calm 16 = .ok (.iconst 0, 1) := by decide +kernel
theorem dX7_calm_17 : decode cX7_calm 17 = .ok (.bipush 20, 2) := by decide +kernel
theorem dX7_calm_19 : decode cX7_calm 19 = .ok (.invokestatic 81, 3) := by decide +kernel
theorem dX7_calm_22 : decode cX7_calm 22 = .ok (.ifCond .ne 10, 3) := by decide +kernel
theorem dX7_calm_25 : decode cX7_calm 25 = .ok (.aload_n 0, 1) := by decide +kernel
theorem dX7_calm_26 : decode cX7_calm 26 = .ok (.ldc 71, 2) := by decide +kernel
theorem dX7_calm_28 : decode cX7_calm 28 = .ok (.invokevirtual 77, 3) := by decide +kernel
theorem dX7_calm_31 : decode cX7_calm 31 = .ok (.ireturn, 1) := by decide +kernel
theorem dX7_calm_32 : decode cX7_calm 32 = .ok (.iload_n 1, 1) := by decide +kernel
theorem dX7_calm_33 : decode cX7_calm 33 = .ok (.iconst 2, 1) := by decide +kernel
theorem dX7_calm_34 : decode cX7_calm 34 = .ok (.invokestatic 135, 3) := by decide +kernel
theorem dX7_calm_37 : decode cX7_calm 37 = .ok (.istore 4, 2) := by decide +kernel
theorem dX7_calm_39 : decode cX7_calm 39 = .ok (.aload_n 0, 1) := by decide +kernel
theorem dX7_calm_40 : decode cX7_calm 40 = .ok (.getfield 9, 3) := by decide +kernel
theorem dX7_calm_43 : decode cX7_calm 43 = .ok (.iload 4, 2) := by decide +kernel
theorem dX7_calm_45 : decode cX7_calm 45 = .ok (.iaload, 1) := by decide +kernel
theorem dX7_calm_46 : decode cX7_calm 46 = .ok (.istore 5, 2) := by decide +kernel
theorem dX7_calm_48 : decode cX7_calm 48 = .ok (.iconst 0, 1) := by decide +kernel
theorem dX7_calm_49 : decode cX7_calm 49 = .ok (.istore 6, 2) := by decide +kernel
theorem dX7_calm_51 : decode cX7_calm 51 = .ok (.bipush 12, 2) := by decide +kernel
theorem dX7_calm_53 : decode cX7_calm 53 = .ok (.istore 7, 2) := by decide +kernel
theorem dX7_calm_55 : decode cX7_calm 55 = .ok (.iconst 0, 1) := by decide +kernel
theorem dX7_calm_56 : decode cX7_calm 56 = .ok (.istore 8, 2) := by decide +kernel
theorem dX7_calm_58 : decode cX7_calm 58 = .ok (.iload 8, 2) := by decide +kernel
theorem dX7_calm_60 : decode cX7_calm 60 = .ok (.bipush 12, 2) := by decide +kernel
theorem dX7_calm_62 : decode cX7_calm 62 = .ok (.if_icmp .ge 51, 3) := by decide +kernel
theorem dX7_calm_65 : decode cX7_calm 65 = .ok (.aload_n 0, 1) := by decide +kernel
theorem dX7_calm_66 : decode cX7_calm 66 = .ok (.getfield 9, 3) := by decide +kernel
theorem dX7_calm_69 : decode cX7_calm 69 = .ok (.iload 4, 2) := by decide +kernel
theorem dX7_calm_71 : decode cX7_calm 71 = .ok (.iload 8, 2) := by decide +kernel
theorem dX7_calm_73 : decode cX7_calm 73 = .ok (.iastore, 1) := by decide +kernel
theorem dX7_calm_74 : decode cX7_calm 74 = .ok (.aload_n 0, 1) := by decide +kernel
theorem dX7_calm_75 : decode cX7_calm 75 = .ok (.iload_n 2, 1) := by decide +kernel
theorem dX7_calm_76 : decode cX7_calm 76 = .ok (.iload_n 3, 1) := by decide +kernel
theorem dX7_calm_77 : decode cX7_calm 77 = .ok (.invokevirtual 192, 3) := by decide +kernel
theorem dX7_calm_80 : decode cX7_calm 80 = .ok (.istore 9, 2) := by decide +kernel
theorem dX7_calm_82 : decode cX7_calm 82 = .ok (.iload 9, 2) := by decide +kernel
theorem dX7_calm_84 : decode cX7_calm 84 = .ok (.iload 7, 2) := by decide +kernel
theorem dX7_calm_86 : decode cX7_calm 86 = .ok (.if_icmp .ge 8, 3) := by decide +kernel
theorem dX7_calm_89 : decode cX7_calm 89 = .ok (.iload 8, 2) := by decide +kernel
theorem dX7_calm_91 : decode cX7_calm 91 = .ok (.goto 5, 3) := by decide +kernel
theorem dX7_calm_94 : decode cX7_calm 94 = .ok (.iload 6, 2) := by decide +kernel
theorem dX7_calm_96 : decode cX7_calm 96 = .ok (.istore 6, 2) := by decide +kernel
theorem dX7_calm_98 : decode cX7_calm 98 = .ok (.iload 7, 2) := by decide +kernel
theorem dX7_calm_100 : decode cX7_calm 100 = .ok (.iload 9, 2) := by decide +kernel
theorem dX7_calm_102 : decode cX7_calm 102 = .ok (.invokestatic 110, 3) := by decide +kernel
theorem dX7_calm_105 : decode cX7_calm 105 = .ok (.istore 7, 2) := by decide +kernel
theorem dX7_calm_107 : decode cX7_calm 107 = .ok (.iinc 8 1, 3) := by decide +kernel
theorem dX7_calm_110 : decode cX7_calm 110 = .ok (.goto (-52), 3) := by decide +kernel
theorem dX7_calm_113 : decode cX7_calm 113 = .ok (.aload_n 0, 1) := by decide +kernel
theorem dX7_calm_114 : decode cX7_calm 114 = .ok (.getfield 9, 3) := by decide +kernel
theorem dX7_calm_117 : decode cX7_calm 117 = .ok (.iload 4, 2) := by decide +kernel
theorem dX7_calm_119 : decode cX7_calm 119 = .ok (.iload 5, 2) := by decide +kernel
theorem dX7_calm_121 : decode cX7_calm 121 = .ok (.iastore, 1) := by decide +kernel
theorem dX7_calm_122 : decode cX7_calm 122 = .ok (.bipush 100, 2) := by decide +kernel
theorem dX7_calm_124 : decode cX7_calm 124 = .ok (.iload 6, 2) := by decide +kernel
theorem dX7_calm_126 : decode cX7_calm 126 = .ok (.imul, 1) := by decide +kernel
theorem dX7_calm_127 : decode cX7_calm 127 = .ok (.iload 7, 2) := by decide +kernel
theorem dX7_calm_129 : decode cX7_calm 129 = .ok (.iadd, 1) := by decide +kernel
theorem dX7_calm_130 : decode cX7_calm 130 = .ok (.ireturn, 1) := by decide +kernel
theorem dX7_changeSides_0 : decode cX7_changeSides 0 = .ok (.aload_n 0, 1) := by decide +kernel
theorem dX7_changeSides_1 : decode cX7_changeSides 1 = .ok (.getfield 9, 3) := by decide +kernel
theorem dX7_changeSides_4 : decode cX7_changeSides 4 = .ok (.iload_n 1, 1) := by decide +kernel
theorem dX7_changeSides_5 : decode cX7_changeSides 5 = .ok (.iconst 1, 1) := by decide +kernel
theorem dX7_changeSides_6 : decode cX7_changeSides 6 = .ok (.invokestatic 135, 3) := by decide +kernel
theorem dX7_changeSides_9 : decode cX7_changeSides 9 = .ok (.iconst 1, 1) := by decide +kernel
theorem dX7_changeSides_10 : decode cX7_changeSides 10 = .ok (.aload_n 0, 1) := by decide +kernel
theorem dX7_changeSides_11 : decode cX7_changeSides 11 = .ok (.iload_n 1, 1) := by decide +kernel
theorem dX7_changeSides_12 : decode cX7_changeSides 12 = .ok (.iconst 1, 1) := by decide +kernel
theorem dX7_changeSides_13 : decode cX7_changeSides 13 = .ok (.invokevirtual 120, 3) := by decide +kernel
theorem dX7_changeSides_16 : decode cX7_changeSides 16 = .ok (.isub, 1) := by decide +kernel
theorem dX7_changeSides_17 : decode cX7_changeSides 17 = .ok (.iastore, 1) := by decide +kernel
theorem dX7_changeSides_18 : decode cX7_changeSides 18 = .ok (.aload_n 0, 1) := by decide +kernel
theorem dX7_changeSides_19 : decode cX7_changeSides 19 = .ok (.getfield 9, 3) := by decide +kernel
theorem dX7_changeSides_22 : decode cX7_changeSides 22 = .ok (.iload_n 2, 1) := by decide +kernel
theorem dX7_changeSides_23 : decode cX7_changeSides 23 = .ok (.iconst 1, 1) := by decide +kernel
theorem dX7_changeSides_24 : decode cX7_changeSides 24 = .ok (.invokestatic 135, 3) := by decide +kernel
theorem dX7_changeSides_27 : decode cX7_changeSides 27 = .ok (.iconst 1, 1) := by decide +kernel
theorem dX7_changeSides_28 : decode cX7_changeSides 28 = .ok (.aload_n 0, 1) := by decide +kernel
theorem dX7_changeSides_29 : decode cX7_changeSides 29 = .ok (.iload_n 2, 1) := by decide +kernel
theorem dX7_changeSides_30 : decode cX7_changeSides 30 = .ok (.iconst 1, 1) := by decide +kernel
theorem dX7_changeSides_31 : decode cX7_changeSides 31 = .ok (.invokevirtual 120, 3) := by decide +kernel
theorem dX7_changeSides_34 : decode cX7_changeSides 34 = .ok (.isub, 1) := by decide +kernel
theorem dX7_changeSides_35 : decode cX7_changeSides 35 = .ok (.iastore, 1) := by decide +kernel
theorem dX7_changeSides_36 : decode cX7_changeSides 36 = .ok (.return_, 1) := by decide +kernel
theorem dX7_swap_0 : decode cX7_swap 0 = .ok (.iconst (-1), 1) := by decide +kernel
theorem dX7_swap_1 : decode cX7_swap 1 = .ok (.istore_n 1, 1) := by decide +kernel
theorem dX7_swap_2 : decode cX7_swap 2 = .ok (.bipush 101, 2) := by decide +kernel
theorem dX7_swap_4 : decode cX7_swap 4 = .ok (.istore_n 2, 1) := by decide +kernel
theorem dX7_swap_5 : decode cX7_swap 5 = .ok (.iconst 0, 1) := by decide +kernel
theorem dX7_swap_6 : decode cX7_swap 6 = .ok (.istore_n 3, 1) := by decide +kernel
theorem dX7_swap_7 : decode cX7_swap 7 = .ok (.iload_n 3, 1) := by decide +kernel
theorem dX7_swap_8 : decode cX7_swap 8 = .ok (.aload_n 0, 1) := by decide +kernel
theorem dX7_swap_9 : decode cX7_swap 9 = .ok (.getfield 9, 3) := by decide +kernel
theorem dX7_swap_12 : decode cX7_swap 12 = .ok (.iconst 1, 1) := by decide +kernel
theorem dX7_swap_13 : decode cX7_swap 13 = .ok (.iaload, 1) := by decide +kernel
theorem dX7_swap_14 : decode cX7_swap 14 = .ok (.if_icmp .ge 117, 3) := by decide +kernel
theorem dX7_swap_17 : decode cX7_swap 17 = .ok (.iload_n 3, 1) := by decide +kernel
theorem dX7_swap_18 : decode cX7_swap 18 = .ok (.iconst 1, 1) := by decide +kernel
theorem dX7_swap_19 : decode cX7_swap 19 = .ok (.iadd, 1) := by decide +kernel
theorem dX7_swap_20 : decode cX7_swap 20 = .ok (.istore 4, 2) := by decide +kernel
theorem dX7_swap_22 : decode cX7_swap 22 = .ok (.iload 4, 2) := by decide +kernel
theorem dX7_swap_24 : decode cX7_swap 24 = .ok (.aload_n 0, 1) := by decide +kernel
theorem dX7_swap_25 : decode cX7_swap 25 = .ok (.getfield 9, 3) := by decide +kernel
theorem dX7_swap_28 : decode cX7_swap 28 = .ok (.iconst 1, 1) := by decide +kernel
theorem dX7_swap_29 : decode cX7_swap 29 = .ok (.iaload, 1) := by decide +kernel
theorem dX7_swap_30 : decode cX7_swap 30 = .ok (.if_icmp .ge 95, 3) := by decide +kernel
theorem dX7_swap_33 : decode cX7_swap 33 = .ok (.aload_n 0, 1) := by decide +kernel
theorem dX7_swap_34 : decode cX7_swap 34 = .ok (.iload_n 3, 1) := by decide +kernel
theorem dX7_swap_35 : decode cX7_swap 35 = .ok (.iconst 1, 1) := by decide +kernel
theorem dX7_swap_36 : decode cX7_swap 36 = .ok (.invokevirtual 120, 3) := by decide +kernel
theorem dX7_swap_39 : decode cX7_swap 39 = .ok (.aload_n 0, 1) := by decide +kernel
theorem dX7_swap_40 : decode cX7_swap 40 = .ok (.iload 4, 2) := by decide +kernel
theorem dX7_swap_42 : decode cX7_swap 42 = .ok (.iconst 1, 1) := by decide +kernel
theorem dX7_swap_43 : decode cX7_swap 43 = .ok (.invokevirtual 120, 3) := by decide +kernel
theorem dX7_swap_46 : decode cX7_swap 46 = .ok (.if_icmp .eq 73, 3) := by decide +kernel
theorem dX7_swap_49 : decode cX7_swap 49 = .ok (.aload_n 0, 1) := by decide +kernel
theorem dX7_swap_50 : decode cX7_swap 50 = .ok (.iload_n 3, 1) := by decide +kernel
theorem dX7_swap_51 : decode cX7_swap 51 = .ok (.iload 4, 2) := by decide +kernel
theorem dX7_swap_53 : decode cX7_swap 53 = .ok (.invokevirtual 205, 3) := by decide +kernel
theorem dX7_swap_56 : decode cX7_swap 56 = .ok (.aload_n 0, 1) := by decide +kernel
theorem dX7_swap_57 : decode cX7_swap 57 = .ok (.iconst (-1), 1) := by decide +kernel
theorem dX7_swap_58 : decode cX7_swap 58 = .ok (.bipush 100, 2) := by decide +kernel
theorem dX7_swap_60 : decode cX7_swap 60 = .ok (.invokevirtual 195, 3) := by decide +kernel
theorem dX7_swap_63 : decode cX7_swap 63 = .ok (.istore 5, 2) := by decide +kernel
theorem dX7_swap_65 : decode cX7_swap 65 = .ok (.aload_n 0, 1) := by decide +kernel
theorem dX7_swap_66 : decode cX7_swap 66 = .ok (.iload_n 3, 1) := by decide +kernel
theorem dX7_swap_67 : decode cX7_swap 67 = .ok (.iload 4, 2) := by decide +kernel
theorem dX7_swap_69 : decode cX7_swap 69 = .ok (.invokevirtual 205, 3) := by decide +kernel
theorem dX7_swap_72 : decode cX7_swap 72 = .ok (.iload 5, 2) := by decide +kernel
theorem dX7_swap_74 : decode cX7_swap 74 = .ok (.ifCond .lt 13, 3) := by decide +kernel
theorem dX7_swap_77 : decode cX7_swap 77 = .ok (.iload 5, 2) := by decide +kernel
theorem dX7_swap_79 : decode cX7_swap 79 = .ok (.iload_n 2, 1) := by decide +kernel
theorem dX7_swap_80 : decode cX7_swap 80 = .ok (.if_icmp .ge 7, 3) := by decide +kernel
theorem dX7_swap_83 : decode cX7_swap 83 = .ok (.iconst 1, 1) := by decide +kernel
theorem dX7_swap_84 : decode cX7_swap 84 = .ok (.goto 4, 3) := by decide +kernel
theorem dX7_swap_87 : decode cX7_swap 87 = .ok (.iconst 0, 1) := by decide +kernel
theorem dX7_swap_88 : decode cX7_swap 88 = .ok (.istore 6, 2) := by decide +kernel
theorem dX7_swap_90 : decode cX7_swap 90 = .ok (.iload 6, 2) := by decide +kernel
theorem dX7_swap_92 : decode cX7_swap 92 = .ok (.ifCond .eq 13, 3) := by decide +kernel
theorem dX7_swap_95 : decode cX7_swap 95 = .ok (.bipush 10, 2) := by decide +kernel
theorem dX7_swap_97 : decode cX7_swap 97 = .ok (.iload_n 3, 1) := by decide +kernel
theorem dX7_swap_98 : decode cX7_swap 98 = .ok (.imul, 1) := by decide +kernel
theorem dX7_swap_99 : decode cX7_swap 99 = .ok (.iload 4, 2) := by decide +kernel
theorem dX7_swap_101 : decode cX7_swap 101 = .ok (.iadd, 1) := by decide +kernel
theorem dX7_swap_102 : decode cX7_swap 102 = .ok (.goto 4, 3) := by decide +kernel
theorem dX7_swap_105 : decode cX7_swap 105 = .ok (.iload_n 1, 1) := by decide +kernel
theorem dX7_swap_106 : decode cX7_swap 106 = .ok (.istore_n 1, 1) := by decide +kernel
theorem dX7_swap_107 : decode cX7_swap 107 = .ok (.iload 6, 2) := by decide +kernel
theorem dX7_swap_109 : decode cX7_swap 109 = .ok (.ifCond .eq 8, 3) := by decide +kernel
theorem dX7_swap_112 : decode cX7_swap 112 = .ok (.iload 5, 2) := by decide +kernel
theorem dX7_swap_114 : decode cX7_swap 114 = .ok (.goto 4, 3) := by decide +kernel
theorem dX7_swap_117 : decode cX7_swap 117 = .ok (.iload_n 2, 1) := by decide +kernel
theorem dX7_swap_118 : decode cX7_swap 118 = .ok (.istore_n 2, 1) := by decide +kernel
theorem dX7_swap_119 : decode cX7_swap 119 = .ok (.iinc 4 1, 3) := by decide +kernel
theorem dX7_swap_122 : decode cX7_swap 122 = .ok (.goto (-100), 3) := by decide +kernel
theorem dX7_swap_125 : decode cX7_swap 125 = .ok (.iinc 3 1, 3) := by decide +kernel
theorem dX7_swap_128 : decode cX7_swap 128 = .ok (.goto (-121), 3) := by decide +kernel
theorem dX7_swap_131 : decode cX7_swap 131 = .ok (.aload_n 0, 1) := by decide +kernel
theorem dX7_swap_132 : decode cX7_swap 132 = .ok (.iload_n 1, 1) := by decide +kernel
theorem dX7_swap_133 : decode cX7_swap 133 = .ok (.invokevirtual 189, 3) := by decide +kernel
theorem dX7_swap_136 : decode cX7_swap 136 = .ok (.ireturn, 1) := by decide +kernel
theorem dX7_isHomeOn_0 : decode cX7_isHomeOn 0 = .ok (.aload_n 0, 1) := by decide +kernel
theorem dX7_isHomeOn_1 : decode cX7_isHomeOn 1 = .ok (.getfield 9, 3) := by decide +kernel
theorem dX7_isHomeOn_4 : decode cX7_isHomeOn 4 = .ok (.aload_n 0, 1) := by decide +kernel
theorem dX7_isHomeOn_5 : decode cX7_isHomeOn 5 = .ok (.getfield 16, 3) := by decide +kernel
theorem dX7_isHomeOn_8 : decode cX7_isHomeOn 8 = .ok (.invokestatic 72, 3) := by decide +kernel
theorem dX7_isHomeOn_11 : decode cX7_isHomeOn 11 = .ok (.aload_n 0, 1) := by decide +kernel
theorem dX7_isHomeOn_12 : decode cX7_isHomeOn 12 = .ok (.iload_n 2, 1) := by decide +kernel
theorem dX7_isHomeOn_13 : decode cX7_isHomeOn 13 = .ok (.invokevirtual 176, 3) := by decide +kernel
theorem dX7_isHomeOn_16 : decode cX7_isHomeOn 16 = .ok (.aload_n 0, 1) := by decide +kernel
theorem dX7_isHomeOn_17 : decode cX7_isHomeOn 17 = .ok (.iload_n 1, 1) := by decide +kernel
theorem dX7_isHomeOn_18 : decode cX7_isHomeOn 18 = .ok (.invokevirtual 126, 3) := by decide +kernel
theorem dX7_isHomeOn_21 : decode cX7_isHomeOn 21 = .ok (.istore_n 3, 1) := by decide +kernel
theorem dX7_isHomeOn_22 : decode cX7_isHomeOn 22 = .ok (.aload_n 0, 1) := by decide +kernel
theorem dX7_isHomeOn_23 : decode cX7_isHomeOn 23 = .ok (.getfield 16, 3) := by decide +kernel
theorem dX7_isHomeOn_26 : decode cX7_isHomeOn 26 = .ok (.aload_n 0, 1) := by decide +kernel
theorem dX7_isHomeOn_27 : decode cX7_isHomeOn 27 = .ok (.getfield 9, 3) := by decide +kernel
theorem dX7_isHomeOn_30 : decode cX7_isHomeOn 30 = .ok (.invokestatic 72, 3) := by decide +kernel
theorem dX7_isHomeOn_33 : decode cX7_isHomeOn 33 = .ok (.iload_n 3, 1) := by decide +kernel
theorem dX7_isHomeOn_34 : decode cX7_isHomeOn 34 = .ok (.ireturn, 1) := by decide +kernel
theorem dX7_keys_0 : decode cX7_keys 0 = .ok (.aload_n 0, 1) := by decide +kernel
theorem dX7_keys_1 : decode cX7_keys 1 = .ok (.iload_n 1, 1) := by decide +kernel
theorem dX7_keys_2 : decode cX7_keys 2 = .ok (.invokevirtual 155, 3) := by decide +kernel
theorem dX7_keys_5 : decode cX7_keys 5 = .ok (.ifCond .eq 10, 3) := by decide +kernel
theorem dX7_keys_8 : decode cX7_keys 8 = .ok (.iload_n 2, 1) := by decide +kernel
theorem dX7_keys_9 : decode cX7_keys 9 = .ok (.invokestatic 183, 3) := by decide +kernel
theorem dX7_keys_12 : decode cX7_keys 12 = .ok (.ifCond .ne 10, 3) := by decide +kernel
theorem dX7_keys_15 : decode cX7_keys 15 = .ok (.aload_n 0, 1) := by decide +kernel
theorem dX7_keys_16 : decode cX7_keys 16 = .ok (.ldc 71, 2) := by decide +kernel
theorem dX7_keys_18 : decode cX7_keys 18 = .ok (.invokevirtual 77, 3) := by decide +kernel
theorem dX7_keys_21 : decode cX7_keys 21 = .ok (.ireturn, 1) := by decide +kernel
theorem dX7_keys_22 : decode cX7_keys 22 = .ok (.iload_n 1, 1) := by decide +kernel
theorem dX7_keys_23 : decode cX7_keys 23 = .ok (.iconst 2, 1) := by decide +kernel
theorem dX7_keys_24 : decode cX7_keys 24 = .ok (.invokestatic 135, 3) := by decide +kernel
theorem dX7_keys_27 : decode cX7_keys 27 = .ok (.istore_n 3, 1) := by decide +kernel
theorem dX7_keys_28 : decode cX7_keys 28 = .ok (.aload_n 0, 1) := by decide +kernel
theorem dX7_keys_29 : decode cX7_keys 29 = .ok (.getfield 9, 3) := by decide +kernel
theorem dX7_keys_32 : decode cX7_keys 32 = .ok (.iload_n 3, 1) := by decide +kernel
theorem dX7_keys_33 : decode cX7_keys 33 = .ok (.iaload, 1) := by decide +kernel
theorem dX7_keys_34 : decode cX7_keys 34 = .ok (.istore 4, 2) := by decide +kernel
theorem dX7_keys_36 : decode cX7_keys 36 = .ok (.iconst 0, 1) := by decide +kernel
theorem dX7_keys_37 : decode cX7_keys 37 = .ok (.istore 5, 2) := by decide +kernel
theorem dX7_keys_39 : decode cX7_keys 39 = .ok (.iconst 0, 1) := by decide +kernel
theorem dX7_keys_40 : decode cX7_keys 40 = .ok (.istore 6, 2) := by decide +kernel
theorem dX7_keys_42 : decode cX7_keys 42 = .ok (.iload 6, 2) := by decide +kernel
theorem dX7_keys_44 : decode cX7_keys 44 = .ok (.bipush 12, 2) := by decide +kernel
theorem dX7_keys_46 : decode cX7_keys 46 = .ok (.if_icmp .ge 41, 3) := by decide +kernel
theorem dX7_keys_49 : decode cX7_keys 49 = .ok (.aload_n 0, 1) := by decide +kernel
theorem dX7_keys_50 : decode cX7_keys 50 = .ok (.getfield 9, 3) := by decide +kernel
theorem dX7_keys_53 : decode cX7_keys 53 = .ok (.iload_n 3, 1) := by decide +kernel
theorem dX7_keys_54 : decode cX7_keys 54 = .ok (.iload 6, 2) := by decide +kernel
theorem dX7_keys_56 : decode cX7_keys 56 = .ok (.iastore, 1) := by decide +kernel
theorem dX7_keys_57 : decode cX7_keys 57 = .ok (.iload 5, 2) := by decide +kernel
theorem dX7_keys_59 : decode cX7_keys 59 = .ok (.aload_n 0, 1) := by decide +kernel
theorem dX7_keys_60 : decode cX7_keys 60 = .ok (.aload_n 0, 1) := by decide +kernel
theorem dX7_keys_61 : decode cX7_keys 61 = .ok (.iload_n 1, 1) := by decide +kernel
theorem dX7_keys_62 : decode cX7_keys 62 = .ok (.iconst 1, 1) := by decide +kernel
theorem dX7_keys_63 : decode cX7_keys 63 = .ok (.invokevirtual 120, 3) := by decide +kernel
theorem dX7_keys_66 : decode cX7_keys 66 = .ok (.iload_n 2, 1) := by decide +kernel
theorem dX7_keys_67 : decode cX7_keys 67 = .ok (.invokevirtual 209, 3) := by decide +kernel
theorem dX7_keys_70 : decode cX7_keys 70 = .ok (.ifCond .eq 7, 3) := by decide +kernel
theorem dX7_keys_73 : decode cX7_keys 73 = .ok (.iconst 1, 1) := by decide +kernel
theorem dX7_keys_74 : decode cX7_keys 74 = .ok (.goto 4, 3) := by decide +kernel
theorem dX7_keys_77 : decode cX7_keys 77 = .ok (.iconst 0, 1) := by decide +kernel
theorem dX7_keys_78 : decode cX7_keys 78 = .ok (.iadd, 1) := by decide +kernel
theorem dX7_keys_79 : decode cX7_keys 79 = .ok (.istore 5, 2) := by decide +kernel
theorem dX7_keys_81 : decode cX7_keys 81 = .ok (.iinc 6 1, 3) := by decide +kernel
theorem dX7_keys_84 : decode cX7_keys 84 = .ok (.goto (-42), 3) := by decide +kernel
theorem dX7_keys_87 : decode cX7_keys 87 = .ok (.aload_n 0, 1) := by decide +kernel
theorem dX7_keys_88 : decode cX7_keys 88 = .ok (.getfield 9, 3) := by decide +kernel
theorem dX7_keys_91 : decode cX7_keys 91 = .ok (.iload_n 3, 1) := by decide +kernel
theorem dX7_keys_92 : decode cX7_keys 92 = .ok (.iload 4, 2) := by decide +kernel
theorem dX7_keys_94 : decode cX7_keys 94 = .ok (.iastore, 1) := by decide +kernel
theorem dX7_keys_95 : decode cX7_keys 95 = .ok (.iload 5, 2) := by decide +kernel
theorem dX7_keys_97 : decode cX7_keys 97 = .ok (.ireturn, 1) := by decide +kernel
theorem dX7_feed_0 : decode cX7_feed 0 = .ok (.iload_n 2, 1) := by decide +kernel
theorem dX7_feed_1 : decode cX7_feed 1 = .ok (.iconst 1, 1) := by decide +kernel
theorem dX7_feed_2 : decode cX7_feed 2 = .ok (.iconst 4, 1) := by decide +kernel
theorem dX7_feed_3 : decode cX7_feed 3 = .ok (.invokestatic 81, 3) := by decide +kernel
theorem dX7_feed_6 : decode cX7_feed 6 = .ok (.ifCond .ne 10, 3) := by decide +kernel
theorem dX7_feed_9 : decode cX7_feed 9 = .ok (.aload_n 0, 1) := by decide +kernel
theorem dX7_feed_10 : decode cX7_feed 10 = .ok (.ldc 71, 2) := by decide +kernel
theorem dX7_feed_12 : decode cX7_feed 12 = .ok (.invokevirtual 77, 3) := by decide +kernel
theorem dX7_feed_15 : decode cX7_feed 15 = .ok (.ireturn, 1) := by decide +kernel
theorem dX7_feed_16 : decode cX7_feed 16 = .ok (.aload_n 0, 1) := by decide +kernel
theorem dX7_feed_17 : decode cX7_feed 17 = .ok (.getfield 213, 3) := by decide +kernel
theorem dX7_feed_20 : decode cX7_feed 20 = .ok (.iload_n 2, 1) := by decide +kernel
theorem dX7_feed_21 : decode cX7_feed 21 = .ok (.iadd, 1) := by decide +kernel
theorem dX7_feed_22 : decode cX7_feed 22 = .ok (.bipush 120, 2) := by decide +kernel
theorem dX7_feed_24 : decode cX7_feed 24 = .ok (.if_icmp .le 10, 3) := by decide +kernel
theorem dX7_feed_27 : decode cX7_feed 27 = .ok (.aload_n 0, 1) := by decide +kernel
theorem dX7_feed_28 : decode cX7_feed 28 = .ok (.ldc 143, 2) := by decide +kernel
theorem dX7_feed_30 : decode cX7_feed 30 = .ok (.invokevirtual 77, 3) := by decide +kernel
theorem dX7_feed_33 : decode cX7_feed 33 = .ok (.ireturn, 1) := by decide +kernel
theorem dX7_feed_34 : decode cX7_feed 34 = .ok (.iload_n 2, 1) := by decide +kernel
theorem dX7_feed_35 : decode cX7_feed 35 = .ok (.iconst 1, 1) := by decide +kernel
theorem dX7_feed_36 : decode cX7_feed 36 = .ok (.isub, 1) := by decide +kernel
theorem dX7_feed_37 : decode cX7_feed 37 = .ok (.istore_n 3, 1) := by decide +kernel
theorem dX7_feed_38 : decode cX7_feed 38 = .ok (.iload_n 3, 1) := by decide +kernel
theorem dX7_feed_39 : decode cX7_feed 39 = .ok (.ifCond .lt 38, 3) := by decide +kernel
theorem dX7_feed_42 : decode cX7_feed 42 = .ok (.aload_n 0, 1) := by decide +kernel
theorem dX7_feed_43 : decode cX7_feed 43 = .ok (.getfield 25, 3) := by decide +kernel
theorem dX7_feed_46 : decode cX7_feed 46 = .ok (.aload_n 0, 1) := by decide +kernel
theorem dX7_feed_47 : decode cX7_feed 47 = .ok (.getfield 213, 3) := by decide +kernel
theorem dX7_feed_50 : decode cX7_feed 50 = .ok (.iload_n 1, 1) := by decide +kernel
theorem dX7_feed_51 : decode cX7_feed 51 = .ok (.bipush 8, 2) := by decide +kernel
theorem dX7_feed_53 : decode cX7_feed 53 = .ok (.iload_n 3, 1) := by decide +kernel
theorem dX7_feed_54 : decode cX7_feed 54 = .ok (.imul, 1) := by decide +kernel
theorem dX7_feed_55 : decode cX7_feed 55 = .ok (.ishr, 1) := by decide +kernel
theorem dX7_feed_56 : decode cX7_feed 56 = .ok (.sipush 255, 3) := by decide +kernel
theorem dX7_feed_59 : decode cX7_feed 59 = .ok (.iand, 1) := by decide +kernel
theorem dX7_feed_60 : decode cX7_feed 60 = .ok (.iastore, 1) := by decide +kernel
theorem dX7_feed_61 : decode cX7_feed 61 = .ok (.aload_n 0, 1) := by decide +kernel
theorem dX7_feed_62 : decode cX7_feed 62 = .ok (.dup, 1) := by decide +kernel
theorem dX7_feed_63 : decode cX7_feed 63 = .ok (.getfield 213, 3) := by decide +kernel
theorem dX7_feed_66 : decode cX7_feed 66 = .ok (.iconst 1, 1) := by decide +kernel
theorem dX7_feed_67 : decode cX7_feed 67 = .ok (.iadd, 1) := by decide +kernel
theorem dX7_feed_68 : decode cX7_feed 68 = .ok (.putfield 213, 3) := by decide +kernel
theorem dX7_feed_71 : decode cX7_feed 71 = .ok (.iinc 3 (-1), 3) := by decide +kernel
theorem dX7_feed_74 : decode cX7_feed 74 = .ok (.goto (-36), 3) := by decide +kernel
theorem dX7_feed_77 : decode cX7_feed 77 = .ok (.aload_n 0, 1) := by decide +kernel
theorem dX7_feed_78 : decode cX7_feed 78 = .ok (.getfield 213, 3) := by decide +kernel
theorem dX7_feed_81 : decode cX7_feed 81 = .ok (.ireturn, 1) := by decide +kernel
theorem dX7_wipe_0 : decode cX7_wipe 0 = .ok (.aload_n 0, 1) := by decide +kernel
theorem dX7_wipe_1 : decode cX7_wipe 1 = .ok (.getfield 213, 3) := by decide +kernel
theorem dX7_wipe_4 : decode cX7_wipe 4 = .ok (.istore_n 1, 1) := by decide +kernel
theorem dX7_wipe_5 : decode cX7_wipe 5 = .ok (.aload_n 0, 1) := by decide +kernel
theorem dX7_wipe_6 : decode cX7_wipe 6 = .ok (.iconst 0, 1) := by decide +kernel
theorem dX7_wipe_7 : decode cX7_wipe 7 = .ok (.putfield 213, 3) := by decide +kernel
theorem dX7_wipe_10 : decode cX7_wipe 10 = .ok (.iload_n 1, 1) := by decide +kernel
theorem dX7_wipe_11 : decode cX7_wipe 11 = .ok (.ireturn, 1) := by decide +kernel
theorem dX7_byteAt_0 : decode cX7_byteAt 0 = .ok (.iload_n 1, 1) := by decide +kernel
theorem dX7_byteAt_1 : decode cX7_byteAt 1 = .ok (.aload_n 0, 1) := by decide +kernel
theorem dX7_byteAt_2 : decode cX7_byteAt 2 = .ok (.getfield 213, 3) := by decide +kernel
theorem dX7_byteAt_5 : decode cX7_byteAt 5 = .ok (.if_icmp .ge 12, 3) := by decide +kernel
theorem dX7_byteAt_8 : decode cX7_byteAt 8 = .ok (.aload_n 0, 1) := by decide +kernel
theorem dX7_byteAt_9 : decode cX7_byteAt 9 = .ok (.getfield 25, 3) := by decide +kernel
theorem dX7_byteAt_12 : decode cX7_byteAt 12 = .ok (.iload_n 1, 1) := by decide +kernel
theorem dX7_byteAt_13 : decode cX7_byteAt 13 = .ok (.iaload, 1) := by decide +kernel
theorem dX7_byteAt_14 : decode cX7_byteAt 14 = .ok (.goto 4, 3) := by decide +kernel
theorem dX7_byteAt_17 : decode cX7_byteAt 17 = .ok (.iconst (-1), 1) := by decide +kernel
theorem dX7_byteAt_18 : decode cX7_byteAt 18 = .ok (.ireturn, 1) := by decide +kernel
theorem dX7_next_0 : decode cX7_next 0 = .ok (.aload_n 0, 1) := by decide +kernel
theorem dX7_next_1 : decode cX7_next 1 = .ok (.aload_n 0, 1) := by decide +kernel
theorem dX7_next_2 : decode cX7_next 2 = .ok (.getfield 217, 3) := by decide +kernel
theorem dX7_next_5 : decode cX7_next 5 = .ok (.putfield 220, 3) := by decide +kernel
theorem dX7_next_8 : decode cX7_next 8 = .ok (.aload_n 0, 1) := by decide +kernel
theorem dX7_next_9 : decode cX7_next 9 = .ok (.aload_n 0, 1) := by decide +kernel
theorem dX7_next_10 : decode cX7_next 10 = .ok (.getfield 220, 3) := by decide +kernel
theorem dX7_next_13 : decode cX7_next 13 = .ok (.invokevirtual 223, 3) := by decide +kernel
theorem dX7_next_16 : decode cX7_next 16 = .ok (.bipush 32, 2) := by decide +kernel
theorem dX7_next_18 : decode cX7_next 18 = .ok (.if_icmp .ne 16, 3) := by decide +kernel
theorem dX7_next_21 : decode cX7_next 21 = .ok (.aload_n 0, 1) := by decide +kernel
theorem dX7_next_22 : decode cX7_next 22 = .ok (.dup, 1) := by decide +kernel
theorem dX7_next_23 : decode cX7_next 23 = .ok (.getfield 220, 3) := by decide +kernel
theorem dX7_next_26 : decode cX7_next 26 = .ok (.iconst 1, 1) := by decide +kernel
theorem dX7_next_27 : decode cX7_next 27 = .ok (.iadd, 1) := by decide +kernel
theorem dX7_next_28 : decode cX7_next 28 = .ok (.putfield 220, 3) := by decide +kernel
theorem dX7_next_31 : decode cX7_next 31 = .ok (.goto (-23), 3) := by decide +kernel
theorem dX7_next_34 : decode cX7_next 34 = .ok (.aload_n 0, 1) := by decide +kernel
theorem dX7_next_35 : decode cX7_next 35 = .ok (.aload_n 0, 1) := by decide +kernel
theorem dX7_next_36 : decode cX7_next 36 = .ok (.getfield 220, 3) := by decide +kernel
theorem dX7_next_39 : decode cX7_next 39 = .ok (.invokevirtual 223, 3) := by decide +kernel
theorem dX7_next_42 : decode cX7_next 42 = .ok (.istore_n 1, 1) := by decide +kernel
theorem dX7_next_43 : decode cX7_next 43 = .ok (.aload_n 0, 1) := by decide +kernel
theorem dX7_next_44 : decode cX7_next 44 = .ok (.aload_n 0, 1) := by decide +kernel
theorem dX7_next_45 : decode cX7_next 45 = .ok (.getfield 220, 3) := by decide +kernel
theorem dX7_next_48 : decode cX7_next 48 = .ok (.putfield 217, 3) := by decide +kernel
theorem dX7_next_51 : decode cX7_next 51 = .ok (.aload_n 0, 1) := by decide +kernel
theorem dX7_next_52 : decode cX7_next 52 = .ok (.iconst 0, 1) := by decide +kernel
theorem dX7_next_53 : decode cX7_next 53 = .ok (.putfield 226, 3) := by decide +kernel
theorem dX7_next_56 : decode cX7_next 56 = .ok (.iload_n 1, 1) := by decide +kernel
theorem dX7_next_57 : decode cX7_next 57 = .ok (.ifCond .ge 11, 3) := by decide +kernel
theorem dX7_next_60 : decode cX7_next 60 = .ok (.aload_n 0, 1) := by decide +kernel
theorem dX7_next_61 : decode cX7_next 61 = .ok (.iconst 0, 1) := by decide +kernel
theorem dX7_next_62 : decode cX7_next 62 = .ok (.putfield 229, 3) := by decide +kernel
theorem dX7_next_65 : decode cX7_next 65 = .ok (.goto 141, 3) := by decide +kernel
theorem dX7_next_68 : decode cX7_next 68 = .ok (.iload_n 1, 1) := by decide +kernel
theorem dX7_next_69 : decode cX7_next 69 = .ok (.bipush 97, 2) := by decide +kernel
theorem dX7_next_71 : decode cX7_next 71 = .ok (.bipush 122, 2) := by decide +kernel
theorem dX7_next_73 : decode cX7_next 73 = .ok (.invokestatic 81, 3) := by decide +kernel
theorem dX7_next_76 : decode cX7_next 76 = .ok (.ifCond .eq 39, 3) := by decide +kernel
theorem dX7_next_79 : decode cX7_next 79 = .ok (.aload_n 0, 1) := by decide +kernel
theorem dX7_next_80 : decode cX7_next 80 = .ok (.iconst 1, 1) := by decide +kernel
theorem dX7_next_81 : decode cX7_next 81 = .ok (.putfield 229, 3) := by decide +kernel
theorem dX7_next_84 : decode cX7_next 84 = .ok (.aload_n 0, 1) := by decide +kernel
theorem dX7_next_85 : decode cX7_next 85 = .ok (.aload_n 0, 1) := by decide +kernel
theorem dX7_next_86 : decode cX7_next 86 = .ok (.getfield 217, 3) := by decide +kernel
theorem dX7_next_89 : decode cX7_next 89 = .ok (.invokevirtual 223, 3) := by decide +kernel
theorem dX7_next_92 : decode cX7_next 92 = .ok (.bipush 97, 2) := by decide +kernel
theorem dX7_next_94 : decode cX7_next 94 = .ok (.bipush 122, 2) := by decide +kernel
theorem dX7_next_96 : decode cX7_next 96 = .ok (.invokestatic 81, 3) := by decide +kernel
theorem dX7_next_99 : decode cX7_next 99 = .ok (.ifCond .eq 107, 3) := by decide +kernel
theorem dX7_next_102 : decode cX7_next 102 = .ok (.aload_n 0, 1) := by decide +kernel
theorem dX7_next_103 : decode cX7_next 103 = .ok (.dup, 1) := by decide +kernel
theorem dX7_next_104 : decode cX7_next 104 = .ok (.getfield 217, 3) := by decide +kernel
theorem dX7_next_107 : decode cX7_next 107 = .ok (.iconst 1, 1) := by decide +kernel
theorem dX7_next_108 : decode cX7_next 108 = .ok (.iadd, 1) := by decide +kernel
theorem dX7_next_109 : decode cX7_next 109 = .ok (.putfield 217, 3) := by decide +kernel
theorem dX7_next_112 : decode cX7_next 112 = .ok (.goto (-28), 3) := by decide +kernel
theorem dX7_next_115 : decode cX7_next 115 = .ok (.iload_n 1, 1) := by decide +kernel
theorem dX7_next_116 : decode cX7_next 116 = .ok (.bipush 48, 2) := by decide +kernel
theorem dX7_next_118 : decode cX7_next 118 = .ok (.bipush 57, 2) := by decide +kernel
theorem dX7_next_120 : decode cX7_next 120 = .ok (.invokestatic 81, 3) := by decide +kernel
theorem dX7_next_123 : decode cX7_next 123 = .ok (.ifCond .eq 68, 3) := by decide +kernel
theorem dX7_next_126 : decode cX7_next 126 = .ok (.aload_n 0, 1) := by decide +kernel
theorem dX7_next_127 : decode cX7_next 127 = .ok (.iconst 2, 1) := by decide +kernel
theorem dX7_next_128 : decode cX7_next 128 = .ok (.putfield 229, 3) := by decide +kernel
theorem dX7_next_131 : decode cX7_next 131 = .ok (.aload_n 0, 1) := by decide +kernel
theorem dX7_next_132 : decode cX7_next 132 = .ok (.aload_n 0, 1) := by decide +kernel
theorem dX7_next_133 : decode cX7_next 133 = .ok (.getfield 217, 3) := by decide +kernel
theorem dX7_next_136 : decode cX7_next 136 = .ok (.invokevirtual 223, 3) := by decide +kernel
theorem dX7_next_139 : decode cX7_next 139 = .ok (.bipush 48, 2) := by decide +kernel
theorem dX7_next_141 : decode cX7_next 141 = .ok (.bipush 57, 2) := by decide +kernel
theorem dX7_next_143 : decode cX7_next 143 = .ok (.invokestatic 81, 3) := by decide +kernel
theorem dX7_next_146 : decode cX7_next 146 = .ok (.ifCond .eq 60, 3) := by decide +kernel
theorem dX7_next_149 : decode cX7_next 149 = .ok (.aload_n 0, 1) := by decide +kernel
theorem dX7_next_150 : decode cX7_next 150 = .ok (.sipush 10000, 3) := by decide +kernel
theorem dX7_next_153 : decode cX7_next 153 = .ok (.bipush 10, 2) := by decide +kernel
theorem dX7_next_155 : decode cX7_next 155 = .ok (.aload_n 0, 1) := by decide +kernel
theorem dX7_next_156 : decode cX7_next 156 = .ok (.getfield 226, 3) := by decide +kernel
theorem dX7_next_159 : decode cX7_next 159 = .ok (.imul, 1) := by decide +kernel
theorem dX7_next_160 : decode cX7_next 160 = .ok (.aload_n 0, 1) := by decide +kernel
theorem dX7_next_161 : decode cX7_next 161 = .ok (.aload_n 0, 1) := by decide +kernel
theorem dX7_next_162 : decode cX7_next 162 = .ok (.getfield 217, 3) := by decide +kernel
theorem dX7_next_165 : decode cX7_next 165 = .ok (.invokevirtual 223, 3) := by decide +kernel
theorem dX7_next_168 : decode cX7_next 168 = .ok (.iadd, 1) := by decide +kernel
theorem dX7_next_169 : decode cX7_next 169 = .ok (.bipush 48, 2) := by decide +kernel
theorem dX7_next_171 : decode cX7_next 171 = .ok (.isub, 1) := by decide +kernel
theorem dX7_next_172 : decode cX7_next 172 = .ok (.invokestatic 110, 3) := by decide +kernel
theorem dX7_next_175 : decode cX7_next 175 = .ok (.putfield 226, 3) := by decide +kernel
theorem dX7_next_178 : decode cX7_next 178 = .ok (.aload_n 0, 1) := by decide +kernel
theorem dX7_next_179 : decode cX7_next 179 = .ok (.dup, 1) := by decide +kernel
theorem dX7_next_180 : decode cX7_next 180 = .ok (.getfield 217, 3) := by decide +kernel
theorem dX7_next_183 : decode cX7_next 183 = .ok (.iconst 1, 1) := by decide +kernel
theorem dX7_next_184 : decode cX7_next 184 = .ok (.iadd, 1) := by decide +kernel
theorem dX7_next_185 : decode cX7_next 185 = .ok (.putfield 217, 3) := by decide +kernel
theorem dX7_next_188 : decode cX7_next 188 = .ok (.goto (-57), 3) := by decide +kernel
theorem dX7_next_191 : decode cX7_next 191 = .ok (.aload_n 0, 1) := by decide +kernel
theorem dX7_next_192 : decode cX7_next 192 = .ok (.iconst 3, 1) := by decide +kernel
theorem dX7_next_193 : decode cX7_next 193 = .ok (.putfield 229, 3) := by decide +kernel
theorem dX7_next_196 : decode cX7_next 196 = .ok (.aload_n 0, 1) := by decide +kernel
theorem dX7_next_197 : decode cX7_next 197 = .ok (.dup, 1) := by decide +kernel
theorem dX7_next_198 : decode cX7_next 198 = .ok (.getfield 217, 3) := by decide +kernel
theorem dX7_next_201 : decode cX7_next 201 = .ok (.iconst 1, 1) := by decide +kernel
theorem dX7_next_202 : decode cX7_next 202 = .ok (.iadd, 1) := by decide +kernel
theorem dX7_next_203 : decode cX7_next 203 = .ok (.putfield 217, 3) := by decide +kernel
theorem dX7_next_206 : decode cX7_next 206 = .ok (.return_, 1) := by decide +kernel
theorem dX7_isWord_0 : decode cX7_isWord 0 = .ok (.aload_n 0, 1) := by decide +kernel
theorem dX7_isWord_1 : decode cX7_isWord 1 = .ok (.getfield 229, 3) := by decide +kernel
theorem dX7_isWord_4 : decode cX7_isWord 4 = .ok (.iconst 1, 1) := by decide +kernel
theorem dX7_isWord_5 : decode cX7_isWord 5 = .ok (.if_icmp .ne 23, 3) := by decide +kernel
theorem dX7_isWord_8 : decode cX7_isWord 8 = .ok (.aload_n 0, 1) := by decide +kernel
theorem dX7_isWord_9 : decode cX7_isWord 9 = .ok (.getfield 217, 3) := by decide +kernel
theorem dX7_isWord_12 : decode cX7_isWord 12 = .ok (.aload_n 0, 1) := by decide +kernel
theorem dX7_isWord_13 : decode cX7_isWord 13 = .ok (.getfield 220, 3) := by decide +kernel
theorem dX7_isWord_16 : decode cX7_isWord 16 = .ok (.isub, 1) := by decide +kernel
theorem dX7_isWord_17 : decode cX7_isWord 17 = .ok (.aload_n 1, 1) := by decide +kernel
theorem dX7_isWord_18 : decode cX7_isWord 18 = .ok (.invokevirtual 232, 3) := by decide +kernel
theorem dX7_isWord_21 : decode cX7_isWord 21 = .ok (.if_icmp .ne 7, 3) := by decide +kernel
theorem dX7_isWord_24 : decode cX7_isWord 24 = .ok (.iconst 1, 1) := by decide +kernel
theorem dX7_isWord_25 : decode cX7_isWord 25 = .ok (.goto 4, 3) := by decide +kernel
theorem dX7_isWord_28 : decode cX7_isWord 28 = .ok (.iconst 0, 1) := by decide +kernel
theorem dX7_isWord_29 : decode cX7_isWord 29 = .ok (.istore_n 2, 1) := by decide +kernel
theorem dX7_isWord_30 : decode cX7_isWord 30 = .ok (.iconst 0, 1) := by decide +kernel
theorem dX7_isWord_31 : decode cX7_isWord 31 = .ok (.istore_n 3, 1) := by decide +kernel
theorem dX7_isWord_32 : decode cX7_isWord 32 = .ok (.iload_n 3, 1) := by decide +kernel
theorem dX7_isWord_33 : decode cX7_isWord 33 = .ok (.aload_n 1, 1) := by decide +kernel
theorem dX7_isWord_34 : decode cX7_isWord 34 = .ok (.invokevirtual 232, 3) := by decide +kernel
theorem dX7_isWord_37 : decode cX7_isWord 37 = .ok (.if_icmp .ge 38, 3) := by decide +kernel
theorem dX7_isWord_40 : decode cX7_isWord 40 = .ok (.iload_n 2, 1) := by decide +kernel
theorem dX7_isWord_41 : decode cX7_isWord 41 = .ok (.ifCond .eq 34, 3) := by decide +kernel
theorem dX7_isWord_44 : decode cX7_isWord 44 = .ok (.aload_n 0, 1) := by decide +kernel
theorem dX7_isWord_45 : decode cX7_isWord 45 = .ok (.getfield 25, 3) := by decide +kernel
theorem dX7_isWord_48 : decode cX7_isWord 48 = .ok (.aload_n 0, 1) := by decide +kernel
theorem dX7_isWord_49 : decode cX7_isWord 49 = .ok (.getfield 220, 3) := by decide +kernel
theorem dX7_isWord_52 : decode cX7_isWord 52 = .ok (.iload_n 3, 1) := by decide +kernel
theorem dX7_isWord_53 : decode cX7_isWord 53 = .ok (.iadd, 1) := by decide +kernel
theorem dX7_isWord_54 : decode cX7_isWord 54 = .ok (.iaload, 1) := by decide +kernel
theorem dX7_isWord_55 : decode cX7_isWord 55 = .ok (.aload_n 1, 1) := by decide +kernel
theorem dX7_isWord_56 : decode cX7_isWord 56 = .ok (.iload_n 3, 1) := by decide +kernel
theorem dX7_isWord_57 : decode cX7_isWord 57 = .ok (.invokevirtual 234, 3) := by decide +kernel
theorem dX7_isWord_60 : decode cX7_isWord 60 = .ok (.if_icmp .ne 7, 3) := by decide +kernel
theorem dX7_isWord_63 : decode cX7_isWord 63 = .ok (.iconst 1, 1) := by decide +kernel
theorem dX7_isWord_64 : decode cX7_isWord 64 = .ok (.goto 4, 3) := by decide +kernel
theorem dX7_isWord_67 : decode cX7_isWord 67 = .ok (.iconst 0, 1) := by decide +kernel
theorem dX7_isWord_68 : decode cX7_isWord 68 = .ok (.istore_n 2, 1) := by decide +kernel
theorem dX7_isWord_69 : decode cX7_isWord 69 = .ok (.iinc 3 1, 3) := by decide +kernel
theorem dX7_isWord_72 : decode cX7_isWord 72 = .ok (.goto (-40), 3) := by decide +kernel
theorem dX7_isWord_75 : decode cX7_isWord 75 = .ok (.iload_n 2, 1) := by decide +kernel
theorem dX7_isWord_76 : decode cX7_isWord 76 = .ok (.ireturn, 1) := by decide +kernel
theorem dX7_must_0 : decode cX7_must 0 = .ok (.aload_n 0, 1) := by decide +kernel
theorem dX7_must_1 : decode cX7_must 1 = .ok (.aload_n 0, 1) := by decide +kernel
theorem dX7_must_2 : decode cX7_must 2 = .ok (.getfield 238, 3) := by decide +kernel
theorem dX7_must_5 : decode cX7_must 5 = .ok (.ifCond .ne 7, 3) := by decide +kernel
theorem dX7_must_8 : decode cX7_must 8 = .ok (.iload_n 1, 1) := by decide +kernel
theorem dX7_must_9 : decode cX7_must 9 = .ok (.ifCond .ne 7, 3) := by decide +kernel
theorem dX7_must_12 : decode cX7_must 12 = .ok (.iconst 1, 1) := by decide +kernel
theorem dX7_must_13 : decode cX7_must 13 = .ok (.goto 4, 3) := by decide +kernel
theorem dX7_must_16 : decode cX7_must 16 = .ok (.iconst 0, 1) := by decide +kernel
theorem dX7_must_17 : decode cX7_must 17 = .ok (.putfield 238, 3) := by decide +kernel
theorem dX7_must_20 : decode cX7_must 20 = .ok (.aload_n 0, 1) := by decide +kernel
theorem dX7_must_21 : decode cX7_must 21 = .ok (.getfield 238, 3) := by decide +kernel
theorem dX7_must_24 : decode cX7_must 24 = .ok (.ifCond .ne 7, 3) := by decide +kernel
theorem dX7_must_27 : decode cX7_must 27 = .ok (.aload_n 0, 1) := by decide +kernel
theorem dX7_must_28 : decode cX7_must 28 = .ok (.invokevirtual 242, 3) := by decide +kernel
theorem dX7_must_31 : decode cX7_must 31 = .ok (.return_, 1) := by decide +kernel
theorem dX7_number_0 : decode cX7_number 0 = .ok (.aload_n 0, 1) := by decide +kernel
theorem dX7_number_1 : decode cX7_number 1 = .ok (.getfield 226, 3) := by decide +kernel
theorem dX7_number_4 : decode cX7_number 4 = .ok (.istore_n 3, 1) := by decide +kernel
theorem dX7_number_5 : decode cX7_number 5 = .ok (.aload_n 0, 1) := by decide +kernel
theorem dX7_number_6 : decode cX7_number 6 = .ok (.aload_n 0, 1) := by decide +kernel
theorem dX7_number_7 : decode cX7_number 7 = .ok (.getfield 229, 3) := by decide +kernel
theorem dX7_number_10 : decode cX7_number 10 = .ok (.iconst 2, 1) := by decide +kernel
theorem dX7_number_11 : decode cX7_number 11 = .ok (.if_icmp .ne 16, 3) := by decide +kernel
theorem dX7_number_14 : decode cX7_number 14 = .ok (.iload_n 3, 1) := by decide +kernel
theorem dX7_number_15 : decode cX7_number 15 = .ok (.iload_n 1, 1) := by decide +kernel
theorem dX7_number_16 : decode cX7_number 16 = .ok (.iload_n 2, 1) := by decide +kernel
theorem dX7_number_17 : decode cX7_number 17 = .ok (.invokestatic 81, 3) := by decide +kernel
theorem dX7_number_20 : decode cX7_number 20 = .ok (.ifCond .eq 7, 3) := by decide +kernel
theorem dX7_number_23 : decode cX7_number 23 = .ok (.iconst 1, 1) := by decide +kernel
theorem dX7_number_24 : decode cX7_number 24 = .ok (.goto 4, 3) := by decide +kernel
theorem dX7_number_27 : decode cX7_number 27 = .ok (.iconst 0, 1) := by decide +kernel
theorem dX7_number_28 : decode cX7_number 28 = .ok (.invokevirtual 245, 3) := by decide +kernel
theorem dX7_number_31 : decode cX7_number 31 = .ok (.iload_n 3, 1) := by decide +kernel
theorem dX7_number_32 : decode cX7_number 32 = .ok (.ireturn, 1) := by decide +kernel
theorem dX7_addItem_0 : decode cX7_addItem 0 = .ok (.aload_n 0, 1) := by decide +kernel
theorem dX7_addItem_1 : decode cX7_addItem 1 = .ok (.getfield 46, 3) := by decide +kernel
theorem dX7_addItem_4 : decode cX7_addItem 4 = .ok (.aload_n 0, 1) := by decide +kernel
theorem dX7_addItem_5 : decode cX7_addItem 5 = .ok (.getfield 249, 3) := by decide +kernel
theorem dX7_addItem_8 : decode cX7_addItem 8 = .ok (.iload_n 1, 1) := by decide +kernel
theorem dX7_addItem_9 : decode cX7_addItem 9 = .ok (.iastore, 1) := by decide +kernel
theorem dX7_addItem_10 : decode cX7_addItem 10 = .ok (.aload_n 0, 1) := by decide +kernel
theorem dX7_addItem_11 : decode cX7_addItem 11 = .ok (.getfield 49, 3) := by decide +kernel
theorem dX7_addItem_14 : decode cX7_addItem 14 = .ok (.aload_n 0, 1) := by decide +kernel
theorem dX7_addItem_15 : decode cX7_addItem 15 = .ok (.getfield 249, 3) := by decide +kernel
theorem dX7_addItem_18 : decode cX7_addItem 18 = .ok (.iload_n 2, 1) := by decide +kernel
theorem dX7_addItem_19 : decode cX7_addItem 19 = .ok (.iastore, 1) := by decide +kernel
theorem dX7_addItem_20 : decode cX7_addItem 20 = .ok (.aload_n 0, 1) := by decide +kernel
theorem dX7_addItem_21 : decode cX7_addItem 21 = .ok (.getfield 52, 3) := by decide +kernel
theorem dX7_addItem_24 : decode cX7_addItem 24 = .ok (.aload_n 0, 1) := by decide +kernel
theorem dX7_addItem_25 : decode cX7_addItem 25 = .ok (.getfield 249, 3) := by decide +kernel
theorem dX7_addItem_28 : decode cX7_addItem 28 = .ok (.iload_n 3, 1) := by decide +kernel
theorem dX7_addItem_29 : decode cX7_addItem 29 = .ok (.iastore, 1) := by decide +kernel
theorem dX7_addItem_30 : decode cX7_addItem 30 = .ok (.aload_n 0, 1) := by decide +kernel
theorem dX7_addItem_31 : decode cX7_addItem 31 = .ok (.getfield 55, 3) := by decide +kernel
theorem dX7_addItem_34 : decode cX7_addItem 34 = .ok (.aload_n 0, 1) := by decide +kernel
theorem dX7_addItem_35 : decode cX7_addItem 35 = .ok (.getfield 249, 3) := by decide +kernel
theorem dX7_addItem_38 : decode cX7_addItem 38 = .ok (.lload 4, 2) := by decide +kernel
theorem dX7_addItem_40 : decode cX7_addItem 40 = .ok (.lastore, 1) := by decide +kernel
theorem dX7_addItem_41 : decode cX7_addItem 41 = .ok (.aload_n 0, 1) := by decide +kernel
theorem dX7_addItem_42 : decode cX7_addItem 42 = .ok (.dup, 1) := by decide +kernel
theorem dX7_addItem_43 : decode cX7_addItem 43 = .ok (.getfield 249, 3) := by decide +kernel
theorem dX7_addItem_46 : decode cX7_addItem 46 = .ok (.iconst 1, 1) := by decide +kernel
theorem dX7_addItem_47 : decode cX7_addItem 47 = .ok (.iadd, 1) := by decide +kernel
theorem dX7_addItem_48 : decode cX7_addItem 48 = .ok (.putfield 249, 3) := by decide +kernel
theorem dX7_addItem_51 : decode cX7_addItem 51 = .ok (.return_, 1) := by decide +kernel
theorem dX7_perhaps_0 : decode cX7_perhaps 0 = .ok (.aload_n 0, 1) := by decide +kernel
theorem dX7_perhaps_1 : decode cX7_perhaps 1 = .ok (.getfield 238, 3) := by decide +kernel
theorem dX7_perhaps_4 : decode cX7_perhaps 4 = .ok (.ifCond .ne 11, 3) := by decide +kernel
theorem dX7_perhaps_7 : decode cX7_perhaps 7 = .ok (.aload_n 0, 1) := by decide +kernel
theorem dX7_perhaps_8 : decode cX7_perhaps 8 = .ok (.aload_n 1, 1) := by decide +kernel
theorem dX7_perhaps_9 : decode cX7_perhaps 9 = .ok (.invokevirtual 252, 3) := by decide +kernel
theorem dX7_perhaps_12 : decode cX7_perhaps 12 = .ok (.ifCond .ne 5, 3) := by decide +kernel
theorem dX7_perhaps_15 : decode cX7_perhaps 15 = .ok (.iload_n 2, 1) := by decide +kernel
theorem dX7_perhaps_16 : decode cX7_perhaps 16 = .ok (.ireturn, 1) := by decide +kernel
theorem dX7_perhaps_17 : decode cX7_perhaps 17 = .ok (.aload_n 0, 1) := by decide +kernel
theorem dX7_perhaps_18 : decode cX7_perhaps 18 = .ok (.iconst 1, 1) := by decide +kernel
theorem dX7_perhaps_19 : decode cX7_perhaps 19 = .ok (.invokevirtual 245, 3) := by decide +kernel
theorem dX7_perhaps_22 : decode cX7_perhaps 22 = .ok (.aload_n 0, 1) := by decide +kernel
theorem dX7_perhaps_23 : decode cX7_perhaps 23 = .ok (.iconst 0, 1) := by decide +kernel
theorem dX7_perhaps_24 : decode cX7_perhaps 24 = .ok (.bipush 11, 2) := by decide +kernel
theorem dX7_perhaps_26 : decode cX7_perhaps 26 = .ok (.invokevirtual 256, 3) := by decide +kernel
theorem dX7_perhaps_29 : decode cX7_perhaps 29 = .ok (.ireturn, 1) := by decide +kernel
theorem dX7_readAttache_0 : decode cX7_readAttache 0 = .ok (.aload_n 0, 1) := by decide +kernel
theorem dX7_readAttache_1 : decode cX7_readAttache 1 = .ok (.aload_n 0, 1) := by decide +kernel
theorem dX7_readAttache_2 : decode cX7_readAttache 2 = .ok (.getfield 259, 3) := by decide +kernel
theorem dX7_readAttache_5 : decode cX7_readAttache 5 = .ok (.bipush 8, 2) := by decide +kernel
theorem dX7_readAttache_7 : decode cX7_readAttache 7 = .ok (.if_icmp .ge 7, 3) := by decide +kernel
theorem dX7_readAttache_10 : decode cX7_readAttache 10 = .ok (.iconst 1, 1) := by decide +kernel
theorem dX7_readAttache_11 : decode cX7_readAttache 11 = .ok (.goto 4, 3) := by decide +kernel
theorem dX7_readAttache_14 : decode cX7_readAttache 14 = .ok (.iconst 0, 1) := by decide +kernel
theorem dX7_readAttache_15 : decode cX7_readAttache 15 = .ok (.invokevirtual 245, 3) := by decide +kernel
theorem dX7_readAttache_18 : decode cX7_readAttache 18 = .ok (.aload_n 0, 1) := by decide +kernel
theorem dX7_readAttache_19 : decode cX7_readAttache 19 = .ok (.aload_n 0, 1) := by decide +kernel
theorem dX7_readAttache_20 : decode cX7_readAttache 20 = .ok (.ldc_w 262, 3) := by decide +kernel
theorem dX7_readAttache_23 : decode cX7_readAttache 23 = .ok (.invokevirtual 252, 3) := by decide +kernel
theorem dX7_readAttache_26 : decode cX7_readAttache 26 = .ok (.invokevirtual 245, 3) := by decide +kernel
theorem dX7_readAttache_29 : decode cX7_readAttache 29 = .ok (.aload_n 0, 1) := by decide +kernel
theorem dX7_readAttache_30 : decode cX7_readAttache 30 = .ok (.iconst 0, 1) := by decide +kernel
theorem dX7_readAttache_31 : decode cX7_readAttache 31 = .ok (.iconst 1, 1) := by decide +kernel
theorem dX7_readAttache_32 : decode cX7_readAttache 32 = .ok (.invokevirtual 256, 3) := by decide +kernel
theorem dX7_readAttache_35 : decode cX7_readAttache 35 = .ok (.istore_n 2, 1) := by decide +kernel
theorem dX7_readAttache_36 : decode cX7_readAttache 36 = .ok (.aload_n 0, 1) := by decide +kernel
theorem dX7_readAttache_37 : decode cX7_readAttache 37 = .ok (.ldc_w 264, 3) := by decide +kernel
theorem dX7_readAttache_40 : decode cX7_readAttache 40 = .ok (.iconst 0, 1) := by decide +kernel
theorem dX7_readAttache_41 : decode cX7_readAttache 41 = .ok (.invokevirtual 266, 3) := by decide +kernel
theorem dX7_readAttache_44 : decode cX7_readAttache 44 = .ok (.istore_n 3, 1) := by decide +kernel
theorem dX7_readAttache_45 : decode cX7_readAttache 45 = .ok (.aload_n 0, 1) := by decide +kernel
theorem dX7_readAttache_46 : decode cX7_readAttache 46 = .ok (.ldc_w 270, 3) := by decide +kernel
theorem dX7_readAttache_49 : decode cX7_readAttache 49 = .ok (.iconst (-1), 1) := by decide +kernel
theorem dX7_readAttache_50 : decode cX7_readAttache 50 = .ok (.invokevirtual 266, 3) := by decide +kernel
theorem dX7_readAttache_53 : decode cX7_readAttache 53 = .ok (.istore 4, 2) := by decide +kernel
theorem dX7_readAttache_55 : decode cX7_readAttache 55 = .ok (.aload_n 0, 1) := by decide +kernel
theorem dX7_readAttache_56 : decode cX7_readAttache 56 = .ok (.iload_n 1, 1) := by decide +kernel
theorem dX7_readAttache_57 : decode cX7_readAttache 57 = .ok (.iload_n 2, 1) := by decide +kernel
theorem dX7_readAttache_58 : decode cX7_readAttache 58 = .ok (.iload_n 3, 1) := by decide +kernel
theorem dX7_readAttache_59 : decode cX7_readAttache 59 = .ok (.iload 4, 2) := by decide +kernel
theorem dX7_readAttache_61 : decode cX7_readAttache 61 = .ok (.ifCond .ge 7, 3) := by decide +kernel
theorem dX7_readAttache_64 : decode cX7_readAttache 64 = .ok (.lconst 0, 1) := by decide +kernel
theorem dX7_readAttache_65 : decode cX7_readAttache 65 = .ok (.goto 10, 3) := by decide +kernel
theorem dX7_readAttache_68 : decode cX7_readAttache 68 = .ok (.lconst 1, 1) := by decide +kernel
theorem dX7_readAttache_69 : decode cX7_readAttache 69 = .ok (.iload 4, 2) := by decide +kernel
theorem dX7_readAttache_71 : decode cX7_readAttache 71 = .ok (.bipush 31, 2) := by decide +kernel
theorem dX7_readAttache_73 : decode cX7_readAttache 73 = .ok (.iand, 1) := by decide +kernel
theorem dX7_readAttache_74 : decode cX7_readAttache 74 = .ok (.lshl, 1) := by decide +kernel
theorem dX7_readAttache_75 : decode cX7_readAttache 75 = .ok (.invokevirtual 272, 3) := by decide +kernel
theorem dX7_readAttache_78 : decode cX7_readAttache 78 = .ok (.aload_n 0, 1) := by decide +kernel
theorem dX7_readAttache_79 : decode cX7_readAttache 79 = .ok (.dup, 1) := by decide +kernel
theorem dX7_readAttache_80 : decode cX7_readAttache 80 = .ok (.getfield 259, 3) := by decide +kernel
theorem dX7_readAttache_83 : decode cX7_readAttache 83 = .ok (.iconst 1, 1) := by decide +kernel
theorem dX7_readAttache_84 : decode cX7_readAttache 84 = .ok (.iadd, 1) := by decide +kernel
theorem dX7_readAttache_85 : decode cX7_readAttache 85 = .ok (.putfield 259, 3) := by decide +kernel
theorem dX7_readAttache_88 : decode cX7_readAttache 88 = .ok (.return_, 1) := by decide +kernel
theorem dX7_readTune_0 : decode cX7_readTune 0 = .ok (.aload_n 0, 1) := by decide +kernel
theorem dX7_readTune_1 : decode cX7_readTune 1 = .ok (.iconst 1, 1) := by decide +kernel
theorem dX7_readTune_2 : decode cX7_readTune 2 = .ok (.invokevirtual 245, 3) := by decide +kernel
theorem dX7_readTune_5 : decode cX7_readTune 5 = .ok (.aload_n 0, 1) := by decide +kernel
theorem dX7_readTune_6 : decode cX7_readTune 6 = .ok (.iconst 0, 1) := by decide +kernel
theorem dX7_readTune_7 : decode cX7_readTune 7 = .ok (.iconst 1, 1) := by decide +kernel
theorem dX7_readTune_8 : decode cX7_readTune 8 = .ok (.invokevirtual 256, 3) := by decide +kernel
theorem dX7_readTune_11 : decode cX7_readTune 11 = .ok (.istore_n 1, 1) := by decide +kernel
theorem dX7_readTune_12 : decode cX7_readTune 12 = .ok (.aload_n 0, 1) := by decide +kernel
theorem dX7_readTune_13 : decode cX7_readTune 13 = .ok (.iconst 0, 1) := by decide +kernel
theorem dX7_readTune_14 : decode cX7_readTune 14 = .ok (.bipush 11, 2) := by decide +kernel
theorem dX7_readTune_16 : decode cX7_readTune 16 = .ok (.invokevirtual 256, 3) := by decide +kernel
theorem dX7_readTune_19 : decode cX7_readTune 19 = .ok (.i2l, 1) := by decide +kernel
theorem dX7_readTune_20 : decode cX7_readTune 20 = .ok (.lstore_n 2, 1) := by decide +kernel
theorem dX7_readTune_21 : decode cX7_readTune 21 = .ok (.iconst 1, 1) := by decide +kernel
theorem dX7_readTune_22 : decode cX7_readTune 22 = .ok (.istore 4, 2) := by decide +kernel
theorem dX7_readTune_24 : decode cX7_readTune 24 = .ok (.aload_n 0, 1) := by decide +kernel
theorem dX7_readTune_25 : decode cX7_readTune 25 = .ok (.getfield 238, 3) := by decide +kernel
theorem dX7_readTune_28 : decode cX7_readTune 28 = .ok (.ifCond .ne 78, 3) := by decide +kernel
theorem dX7_readTune_31 : decode cX7_readTune 31 = .ok (.aload_n 0, 1) := by decide +kernel
theorem dX7_readTune_32 : decode cX7_readTune 32 = .ok (.getfield 229, 3) := by decide +kernel
theorem dX7_readTune_35 : decode cX7_readTune 35 = .ok (.iconst 2, 1) := by decide +kernel
theorem dX7_readTune_36 : decode cX7_readTune 36 = .ok (.if_icmp .ne 70, 3) := by decide +kernel
theorem dX7_readTune_39 : decode cX7_readTune 39 = .ok (.iload 4, 2) := by decide +kernel
theorem dX7_readTune_41 : decode cX7_readTune 41 = .ok (.bipush 12, 2) := by decide +kernel
theorem dX7_readTune_43 : decode cX7_readTune 43 = .ok (.if_icmp .ge 7, 3) := by decide +kernel
theorem dX7_readTune_46 : decode cX7_readTune 46 = .ok (.iconst 1, 1) := by decide +kernel
theorem dX7_readTune_47 : decode cX7_readTune 47 = .ok (.goto 4, 3) := by decide +kernel
theorem dX7_readTune_50 : decode cX7_readTune 50 = .ok (.iconst 0, 1) := by decide +kernel
theorem dX7_readTune_51 : decode cX7_readTune 51 = .ok (.istore 5, 2) := by decide +kernel
theorem dX7_readTune_53 : decode cX7_readTune 53 = .ok (.lload_n 2, 1) := by decide +kernel
theorem dX7_readTune_54 : decode cX7_readTune 54 = .ok (.iload 5, 2) := by decide +kernel
theorem dX7_readTune_56 : decode cX7_readTune 56 = .ok (.ifCond .eq 16, 3) := by decide +kernel
theorem dX7_readTune_59 : decode cX7_readTune 59 = .ok (.aload_n 0, 1) := by decide +kernel
theorem dX7_readTune_60 : decode cX7_readTune 60 = .ok (.getfield 226, 3) := by decide +kernel
theorem dX7_readTune_63 : decode cX7_readTune 63 = .ok (.i2l, 1) := by decide +kernel
theorem dX7_readTune_64 : decode cX7_readTune 64 = .ok (.iconst 4, 1) := by decide +kernel
theorem dX7_readTune_65 : decode cX7_readTune 65 = .ok (.iload 4, 2) := by decide +kernel
theorem dX7_readTune_67 : decode cX7_readTune 67 = .ok (.imul, 1) := by decide +kernel
theorem dX7_readTune_68 : decode cX7_readTune 68 = .ok (.lshl, 1) := by decide +kernel
theorem dX7_readTune_69 : decode cX7_readTune 69 = .ok (.goto 4, 3) := by decide +kernel
theorem dX7_readTune_72 : decode cX7_readTune 72 = .ok (.lconst 0, 1) := by decide +kernel
theorem dX7_readTune_73 : decode cX7_readTune 73 = .ok (.lor, 1) := by decide +kernel
theorem dX7_readTune_74 : decode cX7_readTune 74 = .ok (.lstore_n 2, 1) := by decide +kernel
theorem dX7_readTune_75 : decode cX7_readTune 75 = .ok (.aload_n 0, 1) := by decide +kernel
theorem dX7_readTune_76 : decode cX7_readTune 76 = .ok (.iload 5, 2) := by decide +kernel
theorem dX7_readTune_78 : decode cX7_readTune 78 = .ok (.ifCond .eq 18, 3) := by decide +kernel
theorem dX7_readTune_81 : decode cX7_readTune 81 = .ok (.aload_n 0, 1) := by decide +kernel
theorem dX7_readTune_82 : decode cX7_readTune 82 = .ok (.getfield 226, 3) := by decide +kernel
theorem dX7_readTune_85 : decode cX7_readTune 85 = .ok (.i2l, 1) := by decide +kernel
theorem dX7_readTune_86 : decode cX7_readTune 86 = .ok (.invokestatic 276, 3) := by decide +kernel
theorem dX7_readTune_89 : decode cX7_readTune 89 = .ok (.ifCond .eq 7, 3) := by decide +kernel
theorem dX7_readTune_92 : decode cX7_readTune 92 = .ok (.iconst 1, 1) := by decide +kernel
theorem dX7_readTune_93 : decode cX7_readTune 93 = .ok (.goto 4, 3) := by decide +kernel
theorem dX7_readTune_96 : decode cX7_readTune 96 = .ok (.iconst 0, 1) := by decide +kernel
theorem dX7_readTune_97 : decode cX7_readTune 97 = .ok (.invokevirtual 245, 3) := by decide +kernel
theorem dX7_readTune_100 : decode cX7_readTune 100 = .ok (.iinc 4 1, 3) := by decide +kernel
theorem dX7_readTune_103 : decode cX7_readTune 103 = .ok (.goto (-79), 3) := by decide +kernel
theorem dX7_readTune_106 : decode cX7_readTune 106 = .ok (.aload_n 0, 1) := by decide +kernel
theorem dX7_readTune_107 : decode cX7_readTune 107 = .ok (.iconst (-1), 1) := by decide +kernel
theorem dX7_readTune_108 : decode cX7_readTune 108 = .ok (.iload_n 1, 1) := by decide +kernel
theorem dX7_readTune_109 : decode cX7_readTune 109 = .ok (.iload 4, 2) := by decide +kernel
theorem dX7_readTune_111 : decode cX7_readTune 111 = .ok (.lload_n 2, 1) := by decide +kernel
theorem dX7_readTune_112 : decode cX7_readTune 112 = .ok (.invokevirtual 272, 3) := by decide +kernel
theorem dX7_readTune_115 : decode cX7_readTune 115 = .ok (.return_, 1) := by decide +kernel
theorem dX7_readItem_0 : decode cX7_readItem 0 = .ok (.iconst (-1), 1) := by decide +kernel
theorem dX7_readItem_1 : decode cX7_readItem 1 = .ok (.istore_n 1, 1) := by decide +kernel
theorem dX7_readItem_2 : decode cX7_readItem 2 = .ok (.iconst 0, 1) := by decide +kernel
theorem dX7_readItem_3 : decode cX7_readItem 3 = .ok (.istore_n 2, 1) := by decide +kernel
theorem dX7_readItem_4 : decode cX7_readItem 4 = .ok (.iload_n 2, 1) := by decide +kernel
theorem dX7_readItem_5 : decode cX7_readItem 5 = .ok (.aload_n 0, 1) := by decide +kernel
theorem dX7_readItem_6 : decode cX7_readItem 6 = .ok (.getfield 42, 3) := by decide +kernel
theorem dX7_readItem_9 : decode cX7_readItem 9 = .ok (.arraylength, 1) := by decide +kernel
theorem dX7_readItem_10 : decode cX7_readItem 10 = .ok (.if_icmp .ge 28, 3) := by decide +kernel
theorem dX7_readItem_13 : decode cX7_readItem 13 = .ok (.aload_n 0, 1) := by decide +kernel
theorem dX7_readItem_14 : decode cX7_readItem 14 = .ok (.aload_n 0, 1) := by decide +kernel
theorem dX7_readItem_15 : decode cX7_readItem 15 = .ok (.getfield 42, 3) := by decide +kernel
theorem dX7_readItem_18 : decode cX7_readItem 18 = .ok (.iload_n 2, 1) := by decide +kernel
theorem dX7_readItem_19 : decode cX7_readItem 19 = .ok (.aaload, 1) := by decide +kernel
theorem dX7_readItem_20 : decode cX7_readItem 20 = .ok (.invokevirtual 252, 3) := by decide +kernel
theorem dX7_readItem_23 : decode cX7_readItem 23 = .ok (.ifCond .eq 7, 3) := by decide +kernel
theorem dX7_readItem_26 : decode cX7_readItem 26 = .ok (.iload_n 2, 1) := by decide +kernel
theorem dX7_readItem_27 : decode cX7_readItem 27 = .ok (.goto 4, 3) := by decide +kernel
theorem dX7_readItem_30 : decode cX7_readItem 30 = .ok (.iload_n 1, 1) := by decide +kernel
theorem dX7_readItem_31 : decode cX7_readItem 31 = .ok (.istore_n 1, 1) := by decide +kernel
theorem dX7_readItem_32 : decode cX7_readItem 32 = .ok (.iinc 2 1, 3) := by decide +kernel
theorem dX7_readItem_35 : decode cX7_readItem 35 = .ok (.goto (-31), 3) := by decide +kernel
theorem dX7_readItem_38 : decode cX7_readItem 38 = .ok (.iload_n 1, 1) := by decide +kernel
theorem dX7_readItem_39 : decode cX7_readItem 39 = .ok (.ifCond .lt 11, 3) := by decide +kernel
theorem dX7_readItem_42 : decode cX7_readItem 42 = .ok (.aload_n 0, 1) := by decide +kernel
theorem dX7_readItem_43 : decode cX7_readItem 43 = .ok (.iload_n 1, 1) := by decide +kernel
theorem dX7_readItem_44 : decode cX7_readItem 44 = .ok (.invokevirtual 280, 3) := by decide +kernel
theorem dX7_readItem_47 : decode cX7_readItem 47 = .ok (.goto 25, 3) := by decide +kernel
theorem dX7_readItem_50 : decode cX7_readItem 50 = .ok (.aload_n 0, 1) := by decide +kernel
theorem dX7_readItem_51 : decode cX7_readItem 51 = .ok (.ldc_w 283, 3) := by decide +kernel
theorem dX7_readItem_54 : decode cX7_readItem 54 = .ok (.invokevirtual 252, 3) := by decide +kernel
theorem dX7_readItem_57 : decode cX7_readItem 57 = .ok (.ifCond .eq 10, 3) := by decide +kernel
theorem dX7_readItem_60 : decode cX7_readItem 60 = .ok (.aload_n 0, 1) := by decide +kernel
theorem dX7_readItem_61 : decode cX7_readItem 61 = .ok (.invokevirtual 285, 3) := by decide +kernel
theorem dX7_readItem_64 : decode cX7_readItem 64 = .ok (.goto 8, 3) := by decide +kernel
theorem dX7_readItem_67 : decode cX7_readItem 67 = .ok (.aload_n 0, 1) := by decide +kernel
theorem dX7_readItem_68 : decode cX7_readItem 68 = .ok (.iconst 0, 1) := by decide +kernel
theorem dX7_readItem_69 : decode cX7_readItem 69 = .ok (.invokevirtual 245, 3) := by decide +kernel
theorem dX7_readItem_72 : decode cX7_readItem 72 = .ok (.return_, 1) := by decide +kernel
theorem dX7_isToldSo_0 : decode cX7_isToldSo 0 = .ok (.aload_n 0, 1) := by decide +kernel
theorem dX7_isToldSo_1 : decode cX7_isToldSo 1 = .ok (.getfield 46, 3) := by decide +kernel
theorem dX7_isToldSo_4 : decode cX7_isToldSo 4 = .ok (.iload_n 1, 1) := by decide +kernel
theorem dX7_isToldSo_5 : decode cX7_isToldSo 5 = .ok (.iaload, 1) := by decide +kernel
theorem dX7_isToldSo_6 : decode cX7_isToldSo 6 = .ok (.ifCond .ge 28, 3) := by decide +kernel
theorem dX7_isToldSo_9 : decode cX7_isToldSo 9 = .ok (.aload_n 0, 1) := by decide +kernel
theorem dX7_isToldSo_10 : decode cX7_isToldSo 10 = .ok (.aload_n 0, 1) := by decide +kernel
theorem dX7_isToldSo_11 : decode cX7_isToldSo 11 = .ok (.getfield 49, 3) := by decide +kernel
theorem dX7_isToldSo_14 : decode cX7_isToldSo 14 = .ok (.iload_n 1, 1) := by decide +kernel
theorem dX7_isToldSo_15 : decode cX7_isToldSo 15 = .ok (.iaload, 1) := by decide +kernel
theorem dX7_isToldSo_16 : decode cX7_isToldSo 16 = .ok (.aload_n 0, 1) := by decide +kernel
theorem dX7_isToldSo_17 : decode cX7_isToldSo 17 = .ok (.getfield 52, 3) := by decide +kernel
theorem dX7_isToldSo_20 : decode cX7_isToldSo 20 = .ok (.iload_n 1, 1) := by decide +kernel
theorem dX7_isToldSo_21 : decode cX7_isToldSo 21 = .ok (.iaload, 1) := by decide +kernel
theorem dX7_isToldSo_22 : decode cX7_isToldSo 22 = .ok (.aload_n 0, 1) := by decide +kernel
theorem dX7_isToldSo_23 : decode cX7_isToldSo 23 = .ok (.getfield 55, 3) := by decide +kernel
theorem dX7_isToldSo_26 : decode cX7_isToldSo 26 = .ok (.iload_n 1, 1) := by decide +kernel
theorem dX7_isToldSo_27 : decode cX7_isToldSo 27 = .ok (.laload, 1) := by decide +kernel
theorem dX7_isToldSo_28 : decode cX7_isToldSo 28 = .ok (.invokevirtual 95, 3) := by decide +kernel
theorem dX7_isToldSo_31 : decode cX7_isToldSo 31 = .ok (.goto 32, 3) := by decide +kernel
theorem dX7_isToldSo_34 : decode cX7_isToldSo 34 = .ok (.aload_n 0, 1) := by decide +kernel
theorem dX7_isToldSo_35 : decode cX7_isToldSo 35 = .ok (.aload_n 0, 1) := by decide +kernel
theorem dX7_isToldSo_36 : decode cX7_isToldSo 36 = .ok (.getfield 46, 3) := by decide +kernel
theorem dX7_isToldSo_39 : decode cX7_isToldSo 39 = .ok (.iload_n 1, 1) := by decide +kernel
theorem dX7_isToldSo_40 : decode cX7_isToldSo 40 = .ok (.iaload, 1) := by decide +kernel
theorem dX7_isToldSo_41 : decode cX7_isToldSo 41 = .ok (.aload_n 0, 1) := by decide +kernel
theorem dX7_isToldSo_42 : decode cX7_isToldSo 42 = .ok (.getfield 49, 3) := by decide +kernel
theorem dX7_isToldSo_45 : decode cX7_isToldSo 45 = .ok (.iload_n 1, 1) := by decide +kernel
theorem dX7_isToldSo_46 : decode cX7_isToldSo 46 = .ok (.iaload, 1) := by decide +kernel
theorem dX7_isToldSo_47 : decode cX7_isToldSo 47 = .ok (.aload_n 0, 1) := by decide +kernel
theorem dX7_isToldSo_48 : decode cX7_isToldSo 48 = .ok (.getfield 52, 3) := by decide +kernel
theorem dX7_isToldSo_51 : decode cX7_isToldSo 51 = .ok (.iload_n 1, 1) := by decide +kernel
theorem dX7_isToldSo_52 : decode cX7_isToldSo 52 = .ok (.iaload, 1) := by decide +kernel
theorem dX7_isToldSo_53 : decode cX7_isToldSo 53 = .ok (.aload_n 0, 1) := by decide +kernel
theorem dX7_isToldSo_54 : decode cX7_isToldSo 54 = .ok (.getfield 55, 3) := by decide +kernel
theorem dX7_isToldSo_57 : decode cX7_isToldSo 57 = .ok (.iload_n 1, 1) := by decide +kernel
theorem dX7_isToldSo_58 : decode cX7_isToldSo 58 = .ok (.laload, 1) := by decide +kernel
theorem dX7_isToldSo_59 : decode cX7_isToldSo 59 = .ok (.l2i, 1) := by decide +kernel
theorem dX7_isToldSo_60 : decode cX7_isToldSo 60 = .ok (.invokevirtual 144, 3) := by decide +kernel
theorem dX7_isToldSo_63 : decode cX7_isToldSo 63 = .ok (.ireturn, 1) := by decide +kernel
theorem dX7_affair_0 : decode cX7_affair 0 = .ok (.aload_n 0, 1) := by decide +kernel
theorem dX7_affair_1 : decode cX7_affair 1 = .ok (.iconst 0, 1) := by decide +kernel
theorem dX7_affair_2 : decode cX7_affair 2 = .ok (.putfield 217, 3) := by decide +kernel
theorem dX7_affair_5 : decode cX7_affair 5 = .ok (.aload_n 0, 1) := by decide +kernel
theorem dX7_affair_6 : decode cX7_affair 6 = .ok (.iconst 0, 1) := by decide +kernel
theorem dX7_affair_7 : decode cX7_affair 7 = .ok (.putfield 238, 3) := by decide +kernel
theorem dX7_affair_10 : decode cX7_affair 10 = .ok (.aload_n 0, 1) := by decide +kernel
theorem dX7_affair_11 : decode cX7_affair 11 = .ok (.iconst 0, 1) := by decide +kernel
theorem dX7_affair_12 : decode cX7_affair 12 = .ok (.putfield 249, 3) := by decide +kernel
theorem dX7_affair_15 : decode cX7_affair 15 = .ok (.aload_n 0, 1) := by decide +kernel
theorem dX7_affair_16 : decode cX7_affair 16 = .ok (.aload_n 0, 1) := by decide +kernel
theorem dX7_affair_17 : decode cX7_affair 17 = .ok (.getfield 9, 3) := by decide +kernel
theorem dX7_affair_20 : decode cX7_affair 20 = .ok (.iconst 1, 1) := by decide +kernel
theorem dX7_affair_21 : decode cX7_affair 21 = .ok (.iaload, 1) := by decide +kernel
theorem dX7_affair_22 : decode cX7_affair 22 = .ok (.putfield 259, 3) := by decide +kernel
theorem dX7_affair_25 : decode cX7_affair 25 = .ok (.aload_n 0, 1) := by decide +kernel
theorem dX7_affair_26 : decode cX7_affair 26 = .ok (.invokevirtual 242, 3) := by decide +kernel
theorem dX7_affair_29 : decode cX7_affair 29 = .ok (.aload_n 0, 1) := by decide +kernel
theorem dX7_affair_30 : decode cX7_affair 30 = .ok (.invokevirtual 288, 3) := by decide +kernel
theorem dX7_affair_33 : decode cX7_affair 33 = .ok (.aload_n 0, 1) := by decide +kernel
theorem dX7_affair_34 : decode cX7_affair 34 = .ok (.getfield 238, 3) := by decide +kernel
theorem dX7_affair_37 : decode cX7_affair 37 = .ok (.ifCond .ne 37, 3) := by decide +kernel
theorem dX7_affair_40 : decode cX7_affair 40 = .ok (.aload_n 0, 1) := by decide +kernel
theorem dX7_affair_41 : decode cX7_affair 41 = .ok (.getfield 229, 3) := by decide +kernel
theorem dX7_affair_44 : decode cX7_affair 44 = .ok (.iconst 3, 1) := by decide +kernel
theorem dX7_affair_45 : decode cX7_affair 45 = .ok (.if_icmp .ne 29, 3) := by decide +kernel
theorem dX7_affair_48 : decode cX7_affair 48 = .ok (.aload_n 0, 1) := by decide +kernel
theorem dX7_affair_49 : decode cX7_affair 49 = .ok (.getfield 25, 3) := by decide +kernel
theorem dX7_affair_52 : decode cX7_affair 52 = .ok (.aload_n 0, 1) := by decide +kernel
theorem dX7_affair_53 : decode cX7_affair 53 = .ok (.getfield 220, 3) := by decide +kernel
theorem dX7_affair_56 : decode cX7_affair 56 = .ok (.iaload, 1) := by decide +kernel
theorem dX7_affair_57 : decode cX7_affair 57 = .ok (.bipush 59, 2) := by decide +kernel
theorem dX7_affair_59 : decode cX7_affair 59 = .ok (.if_icmp .ne 15, 3) := by decide +kernel
theorem dX7_affair_62 : decode cX7_affair 62 = .ok (.aload_n 0, 1) := by decide +kernel
theorem dX7_affair_63 : decode cX7_affair 63 = .ok (.iconst 1, 1) := by decide +kernel
theorem dX7_affair_64 : decode cX7_affair 64 = .ok (.invokevirtual 245, 3) := by decide +kernel
theorem dX7_affair_67 : decode cX7_affair 67 = .ok (.aload_n 0, 1) := by decide +kernel
theorem dX7_affair_68 : decode cX7_affair 68 = .ok (.invokevirtual 288, 3) := by decide +kernel
theorem dX7_affair_71 : decode cX7_affair 71 = .ok (.goto (-38), 3) := by decide +kernel
theorem dX7_affair_74 : decode cX7_affair 74 = .ok (.aload_n 0, 1) := by decide +kernel
theorem dX7_affair_75 : decode cX7_affair 75 = .ok (.aload_n 0, 1) := by decide +kernel
theorem dX7_affair_76 : decode cX7_affair 76 = .ok (.getfield 229, 3) := by decide +kernel
theorem dX7_affair_79 : decode cX7_affair 79 = .ok (.ifCond .ne 7, 3) := by decide +kernel
theorem dX7_affair_82 : decode cX7_affair 82 = .ok (.iconst 1, 1) := by decide +kernel
theorem dX7_affair_83 : decode cX7_affair 83 = .ok (.goto 4, 3) := by decide +kernel
theorem dX7_affair_86 : decode cX7_affair 86 = .ok (.iconst 0, 1) := by decide +kernel
theorem dX7_affair_87 : decode cX7_affair 87 = .ok (.invokevirtual 245, 3) := by decide +kernel
theorem dX7_affair_90 : decode cX7_affair 90 = .ok (.aload_n 0, 1) := by decide +kernel
theorem dX7_affair_91 : decode cX7_affair 91 = .ok (.iconst 0, 1) := by decide +kernel
theorem dX7_affair_92 : decode cX7_affair 92 = .ok (.putfield 213, 3) := by decide +kernel
theorem dX7_affair_95 : decode cX7_affair 95 = .ok (.aload_n 0, 1) := by decide +kernel
theorem dX7_affair_96 : decode cX7_affair 96 = .ok (.getfield 238, 3) := by decide +kernel
theorem dX7_affair_99 : decode cX7_affair 99 = .ok (.ifCond .eq 10, 3) := by decide +kernel
theorem dX7_affair_102 : decode cX7_affair 102 = .ok (.iconst (-1), 1) := by decide +kernel
theorem dX7_affair_103 : decode cX7_affair 103 = .ok (.aload_n 0, 1) := by decide +kernel
theorem dX7_affair_104 : decode cX7_affair 104 = .ok (.getfield 220, 3) := by decide +kernel
theorem dX7_affair_107 : decode cX7_affair 107 = .ok (.isub, 1) := by decide +kernel
theorem dX7_affair_108 : decode cX7_affair 108 = .ok (.ireturn, 1) := by decide +kernel
theorem dX7_affair_109 : decode cX7_affair 109 = .ok (.iconst 0, 1) := by decide +kernel
theorem dX7_affair_110 : decode cX7_affair 110 = .ok (.istore_n 1, 1) := by decide +kernel
theorem dX7_affair_111 : decode cX7_affair 111 = .ok (.iconst 0, 1) := by decide +kernel
theorem dX7_affair_112 : decode cX7_affair 112 = .ok (.istore_n 2, 1) := by decide +kernel
theorem dX7_affair_113 : decode cX7_affair 113 = .ok (.iload_n 2, 1) := by decide +kernel
theorem dX7_affair_114 : decode cX7_affair 114 = .ok (.aload_n 0, 1) := by decide +kernel
theorem dX7_affair_115 : decode cX7_affair 115 = .ok (.getfield 249, 3) := by decide +kernel
theorem dX7_affair_118 : decode cX7_affair 118 = .ok (.if_icmp .ge 25, 3) := by decide +kernel
theorem dX7_affair_121 : decode cX7_affair 121 = .ok (.iload_n 1, 1) := by decide +kernel
theorem dX7_affair_122 : decode cX7_affair 122 = .ok (.aload_n 0, 1) := by decide +kernel
theorem dX7_affair_123 : decode cX7_affair 123 = .ok (.iload_n 2, 1) := by decide +kernel
theorem dX7_affair_124 : decode cX7_affair 124 = .ok (.invokevirtual 291, 3) := by decide +kernel
theorem dX7_affair_127 : decode cX7_affair 127 = .ok (.ifCond .ge 7, 3) := by decide +kernel
theorem dX7_affair_130 : decode cX7_affair 130 = .ok (.iconst 0, 1) := by decide +kernel
theorem dX7_affair_131 : decode cX7_affair 131 = .ok (.goto 4, 3) := by decide +kernel
theorem dX7_affair_134 : decode cX7_affair 134 = .ok (.iconst 1, 1) := by decide +kernel
theorem dX7_affair_135 : decode cX7_affair 135 = .ok (.iadd, 1) := by decide +kernel
theorem dX7_affair_136 : decode cX7_affair 136 = .ok (.istore_n 1, 1) := by decide +kernel
theorem dX7_affair_137 : decode cX7_affair 137 = .ok (.iinc 2 1, 3) := by decide +kernel
theorem dX7_affair_140 : decode cX7_affair 140 = .ok (.goto (-27), 3) := by decide +kernel
theorem dX7_affair_143 : decode cX7_affair 143 = .ok (.iload_n 1, 1) := by decide +kernel
theorem dX7_affair_144 : decode cX7_affair 144 = .ok (.ireturn, 1) := by decide +kernel
theorem dX7_isSheet_0 : decode cX7_isSheet 0 = .ok (.iload_n 0, 1) := by decide +kernel
theorem dX7_isSheet_1 : decode cX7_isSheet 1 = .ok (.iconst 0, 1) := by decide +kernel
theorem dX7_isSheet_2 : decode cX7_isSheet 2 = .ok (.iconst 3, 1) := by decide +kernel
theorem dX7_isSheet_3 : decode cX7_isSheet 3 = .ok (.invokestatic 81, 3) := by decide +kernel
theorem dX7_isSheet_6 : decode cX7_isSheet 6 = .ok (.ireturn, 1) := by decide +kernel
theorem dX7_cutTo_0 : decode cX7_cutTo 0 = .ok (.iload_n 2, 1) := by decide +kernel
theorem dX7_cutTo_1 : decode cX7_cutTo 1 = .ok (.bipush 8, 2) := by decide +kernel
theorem dX7_cutTo_3 : decode cX7_cutTo 3 = .ok (.if_icmp .ne 10, 3) := by decide +kernel
theorem dX7_cutTo_6 : decode cX7_cutTo 6 = .ok (.lload_n 0, 1) := by decide +kernel
theorem dX7_cutTo_7 : decode cX7_cutTo 7 = .ok (.l2i, 1) := by decide +kernel
theorem dX7_cutTo_8 : decode cX7_cutTo 8 = .ok (.i2b, 1) := by decide +kernel
theorem dX7_cutTo_9 : decode cX7_cutTo 9 = .ok (.i2l, 1) := by decide +kernel
theorem dX7_cutTo_10 : decode cX7_cutTo 10 = .ok (.goto 17, 3) := by decide +kernel
theorem dX7_cutTo_13 : decode cX7_cutTo 13 = .ok (.iload_n 2, 1) := by decide +kernel
theorem dX7_cutTo_14 : decode cX7_cutTo 14 = .ok (.bipush 16, 2) := by decide +kernel
theorem dX7_cutTo_16 : decode cX7_cutTo 16 = .ok (.if_icmp .ne 10, 3) := by decide +kernel
theorem dX7_cutTo_19 : decode cX7_cutTo 19 = .ok (.lload_n 0, 1) := by decide +kernel
theorem dX7_cutTo_20 : decode cX7_cutTo 20 = .ok (.l2i, 1) := by decide +kernel
theorem dX7_cutTo_21 : decode cX7_cutTo 21 = .ok (.i2s, 1) := by decide +kernel
theorem dX7_cutTo_22 : decode cX7_cutTo 22 = .ok (.i2l, 1) := by decide +kernel
theorem dX7_cutTo_23 : decode cX7_cutTo 23 = .ok (.goto 4, 3) := by decide +kernel
theorem dX7_cutTo_26 : decode cX7_cutTo 26 = .ok (.lload_n 0, 1) := by decide +kernel
theorem dX7_cutTo_27 : decode cX7_cutTo 27 = .ok (.lreturn, 1) := by decide +kernel
theorem dX7_sheet_0 : decode cX7_sheet 0 = .ok (.iload_n 1, 1) := by decide +kernel
theorem dX7_sheet_1 : decode cX7_sheet 1 = .ok (.invokestatic 294, 3) := by decide +kernel
theorem dX7_sheet_4 : decode cX7_sheet 4 = .ok (.ifCond .eq 25, 3) := by decide +kernel
theorem dX7_sheet_7 : decode cX7_sheet 7 = .ok (.iload_n 2, 1) := by decide +kernel
theorem dX7_sheet_8 : decode cX7_sheet 8 = .ok (.ifCond .eq 28, 3) := by decide +kernel
theorem dX7_sheet_11 : decode cX7_sheet 11 = .ok (.iload_n 2, 1) := by decide +kernel
theorem dX7_sheet_12 : decode cX7_sheet 12 = .ok (.bipush 8, 2) := by decide +kernel
theorem dX7_sheet_14 : decode cX7_sheet 14 = .ok (.if_icmp .eq 22, 3) := by decide +kernel
theorem dX7_sheet_17 : decode cX7_sheet 17 = .ok (.iload_n 2, 1) := by decide +kernel
theorem dX7_sheet_18 : decode cX7_sheet 18 = .ok (.bipush 16, 2) := by decide +kernel
theorem dX7_sheet_20 : decode cX7_sheet 20 = .ok (.if_icmp .eq 16, 3) := by decide +kernel
theorem dX7_sheet_23 : decode cX7_sheet 23 = .ok (.iload_n 2, 1) := by decide +kernel
theorem dX7_sheet_24 : decode cX7_sheet 24 = .ok (.bipush 64, 2) := by decide +kernel
theorem dX7_sheet_26 : decode cX7_sheet 26 = .ok (.if_icmp .eq 10, 3) := by decide +kernel
theorem dX7_sheet_29 : decode cX7_sheet 29 = .ok (.aload_n 0, 1) := by decide +kernel
theorem dX7_sheet_30 : decode cX7_sheet 30 = .ok (.ldc 71, 2) := by decide +kernel
theorem dX7_sheet_32 : decode cX7_sheet 32 = .ok (.invokevirtual 77, 3) := by decide +kernel
theorem dX7_sheet_35 : decode cX7_sheet 35 = .ok (.ireturn, 1) := by decide +kernel
theorem dX7_sheet_36 : decode cX7_sheet 36 = .ok (.iload_n 3, 1) := by decide +kernel
theorem dX7_sheet_37 : decode cX7_sheet 37 = .ok (.ifCond .ge 11, 3) := by decide +kernel
theorem dX7_sheet_40 : decode cX7_sheet 40 = .ok (.aload_n 0, 1) := by decide +kernel
theorem dX7_sheet_41 : decode cX7_sheet 41 = .ok (.ldc_w 297, 3) := by decide +kernel
theorem dX7_sheet_44 : decode cX7_sheet 44 = .ok (.invokevirtual 77, 3) := by decide +kernel
theorem dX7_sheet_47 : decode cX7_sheet 47 = .ok (.ireturn, 1) := by decide +kernel
theorem dX7_sheet_48 : decode cX7_sheet 48 = .ok (.iload_n 3, 1) := by decide +kernel
theorem dX7_sheet_49 : decode cX7_sheet 49 = .ok (.bipush 40, 2) := by decide +kernel
theorem dX7_sheet_51 : decode cX7_sheet 51 = .ok (.if_icmp .le 10, 3) := by decide +kernel
theorem dX7_sheet_54 : decode cX7_sheet 54 = .ok (.aload_n 0, 1) := by decide +kernel
theorem dX7_sheet_55 : decode cX7_sheet 55 = .ok (.ldc 71, 2) := by decide +kernel
theorem dX7_sheet_57 : decode cX7_sheet 57 = .ok (.invokevirtual 77, 3) := by decide +kernel
theorem dX7_sheet_60 : decode cX7_sheet 60 = .ok (.ireturn, 1) := by decide +kernel
theorem dX7_sheet_61 : decode cX7_sheet 61 = .ok (.aload_n 0, 1) := by decide +kernel
theorem dX7_sheet_62 : decode cX7_sheet 62 = .ok (.getfield 59, 3) := by decide +kernel
theorem dX7_sheet_65 : decode cX7_sheet 65 = .ok (.iload_n 1, 1) := by decide +kernel
theorem dX7_sheet_66 : decode cX7_sheet 66 = .ok (.iload_n 2, 1) := by decide +kernel
theorem dX7_sheet_67 : decode cX7_sheet 67 = .ok (.iastore, 1) := by decide +kernel
theorem dX7_sheet_68 : decode cX7_sheet 68 = .ok (.aload_n 0, 1) := by decide +kernel
theorem dX7_sheet_69 : decode cX7_sheet 69 = .ok (.getfield 62, 3) := by decide +kernel
theorem dX7_sheet_72 : decode cX7_sheet 72 = .ok (.iload_n 1, 1) := by decide +kernel
theorem dX7_sheet_73 : decode cX7_sheet 73 = .ok (.iload_n 2, 1) := by decide +kernel
theorem dX7_sheet_74 : decode cX7_sheet 74 = .ok (.ifCond .ne 7, 3) := by decide +kernel
theorem dX7_sheet_77 : decode cX7_sheet 77 = .ok (.iconst 0, 1) := by decide +kernel
theorem dX7_sheet_78 : decode cX7_sheet 78 = .ok (.goto 4, 3) := by decide +kernel
theorem dX7_sheet_81 : decode cX7_sheet 81 = .ok (.iload_n 3, 1) := by decide +kernel
theorem dX7_sheet_82 : decode cX7_sheet 82 = .ok (.iastore, 1) := by decide +kernel
theorem dX7_sheet_83 : decode cX7_sheet 83 = .ok (.iconst 0, 1) := by decide +kernel
theorem dX7_sheet_84 : decode cX7_sheet 84 = .ok (.istore 4, 2) := by decide +kernel
theorem dX7_sheet_86 : decode cX7_sheet 86 = .ok (.iload 4, 2) := by decide +kernel
theorem dX7_sheet_88 : decode cX7_sheet 88 = .ok (.bipush 40, 2) := by decide +kernel
theorem dX7_sheet_90 : decode cX7_sheet 90 = .ok (.if_icmp .ge 22, 3) := by decide +kernel
theorem dX7_sheet_93 : decode cX7_sheet 93 = .ok (.aload_n 0, 1) := by decide +kernel
theorem dX7_sheet_94 : decode cX7_sheet 94 = .ok (.getfield 65, 3) := by decide +kernel
theorem dX7_sheet_97 : decode cX7_sheet 97 = .ok (.bipush 40, 2) := by decide +kernel
theorem dX7_sheet_99 : decode cX7_sheet 99 = .ok (.iload_n 1, 1) := by decide +kernel
theorem dX7_sheet_100 : decode cX7_sheet 100 = .ok (.imul, 1) := by decide +kernel
theorem dX7_sheet_101 : decode cX7_sheet 101 = .ok (.iload 4, 2) := by decide +kernel
theorem dX7_sheet_103 : decode cX7_sheet 103 = .ok (.iadd, 1) := by decide +kernel
theorem dX7_sheet_104 : decode cX7_sheet 104 = .ok (.lconst 0, 1) := by decide +kernel
theorem dX7_sheet_105 : decode cX7_sheet 105 = .ok (.lastore, 1) := by decide +kernel
theorem dX7_sheet_106 : decode cX7_sheet 106 = .ok (.iinc 4 1, 3) := by decide +kernel
theorem dX7_sheet_109 : decode cX7_sheet 109 = .ok (.goto (-23), 3) := by decide +kernel
theorem dX7_sheet_112 : decode cX7_sheet 112 = .ok (.aload_n 0, 1) := by decide +kernel
theorem dX7_sheet_113 : decode cX7_sheet 113 = .ok (.getfield 62, 3) := by decide +kernel
theorem dX7_sheet_116 : decode cX7_sheet 116 = .ok (.iload_n 1, 1) := by decide +kernel
theorem dX7_sheet_117 : decode cX7_sheet 117 = .ok (.iaload, 1) := by decide +kernel
theorem dX7_sheet_118 : decode cX7_sheet 118 = .ok (.ireturn, 1) := by decide +kernel
theorem dX7_write_0 : decode cX7_write 0 = .ok (.iload_n 1, 1) := by decide +kernel
theorem dX7_write_1 : decode cX7_write 1 = .ok (.invokestatic 294, 3) := by decide +kernel
theorem dX7_write_4 : decode cX7_write 4 = .ok (.ifCond .ne 11, 3) := by decide +kernel
theorem dX7_write_7 : decode cX7_write 7 = .ok (.aload_n 0, 1) := by decide +kernel
theorem dX7_write_8 : decode cX7_write 8 = .ok (.ldc 71, 2) := by decide +kernel
theorem dX7_write_10 : decode cX7_write 10 = .ok (.invokevirtual 77, 3) := by decide +kernel
theorem dX7_write_13 : decode cX7_write 13 = .ok (.i2l, 1) := by decide +kernel
theorem dX7_write_14 : decode cX7_write 14 = .ok (.lreturn, 1) := by decide +kernel
theorem dX7_write_15 : decode cX7_write 15 = .ok (.aload_n 0, 1) := by decide +kernel
theorem dX7_write_16 : decode cX7_write 16 = .ok (.getfield 59, 3) := by decide +kernel
theorem dX7_write_19 : decode cX7_write 19 = .ok (.iload_n 1, 1) := by decide +kernel
theorem dX7_write_20 : decode cX7_write 20 = .ok (.iaload, 1) := by decide +kernel
theorem dX7_write_21 : decode cX7_write 21 = .ok (.ifCond .ne 12, 3) := by decide +kernel
theorem dX7_write_24 : decode cX7_write 24 = .ok (.aload_n 0, 1) := by decide +kernel
theorem dX7_write_25 : decode cX7_write 25 = .ok (.ldc_w 298, 3) := by decide +kernel
theorem dX7_write_28 : decode cX7_write 28 = .ok (.invokevirtual 77, 3) := by decide +kernel
theorem dX7_write_31 : decode cX7_write 31 = .ok (.i2l, 1) := by decide +kernel
theorem dX7_write_32 : decode cX7_write 32 = .ok (.lreturn, 1) := by decide +kernel
theorem dX7_write_33 : decode cX7_write 33 = .ok (.iload_n 2, 1) := by decide +kernel
theorem dX7_write_34 : decode cX7_write 34 = .ok (.iconst 0, 1) := by decide +kernel
theorem dX7_write_35 : decode cX7_write 35 = .ok (.aload_n 0, 1) := by decide +kernel
theorem dX7_write_36 : decode cX7_write 36 = .ok (.getfield 62, 3) := by decide +kernel
theorem dX7_write_39 : decode cX7_write 39 = .ok (.iload_n 1, 1) := by decide +kernel
theorem dX7_write_40 : decode cX7_write 40 = .ok (.iaload, 1) := by decide +kernel
theorem dX7_write_41 : decode cX7_write 41 = .ok (.iconst 1, 1) := by decide +kernel
theorem dX7_write_42 : decode cX7_write 42 = .ok (.isub, 1) := by decide +kernel
theorem dX7_write_43 : decode cX7_write 43 = .ok (.invokestatic 81, 3) := by decide +kernel
theorem dX7_write_46 : decode cX7_write 46 = .ok (.ifCond .ne 11, 3) := by decide +kernel
theorem dX7_write_49 : decode cX7_write 49 = .ok (.aload_n 0, 1) := by decide +kernel
theorem dX7_write_50 : decode cX7_write 50 = .ok (.ldc 71, 2) := by decide +kernel
theorem dX7_write_52 : decode cX7_write 52 = .ok (.invokevirtual 77, 3) := by decide +kernel
theorem dX7_write_55 : decode cX7_write 55 = .ok (.i2l, 1) := by decide +kernel
theorem dX7_write_56 : decode cX7_write 56 = .ok (.lreturn, 1) := by decide +kernel
theorem dX7_write_57 : decode cX7_write 57 = .ok (.aload_n 0, 1) := by decide +kernel
theorem dX7_write_58 : decode cX7_write 58 = .ok (.getfield 65, 3) := by decide +kernel
theorem dX7_write_61 : decode cX7_write 61 = .ok (.bipush 40, 2) := by decide +kernel
theorem dX7_write_63 : decode cX7_write 63 = .ok (.iload_n 1, 1) := by decide +kernel
theorem dX7_write_64 : decode cX7_write 64 = .ok (.imul, 1) := by decide +kernel
theorem dX7_write_65 : decode cX7_write 65 = .ok (.iload_n 2, 1) := by decide +kernel
theorem dX7_write_66 : decode cX7_write 66 = .ok (.iadd, 1) := by decide +kernel
theorem dX7_write_67 : decode cX7_write 67 = .ok (.laload, 1) := by decide +kernel
theorem dX7_write_68 : decode cX7_write 68 = .ok (.lstore 5, 2) := by decide +kernel
theorem dX7_write_70 : decode cX7_write 70 = .ok (.aload_n 0, 1) := by decide +kernel
theorem dX7_write_71 : decode cX7_write 71 = .ok (.getfield 65, 3) := by decide +kernel
theorem dX7_write_74 : decode cX7_write 74 = .ok (.bipush 40, 2) := by decide +kernel
theorem dX7_write_76 : decode cX7_write 76 = .ok (.iload_n 1, 1) := by decide +kernel
theorem dX7_write_77 : decode cX7_write 77 = .ok (.imul, 1) := by decide +kernel
theorem dX7_write_78 : decode cX7_write 78 = .ok (.iload_n 2, 1) := by decide +kernel
theorem dX7_write_79 : decode cX7_write 79 = .ok (.iadd, 1) := by decide +kernel
theorem dX7_write_80 : decode cX7_write 80 = .ok (.lload_n 3, 1) := by decide +kernel
theorem dX7_write_81 : decode cX7_write 81 = .ok (.aload_n 0, 1) := by decide +kernel
theorem dX7_write_82 : decode cX7_write 82 = .ok (.getfield 59, 3) := by decide +kernel
theorem dX7_write_85 : decode cX7_write 85 = .ok (.iload_n 1, 1) := by decide +kernel
theorem dX7_write_86 : decode cX7_write 86 = .ok (.iaload, 1) := by decide +kernel
theorem dX7_write_87 : decode cX7_write 87 = .ok (.invokestatic 299, 3) := by decide +kernel
theorem dX7_write_90 : decode cX7_write 90 = .ok (.lastore, 1) := by decide +kernel
theorem dX7_write_91 : decode cX7_write 91 = .ok (.lload 5, 2) := by decide +kernel
theorem dX7_write_93 : decode cX7_write 93 = .ok (.lreturn, 1) := by decide +kernel
theorem dX7_copy_0 : decode cX7_copy 0 = .ok (.iload_n 1, 1) := by decide +kernel
theorem dX7_copy_1 : decode cX7_copy 1 = .ok (.invokestatic 294, 3) := by decide +kernel
theorem dX7_copy_4 : decode cX7_copy 4 = .ok (.ifCond .eq 10, 3) := by decide +kernel
theorem dX7_copy_7 : decode cX7_copy 7 = .ok (.iload_n 3, 1) := by decide +kernel
theorem dX7_copy_8 : decode cX7_copy 8 = .ok (.invokestatic 294, 3) := by decide +kernel
theorem dX7_copy_11 : decode cX7_copy 11 = .ok (.ifCond .ne 10, 3) := by decide +kernel
theorem dX7_copy_14 : decode cX7_copy 14 = .ok (.aload_n 0, 1) := by decide +kernel
theorem dX7_copy_15 : decode cX7_copy 15 = .ok (.ldc 71, 2) := by decide +kernel
theorem dX7_copy_17 : decode cX7_copy 17 = .ok (.invokevirtual 77, 3) := by decide +kernel
theorem dX7_copy_20 : decode cX7_copy 20 = .ok (.ireturn, 1) := by decide +kernel
theorem dX7_copy_21 : decode cX7_copy 21 = .ok (.aload_n 0, 1) := by decide +kernel
theorem dX7_copy_22 : decode cX7_copy 22 = .ok (.getfield 59, 3) := by decide +kernel
theorem dX7_copy_25 : decode cX7_copy 25 = .ok (.iload_n 1, 1) := by decide +kernel
theorem dX7_copy_26 : decode cX7_copy 26 = .ok (.iaload, 1) := by decide +kernel
theorem dX7_copy_27 : decode cX7_copy 27 = .ok (.ifCond .eq 12, 3) := by decide +kernel
theorem dX7_copy_30 : decode cX7_copy 30 = .ok (.aload_n 0, 1) := by decide +kernel
theorem dX7_copy_31 : decode cX7_copy 31 = .ok (.getfield 59, 3) := by decide +kernel
theorem dX7_copy_34 : decode cX7_copy 34 = .ok (.iload_n 3, 1) := by decide +kernel
theorem dX7_copy_35 : decode cX7_copy 35 = .ok (.iaload, 1) := by decide +kernel
theorem dX7_copy_36 : decode cX7_copy 36 = .ok (.ifCond .ne 11, 3) := by decide +kernel
theorem dX7_copy_39 : decode cX7_copy 39 = .ok (.aload_n 0, 1) := by decide +kernel
theorem dX7_copy_40 : decode cX7_copy 40 = .ok (.ldc_w 298, 3) := by decide +kernel
theorem dX7_copy_43 : decode cX7_copy 43 = .ok (.invokevirtual 77, 3) := by decide +kernel
theorem dX7_copy_46 : decode cX7_copy 46 = .ok (.ireturn, 1) := by decide +kernel
theorem dX7_copy_47 : decode cX7_copy 47 = .ok (.aload_n 0, 1) := by decide +kernel
theorem dX7_copy_48 : decode cX7_copy 48 = .ok (.getfield 59, 3) := by decide +kernel
theorem dX7_copy_51 : decode cX7_copy 51 = .ok (.iload_n 1, 1) := by decide +kernel
theorem dX7_copy_52 : decode cX7_copy 52 = .ok (.iaload, 1) := by decide +kernel
theorem dX7_copy_53 : decode cX7_copy 53 = .ok (.aload_n 0, 1) := by decide +kernel
theorem dX7_copy_54 : decode cX7_copy 54 = .ok (.getfield 59, 3) := by decide +kernel
theorem dX7_copy_57 : decode cX7_copy 57 = .ok (.iload_n 3, 1) := by decide +kernel
theorem dX7_copy_58 : decode cX7_copy 58 = .ok (.iaload, 1) := by decide +kernel
theorem dX7_copy_59 : decode cX7_copy 59 = .ok (.if_icmp .eq 10, 3) := by decide +kernel
theorem dX7_copy_62 : decode cX7_copy 62 = .ok (.aload_n 0, 1) := by decide +kernel
theorem dX7_copy_63 : decode cX7_copy 63 = .ok (.ldc 164, 2) := by decide +kernel
theorem dX7_copy_65 : decode cX7_copy 65 = .ok (.invokevirtual 77, 3) := by decide +kernel
theorem dX7_copy_68 : decode cX7_copy 68 = .ok (.ireturn, 1) := by decide +kernel
theorem dX7_copy_69 : decode cX7_copy 69 = .ok (.iload_n 2, 1) := by decide +kernel
theorem dX7_copy_70 : decode cX7_copy 70 = .ok (.ifCond .lt 48, 3) := by decide +kernel
theorem dX7_copy_73 : decode cX7_copy 73 = .ok (.iload 4, 2) := by decide +kernel
theorem dX7_copy_75 : decode cX7_copy 75 = .ok (.ifCond .lt 43, 3) := by decide +kernel
theorem dX7_copy_78 : decode cX7_copy 78 = .ok (.iload 5, 2) := by decide +kernel
theorem dX7_copy_80 : decode cX7_copy 80 = .ok (.ifCond .lt 38, 3) := by decide +kernel
theorem dX7_copy_83 : decode cX7_copy 83 = .ok (.iload_n 2, 1) := by decide +kernel
theorem dX7_copy_84 : decode cX7_copy 84 = .ok (.i2l, 1) := by decide +kernel
theorem dX7_copy_85 : decode cX7_copy 85 = .ok (.iload 5, 2) := by decide +kernel
theorem dX7_copy_87 : decode cX7_copy 87 = .ok (.i2l, 1) := by decide +kernel
theorem dX7_copy_88 : decode cX7_copy 88 = .ok (.ladd, 1) := by decide +kernel
theorem dX7_copy_89 : decode cX7_copy 89 = .ok (.aload_n 0, 1) := by decide +kernel
theorem dX7_copy_90 : decode cX7_copy 90 = .ok (.getfield 62, 3) := by decide +kernel
theorem dX7_copy_93 : decode cX7_copy 93 = .ok (.iload_n 1, 1) := by decide +kernel
theorem dX7_copy_94 : decode cX7_copy 94 = .ok (.iaload, 1) := by decide +kernel
theorem dX7_copy_95 : decode cX7_copy 95 = .ok (.i2l, 1) := by decide +kernel
theorem dX7_copy_96 : decode cX7_copy 96 = .ok (.lcmp, 1) := by decide +kernel
theorem dX7_copy_97 : decode cX7_copy 97 = .ok (.ifCond .gt 21, 3) := by decide +kernel
theorem dX7_copy_100 : decode cX7_copy 100 = .ok (.iload 4, 2) := by decide +kernel
theorem dX7_copy_102 : decode cX7_copy 102 = .ok (.i2l, 1) := by decide +kernel
theorem dX7_copy_103 : decode cX7_copy 103 = .ok (.iload 5, 2) := by decide +kernel
theorem dX7_copy_105 : decode cX7_copy 105 = .ok (.i2l, 1) := by decide +kernel
theorem dX7_copy_106 : decode cX7_copy 106 = .ok (.ladd, 1) := by decide +kernel
theorem dX7_copy_107 : decode cX7_copy 107 = .ok (.aload_n 0, 1) := by decide +kernel
theorem dX7_copy_108 : decode cX7_copy 108 = .ok (.getfield 62, 3) := by decide +kernel
theorem dX7_copy_111 : decode cX7_copy 111 = .ok (.iload_n 3, 1) := by decide +kernel
theorem dX7_copy_112 : decode cX7_copy 112 = .ok (.iaload, 1) := by decide +kernel
theorem dX7_copy_113 : decode cX7_copy 113 = .ok (.i2l, 1) := by decide +kernel
theorem dX7_copy_114 : decode cX7_copy 114 = .ok (.lcmp, 1) := by decide +kernel
theorem dX7_copy_115 : decode cX7_copy 115 = .ok (.ifCond .le 10, 3) := by decide +kernel
theorem dX7_copy_118 : decode cX7_copy 118 = .ok (.aload_n 0, 1) := by decide +kernel
theorem dX7_copy_119 : decode cX7_copy 119 = .ok (.ldc 71, 2) := by decide +kernel
theorem dX7_copy_121 : decode cX7_copy 121 = .ok (.invokevirtual 77, 3) := by decide +kernel
theorem dX7_copy_124 : decode cX7_copy 124 = .ok (.ireturn, 1) := by decide +kernel
theorem dX7_copy_125 : decode cX7_copy 125 = .ok (.iconst 0, 1) := by decide +kernel
theorem dX7_copy_126 : decode cX7_copy 126 = .ok (.istore 6, 2) := by decide +kernel
theorem dX7_copy_128 : decode cX7_copy 128 = .ok (.iload 6, 2) := by decide +kernel
theorem dX7_copy_130 : decode cX7_copy 130 = .ok (.iload 5, 2) := by decide +kernel
theorem dX7_copy_132 : decode cX7_copy 132 = .ok (.if_icmp .ge 30, 3) := by decide +kernel
theorem dX7_copy_135 : decode cX7_copy 135 = .ok (.aload_n 0, 1) := by decide +kernel
theorem dX7_copy_136 : decode cX7_copy 136 = .ok (.getfield 68, 3) := by decide +kernel
theorem dX7_copy_139 : decode cX7_copy 139 = .ok (.iload 6, 2) := by decide +kernel
theorem dX7_copy_141 : decode cX7_copy 141 = .ok (.aload_n 0, 1) := by decide +kernel
theorem dX7_copy_142 : decode cX7_copy 142 = .ok (.getfield 65, 3) := by decide +kernel
theorem dX7_copy_145 : decode cX7_copy 145 = .ok (.bipush 40, 2) := by decide +kernel
theorem dX7_copy_147 : decode cX7_copy 147 = .ok (.iload_n 1, 1) := by decide +kernel
theorem dX7_copy_148 : decode cX7_copy 148 = .ok (.imul, 1) := by decide +kernel
theorem dX7_copy_149 : decode cX7_copy 149 = .ok (.iload_n 2, 1) := by decide +kernel
theorem dX7_copy_150 : decode cX7_copy 150 = .ok (.iadd, 1) := by decide +kernel
theorem dX7_copy_151 : decode cX7_copy 151 = .ok (.iload 6, 2) := by decide +kernel
theorem dX7_copy_153 : decode cX7_copy 153 = .ok (.iadd, 1) := by decide +kernel
theorem dX7_copy_154 : decode cX7_copy 154 = .ok (.laload, 1) := by decide +kernel
theorem dX7_copy_155 : decode cX7_copy 155 = .ok (.lastore, 1) := by decide +kernel
theorem dX7_copy_156 : decode cX7_copy 156 = .ok (.iinc 6 1, 3) := by decide +kernel
theorem dX7_copy_159 : decode cX7_copy 159 = .ok (.goto (-31), 3) := by decide +kernel
theorem dX7_copy_162 : decode cX7_copy 162 = .ok (.iconst 0, 1) := by decide +kernel
theorem dX7_copy_163 : decode cX7_copy 163 = .ok (.istore 6, 2) := by decide +kernel
theorem dX7_copy_165 : decode cX7_copy 165 = .ok (.iload 6, 2) := by decide +kernel
theorem dX7_copy_167 : decode cX7_copy 167 = .ok (.iload 5, 2) := by decide +kernel
theorem dX7_copy_169 : decode cX7_copy 169 = .ok (.if_icmp .ge 31, 3) := by decide +kernel
theorem dX7_copy_172 : decode cX7_copy 172 = .ok (.aload_n 0, 1) := by decide +kernel
theorem dX7_copy_173 : decode cX7_copy 173 = .ok (.getfield 65, 3) := by decide +kernel
theorem dX7_copy_176 : decode cX7_copy 176 = .ok (.bipush 40, 2) := by decide +kernel
theorem dX7_copy_178 : decode cX7_copy 178 = .ok (.iload_n 3, 1) := by decide +kernel
theorem dX7_copy_179 : decode cX7_copy 179 = .ok (.imul, 1) := by decide +kernel
theorem dX7_copy_180 : decode cX7_copy 180 = .ok (.iload 4, 2) := by decide +kernel
theorem dX7_copy_182 : decode cX7_copy 182 = .ok (.iadd, 1) := by decide +kernel
theorem dX7_copy_183 : decode cX7_copy 183 = .ok (.iload 6, 2) := by decide +kernel
theorem dX7_copy_185 : decode cX7_copy 185 = .ok (.iadd, 1) := by decide +kernel
theorem dX7_copy_186 : decode cX7_copy 186 = .ok (.aload_n 0, 1) := by decide +kernel
theorem dX7_copy_187 : decode cX7_copy 187 = .ok (.getfield 68, 3) := by decide +kernel
theorem dX7_copy_190 : decode cX7_copy 190 = .ok (.iload 6, 2) := by decide +kernel
theorem dX7_copy_192 : decode cX7_copy 192 = .ok (.laload, 1) := by decide +kernel
theorem dX7_copy_193 : decode cX7_copy 193 = .ok (.lastore, 1) := by decide +kernel
theorem dX7_copy_194 : decode cX7_copy 194 = .ok (.iinc 6 1, 3) := by decide +kernel
theorem dX7_copy_197 : decode cX7_copy 197 = .ok (.goto (-32), 3) := by decide +kernel
theorem dX7_copy_200 : decode cX7_copy 200 = .ok (.iload 5, 2) := by decide +kernel
theorem dX7_copy_202 : decode cX7_copy 202 = .ok (.ireturn, 1) := by decide +kernel
theorem dX7_lacks_0 : decode cX7_lacks 0 = .ok (.iload_n 1, 1) := by decide +kernel
theorem dX7_lacks_1 : decode cX7_lacks 1 = .ok (.invokestatic 294, 3) := by decide +kernel
theorem dX7_lacks_4 : decode cX7_lacks 4 = .ok (.ifCond .ne 8, 3) := by decide +kernel
theorem dX7_lacks_7 : decode cX7_lacks 7 = .ok (.ldc 71, 2) := by decide +kernel
theorem dX7_lacks_9 : decode cX7_lacks 9 = .ok (.goto 28, 3) := by decide +kernel
theorem dX7_lacks_12 : decode cX7_lacks 12 = .ok (.aload_n 0, 1) := by decide +kernel
theorem dX7_lacks_13 : decode cX7_lacks 13 = .ok (.getfield 59, 3) := by decide +kernel
theorem dX7_lacks_16 : decode cX7_lacks 16 = .ok (.iload_n 1, 1) := by decide +kernel
theorem dX7_lacks_17 : decode cX7_lacks 17 = .ok (.iaload, 1) := by decide +kernel
theorem dX7_lacks_18 : decode cX7_lacks 18 = .ok (.ifCond .ne 9, 3) := by decide +kernel
theorem dX7_lacks_21 : decode cX7_lacks 21 = .ok (.ldc_w 298, 3) := by decide +kernel
theorem dX7_lacks_24 : decode cX7_lacks 24 = .ok (.goto 13, 3) := by decide +kernel
theorem dX7_lacks_27 : decode cX7_lacks 27 = .ok (.iload_n 2, 1) := by decide +kernel
theorem dX7_lacks_28 : decode cX7_lacks 28 = .ok (.ifCond .eq 7, 3) := by decide +kernel
theorem dX7_lacks_31 : decode cX7_lacks 31 = .ok (.iconst 0, 1) := by decide +kernel
theorem dX7_lacks_32 : decode cX7_lacks 32 = .ok (.goto 5, 3) := by decide +kernel
theorem dX7_lacks_35 : decode cX7_lacks 35 = .ok (.ldc 71, 2) := by decide +kernel
theorem dX7_lacks_37 : decode cX7_lacks 37 = .ok (.ireturn, 1) := by decide +kernel
theorem dX7_lays_0 : decode cX7_lays 0 = .ok (.aload_n 0, 1) := by decide +kernel
theorem dX7_lays_1 : decode cX7_lays 1 = .ok (.iload_n 1, 1) := by decide +kernel
theorem dX7_lays_2 : decode cX7_lays 2 = .ok (.iload_n 2, 1) := by decide +kernel
theorem dX7_lays_3 : decode cX7_lays 3 = .ok (.invokestatic 91, 3) := by decide +kernel
theorem dX7_lays_6 : decode cX7_lays 6 = .ok (.invokevirtual 303, 3) := by decide +kernel
theorem dX7_lays_9 : decode cX7_lays 9 = .ok (.istore_n 3, 1) := by decide +kernel
theorem dX7_lays_10 : decode cX7_lays 10 = .ok (.iload_n 3, 1) := by decide +kernel
theorem dX7_lays_11 : decode cX7_lays 11 = .ok (.ifCond .eq 9, 3) := by decide +kernel
theorem dX7_lays_14 : decode cX7_lays 14 = .ok (.aload_n 0, 1) := by decide +kernel
theorem dX7_lays_15 : decode cX7_lays 15 = .ok (.iload_n 3, 1) := by decide +kernel
theorem dX7_lays_16 : decode cX7_lays 16 = .ok (.invokevirtual 77, 3) := by decide +kernel
theorem dX7_lays_19 : decode cX7_lays 19 = .ok (.ireturn, 1) := by decide +kernel
theorem dX7_lays_20 : decode cX7_lays 20 = .ok (.iconst 0, 1) := by decide +kernel
theorem dX7_lays_21 : decode cX7_lays 21 = .ok (.istore 4, 2) := by decide +kernel
theorem dX7_lays_23 : decode cX7_lays 23 = .ok (.iload 4, 2) := by decide +kernel
theorem dX7_lays_25 : decode cX7_lays 25 = .ok (.aload_n 0, 1) := by decide +kernel
theorem dX7_lays_26 : decode cX7_lays 26 = .ok (.getfield 62, 3) := by decide +kernel
theorem dX7_lays_29 : decode cX7_lays 29 = .ok (.iload_n 1, 1) := by decide +kernel
theorem dX7_lays_30 : decode cX7_lays 30 = .ok (.iaload, 1) := by decide +kernel
theorem dX7_lays_31 : decode cX7_lays 31 = .ok (.if_icmp .ge 61, 3) := by decide +kernel
theorem dX7_lays_34 : decode cX7_lays 34 = .ok (.iload 4, 2) := by decide +kernel
theorem dX7_lays_36 : decode cX7_lays 36 = .ok (.bipush 12, 2) := by decide +kernel
theorem dX7_lays_38 : decode cX7_lays 38 = .ok (.if_icmp .ge 54, 3) := by decide +kernel
theorem dX7_lays_41 : decode cX7_lays 41 = .ok (.aload_n 0, 1) := by decide +kernel
theorem dX7_lays_42 : decode cX7_lays 42 = .ok (.getfield 65, 3) := by decide +kernel
theorem dX7_lays_45 : decode cX7_lays 45 = .ok (.bipush 40, 2) := by decide +kernel
theorem dX7_lays_47 : decode cX7_lays 47 = .ok (.iload_n 1, 1) := by decide +kernel
theorem dX7_lays_48 : decode cX7_lays 48 = .ok (.imul, 1) := by decide +kernel
theorem dX7_lays_49 : decode cX7_lays 49 = .ok (.iload 4, 2) := by decide +kernel
theorem dX7_lays_51 : decode cX7_lays 51 = .ok (.iadd, 1) := by decide +kernel
theorem dX7_lays_52 : decode cX7_lays 52 = .ok (.laload, 1) := by decide +kernel
theorem dX7_lays_53 : decode cX7_lays 53 = .ok (.invokestatic 276, 3) := by decide +kernel
theorem dX7_lays_56 : decode cX7_lays 56 = .ok (.ifCond .eq 36, 3) := by decide +kernel
theorem dX7_lays_59 : decode cX7_lays 59 = .ok (.aload_n 0, 1) := by decide +kernel
theorem dX7_lays_60 : decode cX7_lays 60 = .ok (.getfield 9, 3) := by decide +kernel
theorem dX7_lays_63 : decode cX7_lays 63 = .ok (.iconst 4, 1) := by decide +kernel
theorem dX7_lays_64 : decode cX7_lays 64 = .ok (.bipush 12, 2) := by decide +kernel
theorem dX7_lays_66 : decode cX7_lays 66 = .ok (.iload_n 2, 1) := by decide +kernel
theorem dX7_lays_67 : decode cX7_lays 67 = .ok (.imul, 1) := by decide +kernel
theorem dX7_lays_68 : decode cX7_lays 68 = .ok (.iadd, 1) := by decide +kernel
theorem dX7_lays_69 : decode cX7_lays 69 = .ok (.iload 4, 2) := by decide +kernel
theorem dX7_lays_71 : decode cX7_lays 71 = .ok (.iadd, 1) := by decide +kernel
theorem dX7_lays_72 : decode cX7_lays 72 = .ok (.aload_n 0, 1) := by decide +kernel
theorem dX7_lays_73 : decode cX7_lays 73 = .ok (.getfield 65, 3) := by decide +kernel
theorem dX7_lays_76 : decode cX7_lays 76 = .ok (.bipush 40, 2) := by decide +kernel
theorem dX7_lays_78 : decode cX7_lays 78 = .ok (.iload_n 1, 1) := by decide +kernel
theorem dX7_lays_79 : decode cX7_lays 79 = .ok (.imul, 1) := by decide +kernel
theorem dX7_lays_80 : decode cX7_lays 80 = .ok (.iload 4, 2) := by decide +kernel
theorem dX7_lays_82 : decode cX7_lays 82 = .ok (.iadd, 1) := by decide +kernel
theorem dX7_lays_83 : decode cX7_lays 83 = .ok (.laload, 1) := by decide +kernel
theorem dX7_lays_84 : decode cX7_lays 84 = .ok (.l2i, 1) := by decide +kernel
theorem dX7_lays_85 : decode cX7_lays 85 = .ok (.iastore, 1) := by decide +kernel
theorem dX7_lays_86 : decode cX7_lays 86 = .ok (.iinc 4 1, 3) := by decide +kernel
theorem dX7_lays_89 : decode cX7_lays 89 = .ok (.goto (-66), 3) := by decide +kernel
theorem dX7_lays_92 : decode cX7_lays 92 = .ok (.aload_n 0, 1) := by decide +kernel
theorem dX7_lays_93 : decode cX7_lays 93 = .ok (.getfield 9, 3) := by decide +kernel
theorem dX7_lays_96 : decode cX7_lays 96 = .ok (.iconst 2, 1) := by decide +kernel
theorem dX7_lays_97 : decode cX7_lays 97 = .ok (.iload_n 2, 1) := by decide +kernel
theorem dX7_lays_98 : decode cX7_lays 98 = .ok (.iadd, 1) := by decide +kernel
theorem dX7_lays_99 : decode cX7_lays 99 = .ok (.iload 4, 2) := by decide +kernel
theorem dX7_lays_101 : decode cX7_lays 101 = .ok (.iastore, 1) := by decide +kernel
theorem dX7_lays_102 : decode cX7_lays 102 = .ok (.iload 4, 2) := by decide +kernel
theorem dX7_lays_104 : decode cX7_lays 104 = .ok (.ireturn, 1) := by decide +kernel
theorem dX7_book_0 : decode cX7_book 0 = .ok (.aload_n 0, 1) := by decide +kernel
theorem dX7_book_1 : decode cX7_book 1 = .ok (.iload_n 1, 1) := by decide +kernel
theorem dX7_book_2 : decode cX7_book 2 = .ok (.iload_n 2, 1) := by decide +kernel
theorem dX7_book_3 : decode cX7_book 3 = .ok (.invokestatic 91, 3) := by decide +kernel
theorem dX7_book_6 : decode cX7_book 6 = .ok (.invokevirtual 303, 3) := by decide +kernel
theorem dX7_book_9 : decode cX7_book 9 = .ok (.istore_n 3, 1) := by decide +kernel
theorem dX7_book_10 : decode cX7_book 10 = .ok (.iload_n 3, 1) := by decide +kernel
theorem dX7_book_11 : decode cX7_book 11 = .ok (.ifCond .eq 9, 3) := by decide +kernel
theorem dX7_book_14 : decode cX7_book 14 = .ok (.aload_n 0, 1) := by decide +kernel
theorem dX7_book_15 : decode cX7_book 15 = .ok (.iload_n 3, 1) := by decide +kernel
theorem dX7_book_16 : decode cX7_book 16 = .ok (.invokevirtual 77, 3) := by decide +kernel
theorem dX7_book_19 : decode cX7_book 19 = .ok (.ireturn, 1) := by decide +kernel
theorem dX7_book_20 : decode cX7_book 20 = .ok (.aload_n 0, 1) := by decide +kernel
theorem dX7_book_21 : decode cX7_book 21 = .ok (.getfield 9, 3) := by decide +kernel
theorem dX7_book_24 : decode cX7_book 24 = .ok (.aload_n 0, 1) := by decide +kernel
theorem dX7_book_25 : decode cX7_book 25 = .ok (.getfield 16, 3) := by decide +kernel
theorem dX7_book_28 : decode cX7_book 28 = .ok (.invokestatic 72, 3) := by decide +kernel
theorem dX7_book_31 : decode cX7_book 31 = .ok (.iconst 0, 1) := by decide +kernel
theorem dX7_book_32 : decode cX7_book 32 = .ok (.istore 4, 2) := by decide +kernel
theorem dX7_book_34 : decode cX7_book 34 = .ok (.iload 4, 2) := by decide +kernel
theorem dX7_book_36 : decode cX7_book 36 = .ok (.aload_n 0, 1) := by decide +kernel
theorem dX7_book_37 : decode cX7_book 37 = .ok (.getfield 62, 3) := by decide +kernel
theorem dX7_book_40 : decode cX7_book 40 = .ok (.iload_n 1, 1) := by decide +kernel
theorem dX7_book_41 : decode cX7_book 41 = .ok (.iaload, 1) := by decide +kernel
theorem dX7_book_42 : decode cX7_book 42 = .ok (.if_icmp .ge 31, 3) := by decide +kernel
theorem dX7_book_45 : decode cX7_book 45 = .ok (.aload_n 0, 1) := by decide +kernel
theorem dX7_book_46 : decode cX7_book 46 = .ok (.getfield 65, 3) := by decide +kernel
theorem dX7_book_49 : decode cX7_book 49 = .ok (.bipush 40, 2) := by decide +kernel
theorem dX7_book_51 : decode cX7_book 51 = .ok (.iload_n 1, 1) := by decide +kernel
theorem dX7_book_52 : decode cX7_book 52 = .ok (.imul, 1) := by decide +kernel
theorem dX7_book_53 : decode cX7_book 53 = .ok (.iload 4, 2) := by decide +kernel
theorem dX7_book_55 : decode cX7_book 55 = .ok (.iadd, 1) := by decide +kernel
theorem dX7_book_56 : decode cX7_book 56 = .ok (.aload_n 0, 1) := by decide +kernel
theorem dX7_book_57 : decode cX7_book 57 = .ok (.iload_n 2, 1) := by decide +kernel
theorem dX7_book_58 : decode cX7_book 58 = .ok (.invokevirtual 123, 3) := by decide +kernel
theorem dX7_book_61 : decode cX7_book 61 = .ok (.i2l, 1) := by decide +kernel
theorem dX7_book_62 : decode cX7_book 62 = .ok (.lastore, 1) := by decide +kernel
theorem dX7_book_63 : decode cX7_book 63 = .ok (.aload_n 0, 1) := by decide +kernel
theorem dX7_book_64 : decode cX7_book 64 = .ok (.invokevirtual 172, 3) := by decide +kernel
theorem dX7_book_67 : decode cX7_book 67 = .ok (.iinc 4 1, 3) := by decide +kernel
theorem dX7_book_70 : decode cX7_book 70 = .ok (.goto (-36), 3) := by decide +kernel
theorem dX7_book_73 : decode cX7_book 73 = .ok (.aload_n 0, 1) := by decide +kernel
theorem dX7_book_74 : decode cX7_book 74 = .ok (.aload_n 0, 1) := by decide +kernel
theorem dX7_book_75 : decode cX7_book 75 = .ok (.getfield 62, 3) := by decide +kernel
theorem dX7_book_78 : decode cX7_book 78 = .ok (.iload_n 1, 1) := by decide +kernel
theorem dX7_book_79 : decode cX7_book 79 = .ok (.iaload, 1) := by decide +kernel
theorem dX7_book_80 : decode cX7_book 80 = .ok (.invokevirtual 186, 3) := by decide +kernel
theorem dX7_book_83 : decode cX7_book 83 = .ok (.ireturn, 1) := by decide +kernel
theorem dX7_isAnswerOf_0 : decode cX7_isAnswerOf 0 = .ok (.aload_n 0, 1) := by decide +kernel
theorem dX7_isAnswerOf_1 : decode cX7_isAnswerOf 1 = .ok (.getfield 62, 3) := by decide +kernel
theorem dX7_isAnswerOf_4 : decode cX7_isAnswerOf 4 = .ok (.iload_n 1, 1) := by decide +kernel
theorem dX7_isAnswerOf_5 : decode cX7_isAnswerOf 5 = .ok (.iaload, 1) := by decide +kernel
theorem dX7_isAnswerOf_6 : decode cX7_isAnswerOf 6 = .ok (.iload_n 2, 1) := by decide +kernel
theorem dX7_isAnswerOf_7 : decode cX7_isAnswerOf 7 = .ok (.aload_n 0, 1) := by decide +kernel
theorem dX7_isAnswerOf_8 : decode cX7_isAnswerOf 8 = .ok (.iload 5, 2) := by decide +kernel
theorem dX7_isAnswerOf_10 : decode cX7_isAnswerOf 10 = .ok (.invokevirtual 99, 3) := by decide +kernel
theorem dX7_isAnswerOf_13 : decode cX7_isAnswerOf 13 = .ok (.invokestatic 152, 3) := by decide +kernel
theorem dX7_isAnswerOf_16 : decode cX7_isAnswerOf 16 = .ok (.if_icmp .ne 7, 3) := by decide +kernel
theorem dX7_isAnswerOf_19 : decode cX7_isAnswerOf 19 = .ok (.iconst 1, 1) := by decide +kernel
theorem dX7_isAnswerOf_20 : decode cX7_isAnswerOf 20 = .ok (.goto 4, 3) := by decide +kernel
theorem dX7_isAnswerOf_23 : decode cX7_isAnswerOf 23 = .ok (.iconst 0, 1) := by decide +kernel
theorem dX7_isAnswerOf_24 : decode cX7_isAnswerOf 24 = .ok (.istore 6, 2) := by decide +kernel
theorem dX7_isAnswerOf_26 : decode cX7_isAnswerOf 26 = .ok (.iconst 0, 1) := by decide +kernel
theorem dX7_isAnswerOf_27 : decode cX7_isAnswerOf 27 = .ok (.istore 7, 2) := by decide +kernel
theorem dX7_isAnswerOf_29 : decode cX7_isAnswerOf 29 = .ok (.iload 7, 2) := by decide +kernel
theorem dX7_isAnswerOf_31 : decode cX7_isAnswerOf 31 = .ok (.aload_n 0, 1) := by decide +kernel
theorem dX7_isAnswerOf_32 : decode cX7_isAnswerOf 32 = .ok (.getfield 62, 3) := by decide +kernel
theorem dX7_isAnswerOf_35 : decode cX7_isAnswerOf 35 = .ok (.iload_n 1, 1) := by decide +kernel
theorem dX7_isAnswerOf_36 : decode cX7_isAnswerOf 36 = .ok (.iaload, 1) := by decide +kernel
theorem dX7_isAnswerOf_37 : decode cX7_isAnswerOf 37 = .ok (.if_icmp .ge 50, 3) := by decide +kernel
theorem dX7_isAnswerOf_40 : decode cX7_isAnswerOf 40 = .ok (.iload 6, 2) := by decide +kernel
theorem dX7_isAnswerOf_42 : decode cX7_isAnswerOf 42 = .ok (.ifCond .eq 45, 3) := by decide +kernel
theorem dX7_isAnswerOf_45 : decode cX7_isAnswerOf 45 = .ok (.aload_n 0, 1) := by decide +kernel
theorem dX7_isAnswerOf_46 : decode cX7_isAnswerOf 46 = .ok (.getfield 65, 3) := by decide +kernel
theorem dX7_isAnswerOf_49 : decode cX7_isAnswerOf 49 = .ok (.bipush 40, 2) := by decide +kernel
theorem dX7_isAnswerOf_51 : decode cX7_isAnswerOf 51 = .ok (.iload_n 1, 1) := by decide +kernel
theorem dX7_isAnswerOf_52 : decode cX7_isAnswerOf 52 = .ok (.imul, 1) := by decide +kernel
theorem dX7_isAnswerOf_53 : decode cX7_isAnswerOf 53 = .ok (.iload 7, 2) := by decide +kernel
theorem dX7_isAnswerOf_55 : decode cX7_isAnswerOf 55 = .ok (.iadd, 1) := by decide +kernel
theorem dX7_isAnswerOf_56 : decode cX7_isAnswerOf 56 = .ok (.laload, 1) := by decide +kernel
theorem dX7_isAnswerOf_57 : decode cX7_isAnswerOf 57 = .ok (.aload_n 0, 1) := by decide +kernel
theorem dX7_isAnswerOf_58 : decode cX7_isAnswerOf 58 = .ok (.iload_n 2, 1) := by decide +kernel
theorem dX7_isAnswerOf_59 : decode cX7_isAnswerOf 59 = .ok (.iload_n 3, 1) := by decide +kernel
theorem dX7_isAnswerOf_60 : decode cX7_isAnswerOf 60 = .ok (.iload 4, 2) := by decide +kernel
theorem dX7_isAnswerOf_62 : decode cX7_isAnswerOf 62 = .ok (.iload 5, 2) := by decide +kernel
theorem dX7_isAnswerOf_64 : decode cX7_isAnswerOf 64 = .ok (.iload 7, 2) := by decide +kernel
theorem dX7_isAnswerOf_66 : decode cX7_isAnswerOf 66 = .ok (.invokevirtual 148, 3) := by decide +kernel
theorem dX7_isAnswerOf_69 : decode cX7_isAnswerOf 69 = .ok (.i2l, 1) := by decide +kernel
theorem dX7_isAnswerOf_70 : decode cX7_isAnswerOf 70 = .ok (.lcmp, 1) := by decide +kernel
theorem dX7_isAnswerOf_71 : decode cX7_isAnswerOf 71 = .ok (.ifCond .ne 7, 3) := by decide +kernel
theorem dX7_isAnswerOf_74 : decode cX7_isAnswerOf 74 = .ok (.iconst 1, 1) := by decide +kernel
theorem dX7_isAnswerOf_75 : decode cX7_isAnswerOf 75 = .ok (.goto 4, 3) := by decide +kernel
theorem dX7_isAnswerOf_78 : decode cX7_isAnswerOf 78 = .ok (.iconst 0, 1) := by decide +kernel
theorem dX7_isAnswerOf_79 : decode cX7_isAnswerOf 79 = .ok (.istore 6, 2) := by decide +kernel
theorem dX7_isAnswerOf_81 : decode cX7_isAnswerOf 81 = .ok (.iinc 7 1, 3) := by decide +kernel
theorem dX7_isAnswerOf_84 : decode cX7_isAnswerOf 84 = .ok (.goto (-55), 3) := by decide +kernel
theorem dX7_isAnswerOf_87 : decode cX7_isAnswerOf 87 = .ok (.iload 6, 2) := by decide +kernel
theorem dX7_isAnswerOf_89 : decode cX7_isAnswerOf 89 = .ok (.ireturn, 1) := by decide +kernel
theorem dX7_read_0 : decode cX7_read 0 = .ok (.aload_n 0, 1) := by decide +kernel
theorem dX7_read_1 : decode cX7_read 1 = .ok (.iload_n 1, 1) := by decide +kernel
theorem dX7_read_2 : decode cX7_read 2 = .ok (.aload_n 0, 1) := by decide +kernel
theorem dX7_read_3 : decode cX7_read 3 = .ok (.iload_n 2, 1) := by decide +kernel
theorem dX7_read_4 : decode cX7_read 4 = .ok (.invokevirtual 155, 3) := by decide +kernel
theorem dX7_read_7 : decode cX7_read 7 = .ok (.invokevirtual 303, 3) := by decide +kernel
theorem dX7_read_10 : decode cX7_read 10 = .ok (.istore_n 3, 1) := by decide +kernel
theorem dX7_read_11 : decode cX7_read 11 = .ok (.iload_n 3, 1) := by decide +kernel
theorem dX7_read_12 : decode cX7_read 12 = .ok (.ifCond .eq 9, 3) := by decide +kernel
theorem dX7_read_15 : decode cX7_read 15 = .ok (.aload_n 0, 1) := by decide +kernel
theorem dX7_read_16 : decode cX7_read 16 = .ok (.iload_n 3, 1) := by decide +kernel
theorem dX7_read_17 : decode cX7_read 17 = .ok (.invokevirtual 77, 3) := by decide +kernel
theorem dX7_read_20 : decode cX7_read 20 = .ok (.ireturn, 1) := by decide +kernel
theorem dX7_read_21 : decode cX7_read 21 = .ok (.iconst 0, 1) := by decide +kernel
theorem dX7_read_22 : decode cX7_read 22 = .ok (.istore 4, 2) := by decide +kernel
theorem dX7_read_24 : decode cX7_read 24 = .ok (.iconst 0, 1) := by decide +kernel
theorem dX7_read_25 : decode cX7_read 25 = .ok (.istore 5, 2) := by decide +kernel
theorem dX7_read_27 : decode cX7_read 27 = .ok (.iload 5, 2) := by decide +kernel
theorem dX7_read_29 : decode cX7_read 29 = .ok (.iconst 5, 1) := by decide +kernel
theorem dX7_read_30 : decode cX7_read 30 = .ok (.if_icmp .gt 61, 3) := by decide +kernel
theorem dX7_read_33 : decode cX7_read 33 = .ok (.iconst 0, 1) := by decide +kernel
theorem dX7_read_34 : decode cX7_read 34 = .ok (.istore 6, 2) := by decide +kernel
theorem dX7_read_36 : decode cX7_read 36 = .ok (.iload 6, 2) := by decide +kernel
theorem dX7_read_38 : decode cX7_read 38 = .ok (.bipush 12, 2) := by decide +kernel
theorem dX7_read_40 : decode cX7_read 40 = .ok (.if_icmp .ge 45, 3) := by decide +kernel
theorem dX7_read_43 : decode cX7_read 43 = .ok (.iload 4, 2) := by decide +kernel
theorem dX7_read_45 : decode cX7_read 45 = .ok (.aload_n 0, 1) := by decide +kernel
theorem dX7_read_46 : decode cX7_read 46 = .ok (.iload_n 1, 1) := by decide +kernel
theorem dX7_read_47 : decode cX7_read 47 = .ok (.iload 5, 2) := by decide +kernel
theorem dX7_read_49 : decode cX7_read 49 = .ok (.iload 6, 2) := by decide +kernel
theorem dX7_read_51 : decode cX7_read 51 = .ok (.aload_n 0, 1) := by decide +kernel
theorem dX7_read_52 : decode cX7_read 52 = .ok (.iload_n 2, 1) := by decide +kernel
theorem dX7_read_53 : decode cX7_read 53 = .ok (.iconst 3, 1) := by decide +kernel
theorem dX7_read_54 : decode cX7_read 54 = .ok (.invokevirtual 120, 3) := by decide +kernel
theorem dX7_read_57 : decode cX7_read 57 = .ok (.iconst 1, 1) := by decide +kernel
theorem dX7_read_58 : decode cX7_read 58 = .ok (.aload_n 0, 1) := by decide +kernel
theorem dX7_read_59 : decode cX7_read 59 = .ok (.iload_n 2, 1) := by decide +kernel
theorem dX7_read_60 : decode cX7_read 60 = .ok (.iconst 1, 1) := by decide +kernel
theorem dX7_read_61 : decode cX7_read 61 = .ok (.invokevirtual 120, 3) := by decide +kernel
theorem dX7_read_64 : decode cX7_read 64 = .ok (.isub, 1) := by decide +kernel
theorem dX7_read_65 : decode cX7_read 65 = .ok (.invokevirtual 307, 3) := by decide +kernel
theorem dX7_read_68 : decode cX7_read 68 = .ok (.ifCond .eq 7, 3) := by decide +kernel
theorem dX7_read_71 : decode cX7_read 71 = .ok (.iconst 1, 1) := by decide +kernel
theorem dX7_read_72 : decode cX7_read 72 = .ok (.goto 4, 3) := by decide +kernel
theorem dX7_read_75 : decode cX7_read 75 = .ok (.iconst 0, 1) := by decide +kernel
theorem dX7_read_76 : decode cX7_read 76 = .ok (.iadd, 1) := by decide +kernel
theorem dX7_read_77 : decode cX7_read 77 = .ok (.istore 4, 2) := by decide +kernel
theorem dX7_read_79 : decode cX7_read 79 = .ok (.iinc 6 1, 3) := by decide +kernel
theorem dX7_read_82 : decode cX7_read 82 = .ok (.goto (-46), 3) := by decide +kernel
theorem dX7_read_85 : decode cX7_read 85 = .ok (.iinc 5 1, 3) := by decide +kernel
theorem dX7_read_88 : decode cX7_read 88 = .ok (.goto (-61), 3) := by decide +kernel
theorem dX7_read_91 : decode cX7_read 91 = .ok (.iload 4, 2) := by decide +kernel
theorem dX7_read_93 : decode cX7_read 93 = .ok (.ireturn, 1) := by decide +kernel
theorem dX7_image_0 : decode cX7_image 0 = .ok (.aload_n 0, 1) := by decide +kernel
theorem dX7_image_1 : decode cX7_image 1 = .ok (.getfield 9, 3) := by decide +kernel
theorem dX7_image_4 : decode cX7_image 4 = .ok (.aload_n 0, 1) := by decide +kernel
theorem dX7_image_5 : decode cX7_image 5 = .ok (.getfield 13, 3) := by decide +kernel
theorem dX7_image_8 : decode cX7_image 8 = .ok (.invokestatic 72, 3) := by decide +kernel
theorem dX7_image_11 : decode cX7_image 11 = .ok (.aload_n 0, 1) := by decide +kernel
theorem dX7_image_12 : decode cX7_image 12 = .ok (.iconst 1, 1) := by decide +kernel
theorem dX7_image_13 : decode cX7_image 13 = .ok (.putfield 311, 3) := by decide +kernel
theorem dX7_image_16 : decode cX7_image 16 = .ok (.iconst 1, 1) := by decide +kernel
theorem dX7_image_17 : decode cX7_image 17 = .ok (.ireturn, 1) := by decide +kernel
theorem dX7_undo_0 : decode cX7_undo 0 = .ok (.aload_n 0, 1) := by decide +kernel
theorem dX7_undo_1 : decode cX7_undo 1 = .ok (.getfield 311, 3) := by decide +kernel
theorem dX7_undo_4 : decode cX7_undo 4 = .ok (.ifCond .ne 10, 3) := by decide +kernel
theorem dX7_undo_7 : decode cX7_undo 7 = .ok (.aload_n 0, 1) := by decide +kernel
theorem dX7_undo_8 : decode cX7_undo 8 = .ok (.ldc 76, 2) := by decide +kernel
theorem dX7_undo_10 : decode cX7_undo 10 = .ok (.invokevirtual 77, 3) := by decide +kernel
theorem dX7_undo_13 : decode cX7_undo 13 = .ok (.ireturn, 1) := by decide +kernel
theorem dX7_undo_14 : decode cX7_undo 14 = .ok (.aload_n 0, 1) := by decide +kernel
theorem dX7_undo_15 : decode cX7_undo 15 = .ok (.getfield 13, 3) := by decide +kernel
theorem dX7_undo_18 : decode cX7_undo 18 = .ok (.aload_n 0, 1) := by decide +kernel
theorem dX7_undo_19 : decode cX7_undo 19 = .ok (.getfield 9, 3) := by decide +kernel
theorem dX7_undo_22 : decode cX7_undo 22 = .ok (.invokestatic 72, 3) := by decide +kernel
theorem dX7_undo_25 : decode cX7_undo 25 = .ok (.aload_n 0, 1) := by decide +kernel
theorem dX7_undo_26 : decode cX7_undo 26 = .ok (.getfield 9, 3) := by decide +kernel
theorem dX7_undo_29 : decode cX7_undo 29 = .ok (.iconst 1, 1) := by decide +kernel
theorem dX7_undo_30 : decode cX7_undo 30 = .ok (.iaload, 1) := by decide +kernel
theorem dX7_undo_31 : decode cX7_undo 31 = .ok (.ireturn, 1) := by decide +kernel
theorem dX7_tear_0 : decode cX7_tear 0 = .ok (.aload_n 0, 1) := by decide +kernel
theorem dX7_tear_1 : decode cX7_tear 1 = .ok (.getfield 311, 3) := by decide +kernel
theorem dX7_tear_4 : decode cX7_tear 4 = .ok (.ifCond .eq 7, 3) := by decide +kernel
theorem dX7_tear_7 : decode cX7_tear 7 = .ok (.iconst 1, 1) := by decide +kernel
theorem dX7_tear_8 : decode cX7_tear 8 = .ok (.goto 4, 3) := by decide +kernel
theorem dX7_tear_11 : decode cX7_tear 11 = .ok (.iconst 0, 1) := by decide +kernel
theorem dX7_tear_12 : decode cX7_tear 12 = .ok (.istore_n 1, 1) := by decide +kernel
theorem dX7_tear_13 : decode cX7_tear 13 = .ok (.aload_n 0, 1) := by decide +kernel
theorem dX7_tear_14 : decode cX7_tear 14 = .ok (.iconst 0, 1) := by decide +kernel
theorem dX7_tear_15 : decode cX7_tear 15 = .ok (.putfield 311, 3) := by decide +kernel
theorem dX7_tear_18 : decode cX7_tear 18 = .ok (.iload_n 1, 1) := by decide +kernel
theorem dX7_tear_19 : decode cX7_tear 19 = .ok (.ireturn, 1) := by decide +kernel
theorem dX7_count_0 : decode cX7_count 0 = .ok (.iconst 0, 1) := by decide +kernel
theorem dX7_count_1 : decode cX7_count 1 = .ok (.istore_n 2, 1) := by decide +kernel
theorem dX7_count_2 : decode cX7_count 2 = .ok (.iconst 0, 1) := by decide +kernel
theorem dX7_count_3 : decode cX7_count 3 = .ok (.istore_n 3, 1) := by decide +kernel
theorem dX7_count_4 : decode cX7_count 4 = .ok (.iconst 0, 1) := by decide +kernel
theorem dX7_count_5 : decode cX7_count 5 = .ok (.istore 4, 2) := by decide +kernel
theorem dX7_count_7 : decode cX7_count 7 = .ok (.iload 4, 2) := by decide +kernel
theorem dX7_count_9 : decode cX7_count 9 = .ok (.aload_n 0, 1) := by decide +kernel
theorem dX7_count_10 : decode cX7_count 10 = .ok (.getfield 9, 3) := by decide +kernel
theorem dX7_count_13 : decode cX7_count 13 = .ok (.iconst 1, 1) := by decide +kernel
theorem dX7_count_14 : decode cX7_count 14 = .ok (.iaload, 1) := by decide +kernel
theorem dX7_count_15 : decode cX7_count 15 = .ok (.if_icmp .ge 32, 3) := by decide +kernel
theorem dX7_count_18 : decode cX7_count 18 = .ok (.iload_n 2, 1) := by decide +kernel
theorem dX7_count_19 : decode cX7_count 19 = .ok (.aload_n 0, 1) := by decide +kernel
theorem dX7_count_20 : decode cX7_count 20 = .ok (.iload 4, 2) := by decide +kernel
theorem dX7_count_22 : decode cX7_count 22 = .ok (.iconst 4, 1) := by decide +kernel
theorem dX7_count_23 : decode cX7_count 23 = .ok (.invokevirtual 120, 3) := by decide +kernel
theorem dX7_count_26 : decode cX7_count 26 = .ok (.iadd, 1) := by decide +kernel
theorem dX7_count_27 : decode cX7_count 27 = .ok (.istore_n 2, 1) := by decide +kernel
theorem dX7_count_28 : decode cX7_count 28 = .ok (.iload_n 3, 1) := by decide +kernel
theorem dX7_count_29 : decode cX7_count 29 = .ok (.aload_n 0, 1) := by decide +kernel
theorem dX7_count_30 : decode cX7_count 30 = .ok (.iload 4, 2) := by decide +kernel
theorem dX7_count_32 : decode cX7_count 32 = .ok (.iconst 3, 1) := by decide +kernel
theorem dX7_count_33 : decode cX7_count 33 = .ok (.invokevirtual 120, 3) := by decide +kernel
theorem dX7_count_36 : decode cX7_count 36 = .ok (.invokestatic 314, 3) := by decide +kernel
theorem dX7_count_39 : decode cX7_count 39 = .ok (.iadd, 1) := by decide +kernel
theorem dX7_count_40 : decode cX7_count 40 = .ok (.istore_n 3, 1) := by decide +kernel
theorem dX7_count_41 : decode cX7_count 41 = .ok (.iinc 4 1, 3) := by decide +kernel
theorem dX7_count_44 : decode cX7_count 44 = .ok (.goto (-37), 3) := by decide +kernel
theorem dX7_count_47 : decode cX7_count 47 = .ok (.iload_n 1, 1) := by decide +kernel
theorem dX7_count_48 : decode cX7_count 48 = .ok (.ifCond .ne 12, 3) := by decide +kernel
theorem dX7_count_51 : decode cX7_count 51 = .ok (.aload_n 0, 1) := by decide +kernel
theorem dX7_count_52 : decode cX7_count 52 = .ok (.getfield 9, 3) := by decide +kernel
theorem dX7_count_55 : decode cX7_count 55 = .ok (.iconst 1, 1) := by decide +kernel
theorem dX7_count_56 : decode cX7_count 56 = .ok (.iaload, 1) := by decide +kernel
theorem dX7_count_57 : decode cX7_count 57 = .ok (.goto 39, 3) := by decide +kernel
theorem dX7_count_60 : decode cX7_count 60 = .ok (.iload_n 1, 1) := by decide +kernel
theorem dX7_count_61 : decode cX7_count 61 = .ok (.iconst 1, 1) := by decide +kernel
theorem dX7_count_62 : decode cX7_count 62 = .ok (.if_icmp .ne 10, 3) := by decide +kernel
theorem dX7_count_65 : decode cX7_count 65 = .ok (.aload_n 0, 1) := by decide +kernel
theorem dX7_count_66 : decode cX7_count 66 = .ok (.getfield 213, 3) := by decide +kernel
theorem dX7_count_69 : decode cX7_count 69 = .ok (.goto 27, 3) := by decide +kernel
theorem dX7_count_72 : decode cX7_count 72 = .ok (.iload_n 1, 1) := by decide +kernel
theorem dX7_count_73 : decode cX7_count 73 = .ok (.iconst 2, 1) := by decide +kernel
theorem dX7_count_74 : decode cX7_count 74 = .ok (.if_icmp .ne 7, 3) := by decide +kernel
theorem dX7_count_77 : decode cX7_count 77 = .ok (.iload_n 2, 1) := by decide +kernel
theorem dX7_count_78 : decode cX7_count 78 = .ok (.goto 18, 3) := by decide +kernel
theorem dX7_count_81 : decode cX7_count 81 = .ok (.iload_n 1, 1) := by decide +kernel
theorem dX7_count_82 : decode cX7_count 82 = .ok (.iconst 3, 1) := by decide +kernel
theorem dX7_count_83 : decode cX7_count 83 = .ok (.if_icmp .ne 7, 3) := by decide +kernel
theorem dX7_count_86 : decode cX7_count 86 = .ok (.iload_n 3, 1) := by decide +kernel
theorem dX7_count_87 : decode cX7_count 87 = .ok (.goto 9, 3) := by decide +kernel
theorem dX7_count_90 : decode cX7_count 90 = .ok (.aload_n 0, 1) := by decide +kernel
theorem dX7_count_91 : decode cX7_count 91 = .ok (.ldc 71, 2) := by decide +kernel
theorem dX7_count_93 : decode cX7_count 93 = .ok (.invokevirtual 77, 3) := by decide +kernel
theorem dX7_count_96 : decode cX7_count 96 = .ok (.ireturn, 1) := by decide +kernel
theorem dX7_status_0 : decode cX7_status 0 = .ok (.iload_n 1, 1) := by decide +kernel
theorem dX7_status_1 : decode cX7_status 1 = .ok (.iconst (-1), 1) := by decide +kernel
theorem dX7_status_2 : decode cX7_status 2 = .ok (.bipush 6, 2) := by decide +kernel
theorem dX7_status_4 : decode cX7_status 4 = .ok (.invokestatic 81, 3) := by decide +kernel
theorem dX7_status_7 : decode cX7_status 7 = .ok (.ifCond .eq 14, 3) := by decide +kernel
theorem dX7_status_10 : decode cX7_status 10 = .ok (.aload_n 0, 1) := by decide +kernel
theorem dX7_status_11 : decode cX7_status 11 = .ok (.getfield 19, 3) := by decide +kernel
theorem dX7_status_14 : decode cX7_status 14 = .ok (.iload_n 1, 1) := by decide +kernel
theorem dX7_status_15 : decode cX7_status 15 = .ok (.iconst 1, 1) := by decide +kernel
theorem dX7_status_16 : decode cX7_status 16 = .ok (.iadd, 1) := by decide +kernel
theorem dX7_status_17 : decode cX7_status 17 = .ok (.iaload, 1) := by decide +kernel
theorem dX7_status_18 : decode cX7_status 18 = .ok (.goto 9, 3) := by decide +kernel
theorem dX7_status_21 : decode cX7_status 21 = .ok (.aload_n 0, 1) := by decide +kernel
theorem dX7_status_22 : decode cX7_status 22 = .ok (.ldc 71, 2) := by decide +kernel
theorem dX7_status_24 : decode cX7_status 24 = .ok (.invokevirtual 77, 3) := by decide +kernel
theorem dX7_status_27 : decode cX7_status 27 = .ok (.ireturn, 1) := by decide +kernel
end
section
/-! ===== the small machine: a memory of fixed shape (72 cells), ints by their numbers; its judgement mW over the machine's W, its contract mM over Met ===== -/
def iV (z : Int) : Int32 := Int32.ofInt z
theorem iV_add (a b : Int) : iV a + iV b = iV (a + b) := (Int32.ofInt_add a b).symm
theorem iV_sub (a b : Int) : iV a - iV b = iV (a - b) := (Int32.ofInt_sub a b).symm
theorem iV_mul (a b : Int) : iV a * iV b = iV (a * b) := (Int32.ofInt_mul a b).symm
theorem iV_neg (a : Int) : - iV a = iV (-a) := (Int32.ofInt_neg a).symm
theorem iV_toInt {z : Int} (h : -2147483648 ≤ z ∧ z ≤ 2147483647) : (iV z).toInt = z := Int32.toInt_ofInt_of_le (by omega) (by omega)
theorem iV_of (x : Int32) : iV x.toInt = x := Int32.ofInt_toInt x
theorem iV_bd (x : Int32) : -2147483648 ≤ x.toInt ∧ x.toInt ≤ 2147483647 := ⟨by have := x.le_toInt; omega, by have := x.toInt_lt; omega⟩
theorem iV_nat (n : Nat) : iV (n : Int) = nI n := Int32.ofInt_eq_ofNat
theorem iV_lt {a b : Int} (ha : -2147483648 ≤ a ∧ a ≤ 2147483647) (hb : -2147483648 ≤ b ∧ b ≤ 2147483647) : iV a < iV b ↔ a < b := by rw [Int32.lt_iff_toInt_lt, iV_toInt ha, iV_toInt hb]
theorem iV_le {a b : Int} (ha : -2147483648 ≤ a ∧ a ≤ 2147483647) (hb : -2147483648 ≤ b ∧ b ≤ 2147483647) : iV a ≤ iV b ↔ a ≤ b := by rw [Int32.le_iff_toInt_le, iV_toInt ha, iV_toInt hb]
theorem iV_eq {a b : Int} (ha : -2147483648 ≤ a ∧ a ≤ 2147483647) (hb : -2147483648 ≤ b ∧ b ≤ 2147483647) : iV a = iV b ↔ a = b := by rw [← Int32.toInt_inj, iV_toInt ha, iV_toInt hb]
theorem iV_0 : iV 0 = 0 := by decide +kernel
theorem iV_clamp {z : Int} (h : 0 ≤ z ∧ z ≤ 2147483647) : (iV z).toNatClampNeg = z.toNat := by
  show (iV z).toInt.toNat = z.toNat
  rw [iV_toInt (by omega)]
theorem iV_in {z : Int} {n : Nat} (h : 0 ≤ z ∧ z < n) (hn : n ≤ 2147483647) : vp_in (iV z) n := by
  intro q
  rcases q with q | q
  · rw [← iV_0, iV_lt (by omega) (by omega)] at q
    omega
  · rw [iV_clamp (by omega)] at q
    omega
def bAnd (a b : Int) : Int := (iV a &&& iV b).toInt
def bOr (a b : Int) : Int := (iV a ||| iV b).toInt
def bXor (a b : Int) : Int := (iV a ^^^ iV b).toInt
def bShl (a b : Int) : Int := (iV a <<< (iV b &&& 31)).toInt
def bShr (a b : Int) : Int := (iV a >>> (iV b &&& 31)).toInt
def bUshr (a b : Int) : Int := ((iV a).toUInt32 >>> ((iV b).toUInt32 &&& Int32.toUInt32 31)).toInt32.toInt
def bDiv (a b : Int) : Int := (iV a / iV b).toInt
def bRem (a b : Int) : Int := (iV a - iV a / iV b * iV b).toInt
theorem bDiv_n {a b : Int} (ha : 0 ≤ a ∧ a ≤ 2147483647) (hb : 0 < b ∧ b ≤ 2147483647) : bDiv a b = a / b := by
  obtain ⟨x, rfl⟩ : ∃ x : Nat, a = x := ⟨a.toNat, by omega⟩
  obtain ⟨y, rfl⟩ : ∃ y : Nat, b = y := ⟨b.toNat, by omega⟩
  unfold bDiv
  have h1 : x / y ≤ x := Nat.div_le_self x y
  rw [iV_nat, iV_nat, pk_div (by omega) (by omega) (by omega), nI_toInt (by omega)]
  exact Int.natCast_ediv x y
theorem bRem_n {a b : Int} (ha : 0 ≤ a ∧ a ≤ 2147483647) (hb : 0 < b ∧ b ≤ 2147483647) : bRem a b = a % b := by
  obtain ⟨x, rfl⟩ : ∃ x : Nat, a = x := ⟨a.toNat, by omega⟩
  obtain ⟨y, rfl⟩ : ∃ y : Nat, b = y := ⟨b.toNat, by omega⟩
  unfold bRem
  have h1 : x % y < y := Nat.mod_lt _ (by omega)
  rw [iV_nat, iV_nat, pk_rem (by omega) (by omega) (by omega), nI_toInt (by omega)]
  exact Int.natCast_emod x y
/-- the tables' words that stay as the machine warms; those of nest mates, which stay too -/
def mTb : List Cond := lw_tbl.filter goodWord
theorem mTb_in {w : Cond} (h : w ∈ lw_tbl) (hg : goodWord w = true) : w ∈ mTb := List.mem_filter.mpr ⟨h, hg⟩
theorem mTb_good : ∀ w ∈ mTb, (w.onTables && w.keeps) = true ∨ ∃ ty, w = .arrayClass ty := fun w h => good_of_word (List.mem_filter.mp h).2
def isNest : Cond → Bool
  | .fieldLinkNest .. => true
  | .methodLinkNest .. => true
  | _ => false
def mNest : List Cond := lw_tbl.filter isNest
theorem mNest_warm {s U : State} (hW : s.WarmedH U.vm) {w : Cond} (h : isNest w = true) (hs : va_Nw w s) : va_Nw w U := by
  cases w <;> first | exact va_Nw.warmF hW hs | exact va_Nw.warmM hW hs | cases h
theorem mNest_same {s U : State} (hv : U.vm = s.vm) {w : Cond} (h : isNest w = true) (hs : va_Nw w s) : va_Nw w U := by
  cases w <;> first | exact va_Nw.same rfl hv.symm hs | cases h
abbrev mX : Type := Program × Env × Room × State × MethodId × Array Value × List Frame × Method × Code
/-- where the cells lie, the classes' numbers, the array classes, the strings' rows, the launch -/
abbrev mG : Type := (Nat → Nat) × va_G × (Nat → ClassId) × (Nat → Nat) × Launch
abbrev mMem : Type := (Nat → Int → Int) × (Nat → Int → Int64)
def cv (G : mG) (v : Value) : Value := match v with
  | .ref k => .ref (G.1 k)
  | v => v
theorem cv_cat (G : mG) (v : Value) : (cv G v).category = v.category := by cases v <;> rfl
/-- which cell is what: 0 to 7 the objects by their class, 8 ints, 9 longs, 10 attaches, 11 sheets, 12 texts -/

def mCls (k : Nat) : Nat := ([6, 1, 5, 8, 5, 8, 10, 0, 0, 0, 0, 0, 0, 0, 0, 1, 5, 8, 5, 8, 10, 0, 0, 0, 0, 0, 0, 0, 0, 1, 5, 8, 5, 8, 10, 0, 0, 0, 0, 0, 0, 0, 0, 4, 8, 2, 11, 3, 9, 3, 9, 3, 9, 3, 9, 8, 7, 8, 8, 8, 8, 8, 8, 12, 8, 8, 8, 9, 8, 8, 9, 9] : List Nat).getD k 99
def mLen (k : Nat) : Nat := ([0, 0, 0, 12, 0, 12, 8, 0, 0, 0, 0, 0, 0, 0, 0, 0, 0, 12, 0, 12, 8, 0, 0, 0, 0, 0, 0, 0, 0, 0, 0, 12, 0, 12, 8, 0, 0, 0, 0, 0, 0, 0, 0, 0, 120, 0, 4, 0, 40, 0, 40, 0, 40, 0, 40, 7, 0, 68, 68, 68, 8, 12, 120, 6, 120, 120, 120, 120, 4, 4, 160, 40] : List Nat).getD k 0
def mNf (ci : Nat) : Nat := ([5, 5, 5, 3, 2, 2, 8, 24] : List Nat).getD ci 0
def mIsR (ci j : Nat) : Bool := ([[], [0, 1, 2], [0], [0], [0], [0], [0, 1, 3, 4, 5, 6, 7], [0, 1, 2, 4, 5, 6, 13, 14, 15, 16, 17, 20, 21, 22, 23]] : List (List Nat)).getD ci [] |>.contains j
def mRf (k j : Nat) : Nat := match mCls k with
  | 1 => if j = 0 then k + 1 else if j = 1 then k + 3 else k + 5
  | 2 => 43
  | 3 => k + 1
  | 4 => k + 1
  | 5 => k + 1
  | 6 => ([1, 15, 0, 29, 43, 45, 46, 55] : List Nat).getD j 0
  | 7 => ([57, 58, 59, 0, 60, 61, 62, 0, 0, 0, 0, 0, 0, 63, 64, 65, 66, 67, 0, 0, 68, 69, 70, 71] : List Nat).getD j 0
  | 10 => k + 1 + j
  | 11 => 47 + 2 * j
  | _ => 100 + j
def mFs (G : mG) (μ : mMem) (k ci : Nat) : List Value := (List.range (mNf ci)).map (fun j => if mIsR ci j = true then .ref (G.1 (mRf k j)) else .int (iV (μ.1 k (j : Int))))
def mE (G : mG) (μ : mMem) (k : Nat) : va_E := if mCls k < 8 then .inr (mCls k, mFs G μ k (mCls k)) else if mCls k = 8 then .inl (G.2.2.1 0, mLen k, .inl (fun j => iV (μ.1 k (j : Int)))) else if mCls k = 9 then .inl (G.2.2.1 1, mLen k, .inr (.inl (fun j => μ.2 k (j : Int)))) else .inl (G.2.2.1 (mCls k - 8), mLen k, .inr (.inr (.inr (.inr (fun j => some (G.1 (mRf k j)))))))
def mWs (G : mG) (μ : mMem) : va_W := (List.range 72).map (fun k => (G.1 k, mE G μ k))
def mA (G : mG) : Nat → Prop := fun q => ∃ k : Nat, k < 72 ∧ q = G.1 k
def mTys (G : mG) : List (ClassId × FieldType) := [(G.2.2.1 0, .int), (G.2.2.1 1, .long), (G.2.2.1 2, .object RX0), (G.2.2.1 3, .object RX3), (G.2.2.1 4, .object "java/lang/String")]
def mH (G : mG) (μ : mMem) (H : Heap) : Prop := va_P G.2.1 vwCl (mWs G μ) H
def mRm (d : Nat) : Room := { frames := d, cells := 0, slots := 0, locals := 37 * d }

def sLen : List Nat := [7, 6, 4, 5, 5, 5, 2, 3, 4, 4]
def sByt : List (List Int32) := [[97, 116, 116, 97, 99, 104, 101], [109, 105, 114, 114, 111, 114], [99, 114, 97, 98], [112, 101, 100, 97, 108], [116, 97, 98, 108, 101], [116, 101, 110, 111, 114], [111, 102], [107, 101, 121], [98, 108, 111, 116], [116, 117, 110, 101]]
def sRefs : List (String × Nat × String × Nat) := [("FugueNotes$Scribe", 35, "tune", 9), ("FugueNotes$Scribe", 92, "mirror", 1), ("FugueNotes$Scribe", 94, "crab", 2), ("FugueNotes$Scribe", 96, "pedal", 3), ("FugueNotes$Scribe", 98, "table", 4), ("FugueNotes$Scribe", 100, "tenor", 5), ("FugueNotes$Scribe", 102, "attache", 0), ("FugueNotes$Scribe", 78, "of", 6), ("FugueNotes$Scribe", 80, "key", 7), ("FugueNotes$Scribe", 82, "blot", 8), ("FugueNotesModel", 30, "attache", 0), ("FugueNotesModel", 32, "mirror", 1), ("FugueNotesModel", 34, "crab", 2), ("FugueNotesModel", 36, "pedal", 3), ("FugueNotesModel", 38, "table", 4), ("FugueNotesModel", 40, "tenor", 5), ("FugueNotesModel", 262, "of", 6), ("FugueNotesModel", 264, "key", 7), ("FugueNotesModel", 270, "blot", 8), ("FugueNotesModel", 283, "tune", 9)]
def sAbove : List Int32 := [-1, 0, 0, 0, 1, 2]
/-- what is known of the start and stays: the texts, the class's own table of kinds, one switch of String's -/
def mSt (G : mG) (U : State) : Prop := vk_S 10 sLen sByt (fun i => G.1 (100 + i)) G.2.2.2.1 (mA G) U U.heap ∧ (∀ q ∈ sRefs, vk_R q.1 q.2.1 q.2.2.1 (G.1 (100 + q.2.2.2)) U) ∧ va_Z "FugueNotes" "ABOVE" "[I" (.ref (G.1 120)) (mA G) U U.heap ∧ va_T .int (G.1 120) 6 (fun j => .int (sAbove.getD j 0)) (mA G) U U.heap ∧ va_Z "java/lang/String" "COMPACT_STRINGS" "Z" (.int 1) (mA G) U U.heap
def mEnv (G : mG) (U : State) : Prop := va_K G.2.1 vwCl (mTys G) U ∧ (∀ i j : Nat, i < 72 → j < 72 → G.1 i = G.1 j → i = j) ∧ mSt G U ∧ ∀ w ∈ mNest, va_Nw w U
theorem mSt.moved {G : mG} {s U : State} (hW : s.WarmedH U.vm) (hk : ∀ a : Nat, a < s.heap.size → ¬ mA G a → U.heap[a]? = s.heap[a]?) (h : mSt G s) : mSt G U :=
  ⟨(h.1.kept hk).moved hW.alike, fun q hq => (h.2.1 q hq).warm hW, (h.2.2.1.kept hk).moved hW.alike, (h.2.2.2.1.kept hk).moved hW.alike, (h.2.2.2.2.kept hk).moved hW.alike⟩
theorem mEnv.moved {G : mG} {s U : State} (hW : s.WarmedH U.vm) (hk : ∀ a : Nat, a < s.heap.size → ¬ mA G a → U.heap[a]? = s.heap[a]?) (h : mEnv G s) : mEnv G U := ⟨h.1.moved hW.alike, h.2.1, h.2.2.1.moved hW hk, fun w hw => mNest_warm hW (List.mem_filter.mp hw).2 (h.2.2.2 w hw)⟩
theorem mEnv.same {G : mG} {s U : State} (hv : U.vm = s.vm) (hh : U.heap = s.heap) (h : mEnv G s) : mEnv G U := by
  have ha : s.vm.Alike U.vm := by rw [hv]; exact Vm.Alike.refl _
  refine ⟨h.1.moved ha, h.2.1, ⟨?_, fun q hq => (h.2.2.1.2.1 q hq).same hv, ?_, ?_, ?_⟩, fun w hw => mNest_same hv (List.mem_filter.mp hw).2 (h.2.2.2 w hw)⟩
  · rw [hh]; exact h.2.2.1.1.moved ha
  · rw [hh]; exact h.2.2.1.2.2.1.moved ha
  · rw [hh]; exact h.2.2.1.2.2.2.1.moved ha
  · rw [hh]; exact h.2.2.1.2.2.2.2.moved ha
theorem mWs_get (G : mG) (μ : mMem) {k : Nat} (hk : k < 72) : (mWs G μ)[k]? = some (G.1 k, mE G μ k) := by
  unfold mWs
  rw [List.getElem?_map, List.getElem?_range hk]
  rfl
theorem mWs_get' {G : mG} {μ : mMem} {k : Nat} {q : Nat × va_E} (h : (mWs G μ)[k]? = some q) : k < 72 ∧ q = (G.1 k, mE G μ k) := by
  have hk : k < 72 := by
    have := (List.getElem?_eq_some_iff.mp h).1
    simpa [mWs] using this
  rw [mWs_get G μ hk] at h
  exact ⟨hk, (Option.some.inj h).symm⟩
theorem mD {G : mG} (μ : mMem) (h : ∀ i j : Nat, i < 72 → j < 72 → G.1 i = G.1 j → i = j) : va_D (mA G) (mWs G μ) := by
  refine ⟨fun i j p q hi hj e => ?_, fun k q hk => ?_⟩
  · obtain ⟨h1, rfl⟩ := mWs_get' hi
    obtain ⟨h2, rfl⟩ := mWs_get' hj
    exact h i j h1 h2 e
  · obtain ⟨h1, rfl⟩ := mWs_get' hk
    exact ⟨k, h1, rfl⟩
theorem mWs_set {G : mG} {μ μ' : mMem} {k : Nat} {e : va_E} (hk : k < 72) (h1 : mE G μ' k = e) (h2 : ∀ j : Nat, j ≠ k → mE G μ' j = mE G μ j) : (mWs G μ).set k (G.1 k, e) = mWs G μ' := by
  apply List.ext_getElem?
  intro j
  by_cases hj : j < 72
  · rw [mWs_get G μ' hj]
    by_cases hjk : j = k
    · subst hjk
      rw [List.getElem?_set_self (by simp [mWs, hj]), h1]
    · rw [List.getElem?_set_ne (fun q => hjk q.symm), mWs_get G μ hj, h2 j hjk]
  · rw [List.getElem?_eq_none (by simp [mWs]; omega), List.getElem?_eq_none (by simp [mWs]; omega)]
def u1 (μ : mMem) (k : Nat) (j v : Int) : mMem := (fun k' j' => if k' = k ∧ j' = j then v else μ.1 k' j', μ.2)
def u2 (μ : mMem) (k : Nat) (j : Int) (v : Int64) : mMem := (μ.1, fun k' j' => if k' = k ∧ j' = j then v else μ.2 k' j')
theorem u1_s (μ : mMem) (k : Nat) (j v : Int) : (u1 μ k j v).1 k j = v := by simp [u1]
theorem u1_o {μ : mMem} {k k' : Nat} {j j' v : Int} (h : ¬ (k' = k ∧ j' = j)) : (u1 μ k j v).1 k' j' = μ.1 k' j' := by simp [u1, h]
theorem u2_s (μ : mMem) (k : Nat) (j : Int) (v : Int64) : (u2 μ k j v).2 k j = v := by simp [u2]
theorem u2_o {μ : mMem} {k k' : Nat} {j j' : Int} {v : Int64} (h : ¬ (k' = k ∧ j' = j)) : (u2 μ k j v).2 k' j' = μ.2 k' j' := by simp [u2, h]
theorem mE_obj {G : mG} {μ : mMem} {k ci : Nat} (h : mCls k = ci) (hc : ci < 8) : mE G μ k = .inr (ci, mFs G μ k ci) := by
  subst h
  simp [mE, hc]
theorem mE_int {G : mG} {μ : mMem} {k : Nat} (h : mCls k = 8) : mE G μ k = .inl (G.2.2.1 0, mLen k, .inl (fun j => iV (μ.1 k (j : Int)))) := by simp [mE, h]
theorem mE_lng {G : mG} {μ : mMem} {k : Nat} (h : mCls k = 9) : mE G μ k = .inl (G.2.2.1 1, mLen k, .inr (.inl (fun j => μ.2 k (j : Int)))) := by simp [mE, h]
theorem mE_ref {G : mG} {μ : mMem} {k ci : Nat} (h : mCls k = ci) (hc : 10 ≤ ci) : mE G μ k = .inl (G.2.2.1 (ci - 8), mLen k, .inr (.inr (.inr (.inr (fun j => some (G.1 (mRf k j))))))) := by
  subst h
  have h1 : ¬ mCls k < 8 := by omega
  have h2 : ¬ mCls k = 8 := by omega
  have h3 : ¬ mCls k = 9 := by omega
  simp [mE, h1, h2, h3]
theorem mFs_get {G : mG} {μ : mMem} {k ci j : Nat} (hj : j < mNf ci) : (mFs G μ k ci)[j]? = some (if mIsR ci j = true then .ref (G.1 (mRf k j)) else .int (iV (μ.1 k (j : Int)))) := by
  unfold mFs
  rw [List.getElem?_map, List.getElem?_range hj]
  rfl
theorem mFs_len (G : mG) (μ : mMem) (k ci : Nat) : (mFs G μ k ci).length = mNf ci := by simp [mFs]
theorem mFs_set {G : mG} {μ : mMem} {k ci j : Nat} {v : Int} (hr : mIsR ci j = false) : (mFs G μ k ci).set j (.int (iV v)) = mFs G (u1 μ k (j : Int) v) k ci := by
  apply List.ext_getElem?
  intro i
  by_cases hi : i < mNf ci
  · rw [mFs_get hi]
    by_cases hij : i = j
    · subst hij
      rw [List.getElem?_set_self (by rw [mFs_len]; exact hi), u1_s, hr]
      rfl
    · rw [List.getElem?_set_ne (fun q => hij q.symm), mFs_get hi, u1_o (by omega)]
  · rw [List.getElem?_eq_none (by rw [List.length_set, mFs_len]; omega), List.getElem?_eq_none (by rw [mFs_len]; omega)]
theorem mFs_o {G : mG} {μ : mMem} {k k' ci : Nat} {j v : Int} (h : k' ≠ k) : mFs G (u1 μ k j v) k' ci = mFs G μ k' ci := by
  unfold mFs
  apply List.map_congr_left
  intro a _
  rw [u1_o (fun q => h q.1)]
theorem mE_o {G : mG} {μ : mMem} {k k' : Nat} {j v : Int} (h : k' ≠ k) : mE G (u1 μ k j v) k' = mE G μ k' := by
  have e1 : (fun i : Nat => iV ((u1 μ k j v).1 k' (i : Int))) = fun i : Nat => iV (μ.1 k' (i : Int)) := by
    funext i
    rw [u1_o (fun q => h q.1)]
  unfold mE
  rw [mFs_o h, e1]
  rfl
theorem mFs_2 {G : mG} {μ : mMem} {k k' ci : Nat} {j : Int} {v : Int64} : mFs G (u2 μ k j v) k' ci = mFs G μ k' ci := rfl
theorem mE_2o {G : mG} {μ : mMem} {k k' : Nat} {j : Int} {v : Int64} (h : k' ≠ k) : mE G (u2 μ k j v) k' = mE G μ k' := by
  have e1 : (fun i : Nat => (u2 μ k j v).2 k' (i : Int)) = fun i : Nat => μ.2 k' (i : Int) := by
    funext i
    rw [u2_o (fun q => h q.1)]
  unfold mE
  rw [e1]
  rfl
theorem mCls_lt {k ci : Nat} (h : mCls k = ci) (hc : ci ≠ 99) : k < 72 := by
  rcases Nat.lt_or_ge k 72 with q | q
  · exact q
  · exfalso
    apply hc
    rw [← h]
    unfold mCls
    rw [List.getD_eq_getElem?_getD, List.getElem?_eq_none (by simpa using q)]
    rfl
/-- the locals -/
def mL (G : mG) (ls : Array Slot) (nL : Nat) (lv : List (Option Value)) : Prop := ls.size = nL ∧ lv_wf ls ∧ ∀ (i : Nat) (v : Value), lv[i]? = some (some v) → ls[i]? = some (.val (cv G v))
def mAs (G : mG) (lv : List (Option Value)) : List (Nat × Value) := (List.range lv.length).filterMap (fun i => (lv[i]?.join).map (fun v => (i, cv G v)))
theorem mAs_mem {G : mG} {lv : List (Option Value)} {q : Nat × Value} : q ∈ mAs G lv ↔ ∃ v, lv[q.1]? = some (some v) ∧ q.2 = cv G v := by
  obtain ⟨i, x⟩ := q
  unfold mAs
  rw [List.mem_filterMap]
  constructor
  · rintro ⟨a, ha, h⟩
    cases hl : lv[a]? with
    | none => rw [hl] at h; cases h
    | some o =>
      cases o with
      | none => rw [hl] at h; cases h
      | some v =>
        rw [hl] at h
        cases h
        exact ⟨v, hl, rfl⟩
  · rintro ⟨v, h1, h2⟩
    refine ⟨i, List.mem_range.mpr (List.getElem?_eq_some_iff.mp h1).1, ?_⟩
    have h2 : x = cv G v := h2
    have h1 : lv[i]? = some (some v) := h1
    rw [h1, h2]
    rfl
theorem mL.has {G : mG} {ls : Array Slot} {nL : Nat} {lv : List (Option Value)} (h : mL G ls nL lv) : lv_has ls nL (mAs G lv) := by
  refine ⟨h.1, h.2.1, fun q hq => ?_⟩
  obtain ⟨v, h1, h2⟩ := mAs_mem.mp hq
  rw [h2]
  exact h.2.2 q.1 v h1
def mC1 (o : Option Value) : Bool := match o with
  | some v => v.category == 1
  | none => true
theorem mL.st1 {G : mG} {ls : Array Slot} {nL : Nat} {lv : List (Option Value)} {i : Nat} {v : Value} (h : lv_has ls nL ((i, cv G v) :: (mAs G lv).filter (fun q => !(q.1 == i) && !(q.1 + 1 == i && q.2.category == 2)))) (hc : ∀ j o, j + 1 = i → lv[j]? = some o → mC1 o = true) : mL G ls nL (lv.set i (some v)) := by
  refine ⟨h.1, h.2.1, fun j w hj => ?_⟩
  rw [List.getElem?_set] at hj
  by_cases hij : i = j
  · subst hij
    rw [if_pos rfl] at hj
    by_cases hl : i < lv.length
    · rw [if_pos hl] at hj
      cases hj
      exact h.2.2 (i, cv G v) List.mem_cons_self
    · rw [if_neg hl] at hj
      cases hj
  · rw [if_neg hij] at hj
    refine h.2.2 (j, cv G w) (List.mem_cons_of_mem _ (List.mem_filter.mpr ⟨mAs_mem.mpr ⟨w, hj, rfl⟩, ?_⟩))
    have e1 : (j == i) = false := by simpa using fun q : j = i => hij q.symm
    by_cases hj1 : j + 1 = i
    · have h3 := hc j (some w) hj1 hj
      have h4 : w.category = 1 := by simpa [mC1] using h3
      simp [e1, cv_cat, h4]
    · simp [e1, hj1]
theorem mL.st2 {G : mG} {ls : Array Slot} {nL : Nat} {lv : List (Option Value)} {i : Nat} {v : Value} (h : lv_has ls nL ((i, cv G v) :: (mAs G lv).filter (fun q => !(q.1 == i) && (!(q.1 == i + 1) && !(q.1 + 1 == i && q.2.category == 2))))) (hc : ∀ j o, j + 1 = i → lv[j]? = some o → mC1 o = true) : mL G ls nL ((lv.set i (some v)).set (i + 1) none) := by
  refine ⟨h.1, h.2.1, fun j w hj => ?_⟩
  rw [List.getElem?_set] at hj
  by_cases hij1 : i + 1 = j
  · subst hij1
    rw [if_pos rfl] at hj
    split at hj <;> cases hj
  rw [if_neg hij1, List.getElem?_set] at hj
  by_cases hij : i = j
  · subst hij
    rw [if_pos rfl] at hj
    by_cases hl : i < lv.length
    · rw [if_pos hl] at hj
      cases hj
      exact h.2.2 (i, cv G v) List.mem_cons_self
    · rw [if_neg hl] at hj
      cases hj
  · rw [if_neg hij] at hj
    refine h.2.2 (j, cv G w) (List.mem_cons_of_mem _ (List.mem_filter.mpr ⟨mAs_mem.mpr ⟨w, hj, rfl⟩, ?_⟩))
    have e1 : (j == i) = false := by simpa using fun q : j = i => hij q.symm
    have e2 : (j == i + 1) = false := by simpa using fun q : j = i + 1 => hij1 q.symm
    by_cases hj1 : j + 1 = i
    · have h3 := hc j (some w) hj1 hj
      have h4 : w.category = 1 := by simpa [mC1] using h3
      simp [e1, e2, cv_cat, h4]
    · simp [e1, e2, hj1]
/-- what holds in a method's frame -/
def mC (X : mX) (cc : ByteArray) (nL : Nat) (rt : Option FieldType) (own : String) (d : Nat) (G : mG) : Prop := match X with
  | (p, e, R, s, m, args, below, meth, c) => p.tables.exec = Jvm.exec ∧ c.code = cc ∧ c.maxLocals = nL ∧ meth.sig.returnType = rt ∧ s.vm.findClass own = some m.cls ∧ meth.locks = false ∧ R = mRm d ∧ (∀ w ∈ mTb, w.before args s = true) ∧ mEnv G s
def mQ (G : mG) (Q : Option Value → mMem → Prop) : Array Value → State → Outcome → State → Prop := fun _ st o t => (∃ (r : Option Value) (μ : mMem), o = .returned (r.map (cv G)) ∧ Q r μ ∧ mH G μ t.heap) ∧ va_F (mA G) st t
def mW (X : mX) (cc : ByteArray) (nL : Nat) (rt : Option FieldType) (own : String) (d : Nat) (G : mG) (Q : Option Value → mMem → Prop) (pc : Nat) (lv : List (Option Value)) (st : List Value) (μ : mMem) : Prop := match X with
  | (p, e, R, s, m, args, below, meth, c) => mC (p, e, R, s, m, args, below, meth, c) cc nL rt own d G → ∀ (H : Heap) (locs : List Loc) (ls : Array Slot), mH G μ H → va_S (mA G) s.heap H locs → mL G ls nL lv → W p G.2.2.2.2 e R s m args below meth c H locs 0 0 (MQ below (mQ G Q) args s 0 0 (mA G)) (F0 m pc ls (st.map (cv G)))
/-- a method's contract: from these arguments and this memory it returns, with Q -/
def mM (G : mG) (y : MethodName) (cc : ByteArray) (nL : Nat) (rt : Option FieldType) (d : Nat) (as : List Value) (μ : mMem) (Q : Option Value → mMem → Prop) : Prop :=
  Met G.2.2.2.2 y (Cond.code y cc nL rt :: mTb) (mRm d) (fun v U => v = (as.map (cv G)).toArray ∧ mEnv G U ∧ mH G μ U.heap) (mQ G Q) 0 0 (mA G)
section MINI
variable {X : mX} {cc : ByteArray} {nL : Nat} {rt : Option FieldType} {own : String} {d : Nat} {G : mG} {Q : Option Value → mMem → Prop} {pc : Nat} {lv : List (Option Value)} {st : List Value} {μ : mMem}

theorem mw_iconst {n : Int} (hd : decode cc pc = .ok (.iconst n, 1)) 
    (kk : mW X cc nL rt own d G Q (pc + 1) lv (.int (iV n) :: st) μ) : mW X cc nL rt own d G Q pc lv (st) μ := by
  obtain ⟨p, e, R, s, m, args, below, meth, c⟩ := X
  intro hC H locs ls hP hS hl
  have hx := hC.1
  have hb := hC.2.1
  exact lv_iconst (v := iV n) hx hb hd rfl (kk hC H locs ls hP hS hl)
theorem mw_bipush {n : Int} (hd : decode cc pc = .ok (.bipush n, 2)) (hv : (Int8.ofInt n).toInt32 = iV n)
    (kk : mW X cc nL rt own d G Q (pc + 2) lv (.int (iV n) :: st) μ) : mW X cc nL rt own d G Q pc lv (st) μ := by
  obtain ⟨p, e, R, s, m, args, below, meth, c⟩ := X
  intro hC H locs ls hP hS hl
  have hx := hC.1
  have hb := hC.2.1
  exact lv_bipush (v := iV n) hx hb hd hv (kk hC H locs ls hP hS hl)
theorem mw_sipush {n : Int} (hd : decode cc pc = .ok (.sipush n, 3)) (hv : (Int16.ofInt n).toInt32 = iV n)
    (kk : mW X cc nL rt own d G Q (pc + 3) lv (.int (iV n) :: st) μ) : mW X cc nL rt own d G Q pc lv (st) μ := by
  obtain ⟨p, e, R, s, m, args, below, meth, c⟩ := X
  intro hC H locs ls hP hS hl
  have hx := hC.1
  have hb := hC.2.1
  exact lv_sipush (v := iV n) hx hb hd hv (kk hC H locs ls hP hS hl)
theorem mw_lconst {n : Fin 2} (hd : decode cc pc = .ok (.lconst n, 1)) {v : Int64} (hv : Int64.ofNat (n : Nat) = v)
    (kk : mW X cc nL rt own d G Q (pc + 1) lv (.long v :: st) μ) : mW X cc nL rt own d G Q pc lv (st) μ := by
  obtain ⟨p, e, R, s, m, args, below, meth, c⟩ := X
  intro hC H locs ls hP hS hl
  have hx := hC.1
  have hb := hC.2.1
  exact lv_lconst hx hb hd hv (kk hC H locs ls hP hS hl)
theorem mw_ldc {idx : Nat} {z : Int} (hd : decode cc pc = .ok (.ldc idx, 2)) (hw : Cond.constant own idx (iV z) ∈ mTb)
    (kk : mW X cc nL rt own d G Q (pc + 2) lv (.int (iV z) :: st) μ) : mW X cc nL rt own d G Q pc lv (st) μ := by
  obtain ⟨p, e, R, s, m, args, below, meth, c⟩ := X
  intro hC H locs ls hP hS hl
  have hx := hC.1
  have hb := hC.2.1
  exact lv_ldc hx hb hC.2.2.2.2.1 (hC.2.2.2.2.2.2.2.1 _ hw) hd (kk hC H locs ls hP hS hl)
theorem mw_ldcw {idx : Nat} {z : Int} (hd : decode cc pc = .ok (.ldc_w idx, 3)) (hw : Cond.constant own idx (iV z) ∈ mTb)
    (kk : mW X cc nL rt own d G Q (pc + 3) lv (.int (iV z) :: st) μ) : mW X cc nL rt own d G Q pc lv (st) μ := by
  obtain ⟨p, e, R, s, m, args, below, meth, c⟩ := X
  intro hC H locs ls hP hS hl
  have hx := hC.1
  have hb := hC.2.1
  exact lv_ldcw hx hb hC.2.2.2.2.1 (hC.2.2.2.2.2.2.2.1 _ hw) hd (kk hC H locs ls hP hS hl)
theorem mw_ldc2 {idx : Nat} {z : Int64} (hd : decode cc pc = .ok (.ldc2_w idx, 3)) (hw : Cond.constantLong own idx z ∈ mTb)
    (kk : mW X cc nL rt own d G Q (pc + 3) lv (.long z :: st) μ) : mW X cc nL rt own d G Q pc lv (st) μ := by
  obtain ⟨p, e, R, s, m, args, below, meth, c⟩ := X
  intro hC H locs ls hP hS hl
  have hx := hC.1
  have hb := hC.2.1
  exact lv_ldc2 hx hb hC.2.2.2.2.1 (hC.2.2.2.2.2.2.2.1 _ hw) hd (kk hC H locs ls hP hS hl)
theorem mw_ldcS {idx i : Nat} {tx : String} (hd : decode cc pc = .ok (.ldc idx, 2)) (hw : (own, idx, tx, i) ∈ sRefs)
    (kk : mW X cc nL rt own d G Q (pc + 2) lv (.ref (100 + i) :: st) μ) : mW X cc nL rt own d G Q pc lv (st) μ := by
  obtain ⟨p, e, R, s, m, args, below, meth, c⟩ := X
  intro hC H locs ls hP hS hl
  have hx := hC.1
  have hb := hC.2.1
  exact va_ldcS hx hb hC.2.2.2.2.1 (hC.2.2.2.2.2.2.2.2.2.2.1.2.1 _ hw) hd (kk hC H locs ls hP hS hl)
theorem mw_iload_n {k : Fin 4} {x : Int32} (hd : decode cc pc = .ok (.iload_n k, 1)) (h : lv[(k : Nat)]? = some (some (.int x)))
    (kk : mW X cc nL rt own d G Q (pc + 1) lv (.int x :: st) μ) : mW X cc nL rt own d G Q pc lv (st) μ := by
  obtain ⟨p, e, R, s, m, args, below, meth, c⟩ := X
  intro hC H locs ls hP hS hl
  have hx := hC.1
  have hb := hC.2.1
  exact lv_iload_n hx hb hd rfl (hl.2.2 _ _ h) (kk hC H locs ls hP hS hl)
theorem mw_iload {i : Nat} {x : Int32} (hd : decode cc pc = .ok (.iload i, 2)) (h : lv[i]? = some (some (.int x)))
    (kk : mW X cc nL rt own d G Q (pc + 2) lv (.int x :: st) μ) : mW X cc nL rt own d G Q pc lv (st) μ := by
  obtain ⟨p, e, R, s, m, args, below, meth, c⟩ := X
  intro hC H locs ls hP hS hl
  have hx := hC.1
  have hb := hC.2.1
  exact lv_iload hx hb hd (hl.2.2 _ _ h) (kk hC H locs ls hP hS hl)
theorem mw_lload_n {k : Fin 4} {x : Int64} (hd : decode cc pc = .ok (.lload_n k, 1)) (h : lv[(k : Nat)]? = some (some (.long x)))
    (kk : mW X cc nL rt own d G Q (pc + 1) lv (.long x :: st) μ) : mW X cc nL rt own d G Q pc lv (st) μ := by
  obtain ⟨p, e, R, s, m, args, below, meth, c⟩ := X
  intro hC H locs ls hP hS hl
  have hx := hC.1
  have hb := hC.2.1
  exact lv_lload_n hx hb hd rfl (hl.2.2 _ _ h) (kk hC H locs ls hP hS hl)
theorem mw_lload {i : Nat} {x : Int64} (hd : decode cc pc = .ok (.lload i, 2)) (h : lv[i]? = some (some (.long x)))
    (kk : mW X cc nL rt own d G Q (pc + 2) lv (.long x :: st) μ) : mW X cc nL rt own d G Q pc lv (st) μ := by
  obtain ⟨p, e, R, s, m, args, below, meth, c⟩ := X
  intro hC H locs ls hP hS hl
  have hx := hC.1
  have hb := hC.2.1
  exact lv_lload hx hb hd (hl.2.2 _ _ h) (kk hC H locs ls hP hS hl)
theorem mw_aload_n {k : Fin 4} {x : Nat} (hd : decode cc pc = .ok (.aload_n k, 1)) (h : lv[(k : Nat)]? = some (some (.ref x)))
    (kk : mW X cc nL rt own d G Q (pc + 1) lv (.ref x :: st) μ) : mW X cc nL rt own d G Q pc lv (st) μ := by
  obtain ⟨p, e, R, s, m, args, below, meth, c⟩ := X
  intro hC H locs ls hP hS hl
  have hx := hC.1
  have hb := hC.2.1
  exact lv_aload_n hx hb hd rfl (hl.2.2 _ _ h) (kk hC H locs ls hP hS hl)
theorem mw_aload {i : Nat} {x : Nat} (hd : decode cc pc = .ok (.aload i, 2)) (h : lv[i]? = some (some (.ref x)))
    (kk : mW X cc nL rt own d G Q (pc + 2) lv (.ref x :: st) μ) : mW X cc nL rt own d G Q pc lv (st) μ := by
  obtain ⟨p, e, R, s, m, args, below, meth, c⟩ := X
  intro hC H locs ls hP hS hl
  have hx := hC.1
  have hb := hC.2.1
  exact lv_aload hx hb hd (hl.2.2 _ _ h) (kk hC H locs ls hP hS hl)
theorem mw_istore_n {k : Fin 4} {x : Int32} (hd : decode cc pc = .ok (.istore_n k, 1)) (hn : (k : Nat) < nL) (hc : ∀ j o, j + 1 = (k : Nat) → lv[j]? = some o → mC1 o = true)
    (kk : mW X cc nL rt own d G Q (pc + 1) (lv.set (k : Nat) (some (.int x))) (st) μ) : mW X cc nL rt own d G Q pc lv (.int x :: st) μ := by
  obtain ⟨p, e, R, s, m, args, below, meth, c⟩ := X
  intro hC H locs ls hP hS hl
  have hx := hC.1
  have hb := hC.2.1
  exact lv_istore_n hx hb hd rfl hl.has hn rfl (fun ls hl => kk hC H locs ls hP hS (mL.st1 (v := .int x) hl hc))
theorem mw_istore {i : Nat} {x : Int32} (hd : decode cc pc = .ok (.istore i, 2)) (hn : i < nL) (hc : ∀ j o, j + 1 = i → lv[j]? = some o → mC1 o = true)
    (kk : mW X cc nL rt own d G Q (pc + 2) (lv.set i (some (.int x))) (st) μ) : mW X cc nL rt own d G Q pc lv (.int x :: st) μ := by
  obtain ⟨p, e, R, s, m, args, below, meth, c⟩ := X
  intro hC H locs ls hP hS hl
  have hx := hC.1
  have hb := hC.2.1
  exact lv_istore hx hb hd hl.has hn rfl (fun ls hl => kk hC H locs ls hP hS (mL.st1 (v := .int x) hl hc))
theorem mw_astore_n {k : Fin 4} {x : Nat} (hd : decode cc pc = .ok (.astore_n k, 1)) (hn : (k : Nat) < nL) (hc : ∀ j o, j + 1 = (k : Nat) → lv[j]? = some o → mC1 o = true)
    (kk : mW X cc nL rt own d G Q (pc + 1) (lv.set (k : Nat) (some (.ref x))) (st) μ) : mW X cc nL rt own d G Q pc lv (.ref x :: st) μ := by
  obtain ⟨p, e, R, s, m, args, below, meth, c⟩ := X
  intro hC H locs ls hP hS hl
  have hx := hC.1
  have hb := hC.2.1
  exact lv_astore_n hx hb hd rfl hl.has hn rfl (fun ls hl => kk hC H locs ls hP hS (mL.st1 (v := .ref x) hl hc))
theorem mw_astore {i : Nat} {x : Nat} (hd : decode cc pc = .ok (.astore i, 2)) (hn : i < nL) (hc : ∀ j o, j + 1 = i → lv[j]? = some o → mC1 o = true)
    (kk : mW X cc nL rt own d G Q (pc + 2) (lv.set i (some (.ref x))) (st) μ) : mW X cc nL rt own d G Q pc lv (.ref x :: st) μ := by
  obtain ⟨p, e, R, s, m, args, below, meth, c⟩ := X
  intro hC H locs ls hP hS hl
  have hx := hC.1
  have hb := hC.2.1
  exact lv_astore hx hb hd hl.has hn rfl (fun ls hl => kk hC H locs ls hP hS (mL.st1 (v := .ref x) hl hc))
theorem mw_lstore_n {k : Fin 4} {x : Int64} (hd : decode cc pc = .ok (.lstore_n k, 1)) (hn : (k : Nat) + 1 < nL) (hc : ∀ j o, j + 1 = (k : Nat) → lv[j]? = some o → mC1 o = true)
    (kk : mW X cc nL rt own d G Q (pc + 1) ((lv.set (k : Nat) (some (.long x))).set ((k : Nat) + 1) none) (st) μ) : mW X cc nL rt own d G Q pc lv (.long x :: st) μ := by
  obtain ⟨p, e, R, s, m, args, below, meth, c⟩ := X
  intro hC H locs ls hP hS hl
  have hx := hC.1
  have hb := hC.2.1
  exact lv_lstore_n hx hb hd rfl hl.has hn rfl (fun ls hl => kk hC H locs ls hP hS (mL.st2 (v := .long x) hl hc))
theorem mw_lstore {i : Nat} {x : Int64} (hd : decode cc pc = .ok (.lstore i, 2)) (hn : i + 1 < nL) (hc : ∀ j o, j + 1 = i → lv[j]? = some o → mC1 o = true)
    (kk : mW X cc nL rt own d G Q (pc + 2) ((lv.set i (some (.long x))).set (i + 1) none) (st) μ) : mW X cc nL rt own d G Q pc lv (.long x :: st) μ := by
  obtain ⟨p, e, R, s, m, args, below, meth, c⟩ := X
  intro hC H locs ls hP hS hl
  have hx := hC.1
  have hb := hC.2.1
  exact lv_lstore hx hb hd hl.has hn rfl (fun ls hl => kk hC H locs ls hP hS (mL.st2 (v := .long x) hl hc))
theorem mw_iinc {i : Nat} {n z : Int} (hd : decode cc pc = .ok (.iinc i n, 3)) (h : lv[i]? = some (some (.int (iV z)))) (hn : i < nL) (hc : ∀ j o, j + 1 = i → lv[j]? = some o → mC1 o = true)
    (kk : mW X cc nL rt own d G Q (pc + 3) (lv.set i (some (.int (iV (z + n))))) (st) μ) : mW X cc nL rt own d G Q pc lv (st) μ := by
  obtain ⟨p, e, R, s, m, args, below, meth, c⟩ := X
  intro hC H locs ls hP hS hl
  have hx := hC.1
  have hb := hC.2.1
  obtain ⟨k, hk⟩ := List.getElem?_of_mem (mAs_mem.mpr ⟨.int (iV z), h, rfl⟩ : (i, Value.int (iV z)) ∈ mAs G lv)
  exact lv_iinc (v := iV (z + n)) hx hb hd hl.has hk (iV_add z n) hn rfl (fun ls hl => kk hC H locs ls hP hS (mL.st1 (v := .int (iV (z + n))) hl hc))
theorem mw_iadd {a b : Int} (hd : decode cc pc = .ok (.iadd, 1)) 
    (kk : mW X cc nL rt own d G Q (pc + 1) lv (.int (iV (a + b)) :: st) μ) : mW X cc nL rt own d G Q pc lv (.int (iV b) :: .int (iV a) :: st) μ := by
  obtain ⟨p, e, R, s, m, args, below, meth, c⟩ := X
  intro hC H locs ls hP hS hl
  have hx := hC.1
  have hb := hC.2.1
  refine lv_iadd hx hb hd ?_
  rw [iV_add]
  exact kk hC H locs ls hP hS hl
theorem mw_isub {a b : Int} (hd : decode cc pc = .ok (.isub, 1)) 
    (kk : mW X cc nL rt own d G Q (pc + 1) lv (.int (iV (a - b)) :: st) μ) : mW X cc nL rt own d G Q pc lv (.int (iV b) :: .int (iV a) :: st) μ := by
  obtain ⟨p, e, R, s, m, args, below, meth, c⟩ := X
  intro hC H locs ls hP hS hl
  have hx := hC.1
  have hb := hC.2.1
  refine lv_isub hx hb hd ?_
  rw [iV_sub]
  exact kk hC H locs ls hP hS hl
theorem mw_imul {a b : Int} (hd : decode cc pc = .ok (.imul, 1)) 
    (kk : mW X cc nL rt own d G Q (pc + 1) lv (.int (iV (a * b)) :: st) μ) : mW X cc nL rt own d G Q pc lv (.int (iV b) :: .int (iV a) :: st) μ := by
  obtain ⟨p, e, R, s, m, args, below, meth, c⟩ := X
  intro hC H locs ls hP hS hl
  have hx := hC.1
  have hb := hC.2.1
  refine lv_imul hx hb hd ?_
  rw [iV_mul]
  exact kk hC H locs ls hP hS hl
theorem mw_ineg {a : Int} (hd : decode cc pc = .ok (.ineg, 1)) 
    (kk : mW X cc nL rt own d G Q (pc + 1) lv (.int (iV (-a)) :: st) μ) : mW X cc nL rt own d G Q pc lv (.int (iV a) :: st) μ := by
  obtain ⟨p, e, R, s, m, args, below, meth, c⟩ := X
  intro hC H locs ls hP hS hl
  have hx := hC.1
  have hb := hC.2.1
  refine lv_ineg hx hb hd ?_
  rw [iV_neg]
  exact kk hC H locs ls hP hS hl
theorem mw_iand {a b : Int} (hd : decode cc pc = .ok (.iand, 1)) 
    (kk : mW X cc nL rt own d G Q (pc + 1) lv (.int (iV (bAnd a b)) :: st) μ) : mW X cc nL rt own d G Q pc lv (.int (iV b) :: .int (iV a) :: st) μ := by
  obtain ⟨p, e, R, s, m, args, below, meth, c⟩ := X
  intro hC H locs ls hP hS hl
  have hx := hC.1
  have hb := hC.2.1
  refine lv_iand hx hb hd ?_
  rw [← iV_of (iV a &&& iV b)]
  exact kk hC H locs ls hP hS hl
theorem mw_ior {a b : Int} (hd : decode cc pc = .ok (.ior, 1)) 
    (kk : mW X cc nL rt own d G Q (pc + 1) lv (.int (iV (bOr a b)) :: st) μ) : mW X cc nL rt own d G Q pc lv (.int (iV b) :: .int (iV a) :: st) μ := by
  obtain ⟨p, e, R, s, m, args, below, meth, c⟩ := X
  intro hC H locs ls hP hS hl
  have hx := hC.1
  have hb := hC.2.1
  refine lv_ior hx hb hd ?_
  rw [← iV_of (iV a ||| iV b)]
  exact kk hC H locs ls hP hS hl
theorem mw_ixor {a b : Int} (hd : decode cc pc = .ok (.ixor, 1)) 
    (kk : mW X cc nL rt own d G Q (pc + 1) lv (.int (iV (bXor a b)) :: st) μ) : mW X cc nL rt own d G Q pc lv (.int (iV b) :: .int (iV a) :: st) μ := by
  obtain ⟨p, e, R, s, m, args, below, meth, c⟩ := X
  intro hC H locs ls hP hS hl
  have hx := hC.1
  have hb := hC.2.1
  refine lv_ixor hx hb hd ?_
  rw [← iV_of (iV a ^^^ iV b)]
  exact kk hC H locs ls hP hS hl
theorem mw_ishl {a b : Int} (hd : decode cc pc = .ok (.ishl, 1)) 
    (kk : mW X cc nL rt own d G Q (pc + 1) lv (.int (iV (bShl a b)) :: st) μ) : mW X cc nL rt own d G Q pc lv (.int (iV b) :: .int (iV a) :: st) μ := by
  obtain ⟨p, e, R, s, m, args, below, meth, c⟩ := X
  intro hC H locs ls hP hS hl
  have hx := hC.1
  have hb := hC.2.1
  refine lv_ishl hx hb hd ?_
  rw [← iV_of (iV a <<< (iV b &&& 31))]
  exact kk hC H locs ls hP hS hl
theorem mw_ishr {a b : Int} (hd : decode cc pc = .ok (.ishr, 1)) 
    (kk : mW X cc nL rt own d G Q (pc + 1) lv (.int (iV (bShr a b)) :: st) μ) : mW X cc nL rt own d G Q pc lv (.int (iV b) :: .int (iV a) :: st) μ := by
  obtain ⟨p, e, R, s, m, args, below, meth, c⟩ := X
  intro hC H locs ls hP hS hl
  have hx := hC.1
  have hb := hC.2.1
  refine lv_ishr hx hb hd ?_
  rw [← iV_of (iV a >>> (iV b &&& 31))]
  exact kk hC H locs ls hP hS hl
theorem mw_iushr {a b : Int} (hd : decode cc pc = .ok (.iushr, 1)) 
    (kk : mW X cc nL rt own d G Q (pc + 1) lv (.int (iV (bUshr a b)) :: st) μ) : mW X cc nL rt own d G Q pc lv (.int (iV b) :: .int (iV a) :: st) μ := by
  obtain ⟨p, e, R, s, m, args, below, meth, c⟩ := X
  intro hC H locs ls hP hS hl
  have hx := hC.1
  have hb := hC.2.1
  exact lv_iushr hx hb hd (iV_of _).symm (kk hC H locs ls hP hS hl)
theorem mw_idiv {a b : Int} (hd : decode cc pc = .ok (.idiv, 1)) (hr : -2147483648 ≤ b ∧ b ≤ 2147483647) (hne : b ≠ 0)
    (kk : mW X cc nL rt own d G Q (pc + 1) lv (.int (iV (bDiv a b)) :: st) μ) : mW X cc nL rt own d G Q pc lv (.int (iV b) :: .int (iV a) :: st) μ := by
  obtain ⟨p, e, R, s, m, args, below, meth, c⟩ := X
  intro hC H locs ls hP hS hl
  have hx := hC.1
  have hb := hC.2.1
  refine lv_idiv hx hb hd (fun q => hne ((iV_eq hr (by omega)).mp (q.trans iV_0.symm))) ?_
  rw [← iV_of (iV a / iV b)]
  exact kk hC H locs ls hP hS hl
theorem mw_idivN {a b : Int} (hd : decode cc pc = .ok (.idiv, 1)) (ha : 0 ≤ a ∧ a ≤ 2147483647) (hr : 0 < b ∧ b ≤ 2147483647) (kk : mW X cc nL rt own d G Q (pc + 1) lv (.int (iV (a / b)) :: st) μ) : mW X cc nL rt own d G Q pc lv (.int (iV b) :: .int (iV a) :: st) μ := mw_idiv hd (by omega) (by omega) (by rw [bDiv_n ha hr]; exact kk)
theorem mw_irem {a b : Int} (hd : decode cc pc = .ok (.irem, 1)) (hr : -2147483648 ≤ b ∧ b ≤ 2147483647) (hne : b ≠ 0)
    (kk : mW X cc nL rt own d G Q (pc + 1) lv (.int (iV (bRem a b)) :: st) μ) : mW X cc nL rt own d G Q pc lv (.int (iV b) :: .int (iV a) :: st) μ := by
  obtain ⟨p, e, R, s, m, args, below, meth, c⟩ := X
  intro hC H locs ls hP hS hl
  have hx := hC.1
  have hb := hC.2.1
  refine lv_irem hx hb hd (fun q => hne ((iV_eq hr (by omega)).mp (q.trans iV_0.symm))) ?_
  rw [← iV_of (iV a - iV a / iV b * iV b)]
  exact kk hC H locs ls hP hS hl
theorem mw_iremN {a b : Int} (hd : decode cc pc = .ok (.irem, 1)) (ha : 0 ≤ a ∧ a ≤ 2147483647) (hr : 0 < b ∧ b ≤ 2147483647) (kk : mW X cc nL rt own d G Q (pc + 1) lv (.int (iV (a % b)) :: st) μ) : mW X cc nL rt own d G Q pc lv (.int (iV b) :: .int (iV a) :: st) μ := mw_irem hd (by omega) (by omega) (by rw [bRem_n ha hr]; exact kk)
theorem mw_ladd {a b : Int64} (hd : decode cc pc = .ok (.ladd, 1)) 
    (kk : mW X cc nL rt own d G Q (pc + 1) lv (.long (a + b) :: st) μ) : mW X cc nL rt own d G Q pc lv (.long b :: .long a :: st) μ := by
  obtain ⟨p, e, R, s, m, args, below, meth, c⟩ := X
  intro hC H locs ls hP hS hl
  have hx := hC.1
  have hb := hC.2.1
  exact lv_ladd hx hb hd (kk hC H locs ls hP hS hl)
theorem mw_land {a b : Int64} (hd : decode cc pc = .ok (.land, 1)) 
    (kk : mW X cc nL rt own d G Q (pc + 1) lv (.long (a &&& b) :: st) μ) : mW X cc nL rt own d G Q pc lv (.long b :: .long a :: st) μ := by
  obtain ⟨p, e, R, s, m, args, below, meth, c⟩ := X
  intro hC H locs ls hP hS hl
  have hx := hC.1
  have hb := hC.2.1
  exact lv_land hx hb hd (kk hC H locs ls hP hS hl)
theorem mw_lor {a b : Int64} (hd : decode cc pc = .ok (.lor, 1)) 
    (kk : mW X cc nL rt own d G Q (pc + 1) lv (.long (a ||| b) :: st) μ) : mW X cc nL rt own d G Q pc lv (.long b :: .long a :: st) μ := by
  obtain ⟨p, e, R, s, m, args, below, meth, c⟩ := X
  intro hC H locs ls hP hS hl
  have hx := hC.1
  have hb := hC.2.1
  exact lv_lor hx hb hd (kk hC H locs ls hP hS hl)
theorem mw_lushr {x : Int64} {b : Int} (hd : decode cc pc = .ok (.lushr, 1)) 
    (kk : mW X cc nL rt own d G Q (pc + 1) lv (.long ((x.toUInt64 >>> ((iV b).toInt64.toUInt64 &&& Int64.toUInt64 63)).toInt64) :: st) μ) : mW X cc nL rt own d G Q pc lv (.int (iV b) :: .long x :: st) μ := by
  obtain ⟨p, e, R, s, m, args, below, meth, c⟩ := X
  intro hC H locs ls hP hS hl
  have hx := hC.1
  have hb := hC.2.1
  exact lv_lushr hx hb hd rfl (kk hC H locs ls hP hS hl)
theorem mw_lshl {x : Int64} {b : Int} (hd : decode cc pc = .ok (.lshl, 1)) 
    (kk : mW X cc nL rt own d G Q (pc + 1) lv (.long (x <<< ((iV b).toInt64 &&& 63)) :: st) μ) : mW X cc nL rt own d G Q pc lv (.int (iV b) :: .long x :: st) μ := by
  obtain ⟨p, e, R, s, m, args, below, meth, c⟩ := X
  intro hC H locs ls hP hS hl
  have hx := hC.1
  have hb := hC.2.1
  exact lv_lshl hx hb hd rfl (kk hC H locs ls hP hS hl)
theorem mw_lshr {x : Int64} {b : Int} (hd : decode cc pc = .ok (.lshr, 1)) 
    (kk : mW X cc nL rt own d G Q (pc + 1) lv (.long (x >>> ((iV b).toInt64 &&& 63)) :: st) μ) : mW X cc nL rt own d G Q pc lv (.int (iV b) :: .long x :: st) μ := by
  obtain ⟨p, e, R, s, m, args, below, meth, c⟩ := X
  intro hC H locs ls hP hS hl
  have hx := hC.1
  have hb := hC.2.1
  exact lv_lshr hx hb hd rfl (kk hC H locs ls hP hS hl)
theorem mw_i2l {a : Int} (hd : decode cc pc = .ok (.i2l, 1)) 
    (kk : mW X cc nL rt own d G Q (pc + 1) lv (.long ((iV a).toInt64) :: st) μ) : mW X cc nL rt own d G Q pc lv (.int (iV a) :: st) μ := by
  obtain ⟨p, e, R, s, m, args, below, meth, c⟩ := X
  intro hC H locs ls hP hS hl
  have hx := hC.1
  have hb := hC.2.1
  exact lv_i2l hx hb hd rfl (kk hC H locs ls hP hS hl)
theorem mw_l2i {x : Int64} (hd : decode cc pc = .ok (.l2i, 1)) 
    (kk : mW X cc nL rt own d G Q (pc + 1) lv (.int (iV (x.toInt32.toInt)) :: st) μ) : mW X cc nL rt own d G Q pc lv (.long x :: st) μ := by
  obtain ⟨p, e, R, s, m, args, below, meth, c⟩ := X
  intro hC H locs ls hP hS hl
  have hx := hC.1
  have hb := hC.2.1
  exact lv_l2i hx hb hd (iV_of _).symm (kk hC H locs ls hP hS hl)
theorem mw_i2b {a : Int} (hd : decode cc pc = .ok (.i2b, 1)) 
    (kk : mW X cc nL rt own d G Q (pc + 1) lv (.int (iV ((iV a).toInt8.toInt32.toInt)) :: st) μ) : mW X cc nL rt own d G Q pc lv (.int (iV a) :: st) μ := by
  obtain ⟨p, e, R, s, m, args, below, meth, c⟩ := X
  intro hC H locs ls hP hS hl
  have hx := hC.1
  have hb := hC.2.1
  exact lv_i2b hx hb hd (iV_of _).symm (kk hC H locs ls hP hS hl)
theorem mw_i2s {a : Int} (hd : decode cc pc = .ok (.i2s, 1)) 
    (kk : mW X cc nL rt own d G Q (pc + 1) lv (.int (iV ((iV a).toInt16.toInt32.toInt)) :: st) μ) : mW X cc nL rt own d G Q pc lv (.int (iV a) :: st) μ := by
  obtain ⟨p, e, R, s, m, args, below, meth, c⟩ := X
  intro hC H locs ls hP hS hl
  have hx := hC.1
  have hb := hC.2.1
  exact lv_i2s hx hb hd (iV_of _).symm (kk hC H locs ls hP hS hl)
theorem mw_i2c {a : Int} (hd : decode cc pc = .ok (.i2c, 1)) 
    (kk : mW X cc nL rt own d G Q (pc + 1) lv (.int (iV (((iV a).toUInt32 % 65536).toInt32.toInt)) :: st) μ) : mW X cc nL rt own d G Q pc lv (.int (iV a) :: st) μ := by
  obtain ⟨p, e, R, s, m, args, below, meth, c⟩ := X
  intro hC H locs ls hP hS hl
  have hx := hC.1
  have hb := hC.2.1
  exact lv_i2c hx hb hd (iV_of _).symm (kk hC H locs ls hP hS hl)
theorem mw_lcmp {a b : Int64} (hd : decode cc pc = .ok (.lcmp, 1)) 
    (kk : mW X cc nL rt own d G Q (pc + 1) lv (.int (lg_cmp a b) :: st) μ) : mW X cc nL rt own d G Q pc lv (.long b :: .long a :: st) μ := by
  obtain ⟨p, e, R, s, m, args, below, meth, c⟩ := X
  intro hC H locs ls hP hS hl
  have hx := hC.1
  have hb := hC.2.1
  exact W.lcmp hx hb hd (kk hC H locs ls hP hS hl)
theorem mw_dup {v : Value} (hd : decode cc pc = .ok (.dup, 1)) (hv : v.category = 1)
    (kk : mW X cc nL rt own d G Q (pc + 1) lv (v :: v :: st) μ) : mW X cc nL rt own d G Q pc lv (v :: st) μ := by
  obtain ⟨p, e, R, s, m, args, below, meth, c⟩ := X
  intro hC H locs ls hP hS hl
  have hx := hC.1
  have hb := hC.2.1
  exact lv_dup hx hb hd (by rw [cv_cat]; exact hv) (kk hC H locs ls hP hS hl)
theorem mw_dup2 {v u : Value} (hd : decode cc pc = .ok (.dup2, 1)) (hv : v.category = 1) (hu : u.category = 1)
    (kk : mW X cc nL rt own d G Q (pc + 1) lv (v :: u :: v :: u :: st) μ) : mW X cc nL rt own d G Q pc lv (v :: u :: st) μ := by
  obtain ⟨p, e, R, s, m, args, below, meth, c⟩ := X
  intro hC H locs ls hP hS hl
  have hx := hC.1
  have hb := hC.2.1
  exact lv_dup2_11 hx hb hd (by rw [cv_cat]; exact hv) (by rw [cv_cat]; exact hu) (kk hC H locs ls hP hS hl)
theorem mw_pop {v : Value} (hd : decode cc pc = .ok (.pop, 1)) (hv : v.category = 1)
    (kk : mW X cc nL rt own d G Q (pc + 1) lv (st) μ) : mW X cc nL rt own d G Q pc lv (v :: st) μ := by
  obtain ⟨p, e, R, s, m, args, below, meth, c⟩ := X
  intro hC H locs ls hP hS hl
  have hx := hC.1
  have hb := hC.2.1
  exact lv_pop hx hb hd (by rw [cv_cat]; exact hv) (kk hC H locs ls hP hS hl)
theorem mw_ifR_eq {x : Int32} {off : Int} {tgt : Nat} (hd : decode cc pc = .ok (.ifCond .eq off, 3)) (ht : (pc : Int) + off = (tgt : Int)) (kt : x = 0 → mW X cc nL rt own d G Q tgt lv st μ) (kf : ¬ x = 0 → mW X cc nL rt own d G Q (pc + 3) lv st μ) : mW X cc nL rt own d G Q pc lv (.int x :: st) μ := by
  obtain ⟨p, e, R, s, m, args, below, meth, c⟩ := X
  intro hC H locs ls hP hS hl
  exact lv_if_eq hC.1 hC.2.1 hd ht (fun h => kt h hC H locs ls hP hS hl) (fun h => kf h hC H locs ls hP hS hl)
theorem mw_if_eq {a : Int} {off : Int} {tgt : Nat} (hd : decode cc pc = .ok (.ifCond .eq off, 3)) (ht : (pc : Int) + off = (tgt : Int)) (ha : -2147483648 ≤ a ∧ a ≤ 2147483647) (kt : a = 0 → mW X cc nL rt own d G Q tgt lv st μ) (kf : ¬ a = 0 → mW X cc nL rt own d G Q (pc + 3) lv st μ) : mW X cc nL rt own d G Q pc lv (.int (iV a) :: st) μ := by
  have h0 : -2147483648 ≤ (0 : Int) ∧ (0 : Int) ≤ 2147483647 := by omega
  exact mw_ifR_eq hd ht (fun h => kt (by rw [← iV_0] at h; exact (iV_eq ha h0).mp h)) (fun h => kf (fun q => h (by rw [q]; exact iV_0)))
theorem mw_icmp_eq {a b : Int} {off : Int} {tgt : Nat} (hd : decode cc pc = .ok (.if_icmp .eq off, 3)) (ht : (pc : Int) + off = (tgt : Int)) (ha : -2147483648 ≤ a ∧ a ≤ 2147483647) (hb : -2147483648 ≤ b ∧ b ≤ 2147483647) (kt : a = b → mW X cc nL rt own d G Q tgt lv st μ) (kf : ¬ a = b → mW X cc nL rt own d G Q (pc + 3) lv st μ) : mW X cc nL rt own d G Q pc lv (.int (iV b) :: .int (iV a) :: st) μ := by
  obtain ⟨p, e, R, s, m, args, below, meth, c⟩ := X
  intro hC H locs ls hP hS hl
  exact lv_icmp_eq hC.1 hC.2.1 hd ht (fun h => kt ((iV_eq ha hb).mp h) hC H locs ls hP hS hl) (fun h => kf (fun q => h (by rw [q])) hC H locs ls hP hS hl)
theorem mw_ifR_ne {x : Int32} {off : Int} {tgt : Nat} (hd : decode cc pc = .ok (.ifCond .ne off, 3)) (ht : (pc : Int) + off = (tgt : Int)) (kt : x ≠ 0 → mW X cc nL rt own d G Q tgt lv st μ) (kf : x = 0 → mW X cc nL rt own d G Q (pc + 3) lv st μ) : mW X cc nL rt own d G Q pc lv (.int x :: st) μ := by
  obtain ⟨p, e, R, s, m, args, below, meth, c⟩ := X
  intro hC H locs ls hP hS hl
  exact lv_if_ne hC.1 hC.2.1 hd ht (fun h => kt h hC H locs ls hP hS hl) (fun h => kf h hC H locs ls hP hS hl)
theorem mw_if_ne {a : Int} {off : Int} {tgt : Nat} (hd : decode cc pc = .ok (.ifCond .ne off, 3)) (ht : (pc : Int) + off = (tgt : Int)) (ha : -2147483648 ≤ a ∧ a ≤ 2147483647) (kt : ¬ a = 0 → mW X cc nL rt own d G Q tgt lv st μ) (kf : a = 0 → mW X cc nL rt own d G Q (pc + 3) lv st μ) : mW X cc nL rt own d G Q pc lv (.int (iV a) :: st) μ := by
  have h0 : -2147483648 ≤ (0 : Int) ∧ (0 : Int) ≤ 2147483647 := by omega
  exact mw_ifR_ne hd ht (fun h => kt (fun q => h (by rw [q]; exact iV_0))) (fun h => kf (by rw [← iV_0] at h; exact (iV_eq ha h0).mp h))
theorem mw_icmp_ne {a b : Int} {off : Int} {tgt : Nat} (hd : decode cc pc = .ok (.if_icmp .ne off, 3)) (ht : (pc : Int) + off = (tgt : Int)) (ha : -2147483648 ≤ a ∧ a ≤ 2147483647) (hb : -2147483648 ≤ b ∧ b ≤ 2147483647) (kt : ¬ a = b → mW X cc nL rt own d G Q tgt lv st μ) (kf : a = b → mW X cc nL rt own d G Q (pc + 3) lv st μ) : mW X cc nL rt own d G Q pc lv (.int (iV b) :: .int (iV a) :: st) μ := by
  obtain ⟨p, e, R, s, m, args, below, meth, c⟩ := X
  intro hC H locs ls hP hS hl
  exact lv_icmp_ne hC.1 hC.2.1 hd ht (fun h => kt (fun q => h (by rw [q])) hC H locs ls hP hS hl) (fun h => kf ((iV_eq ha hb).mp h) hC H locs ls hP hS hl)
theorem mw_ifR_lt {x : Int32} {off : Int} {tgt : Nat} (hd : decode cc pc = .ok (.ifCond .lt off, 3)) (ht : (pc : Int) + off = (tgt : Int)) (kt : x < 0 → mW X cc nL rt own d G Q tgt lv st μ) (kf : ¬ x < 0 → mW X cc nL rt own d G Q (pc + 3) lv st μ) : mW X cc nL rt own d G Q pc lv (.int x :: st) μ := by
  obtain ⟨p, e, R, s, m, args, below, meth, c⟩ := X
  intro hC H locs ls hP hS hl
  exact lv_if_lt hC.1 hC.2.1 hd ht (fun h => kt h hC H locs ls hP hS hl) (fun h => kf h hC H locs ls hP hS hl)
theorem mw_if_lt {a : Int} {off : Int} {tgt : Nat} (hd : decode cc pc = .ok (.ifCond .lt off, 3)) (ht : (pc : Int) + off = (tgt : Int)) (ha : -2147483648 ≤ a ∧ a ≤ 2147483647) (kt : a < 0 → mW X cc nL rt own d G Q tgt lv st μ) (kf : 0 ≤ a → mW X cc nL rt own d G Q (pc + 3) lv st μ) : mW X cc nL rt own d G Q pc lv (.int (iV a) :: st) μ := by
  have h0 : -2147483648 ≤ (0 : Int) ∧ (0 : Int) ≤ 2147483647 := by omega
  exact mw_ifR_lt hd ht (fun h => kt (by rw [← iV_0] at h; exact (iV_lt ha h0).mp h)) (fun h => kf (by rw [← iV_0, iV_lt ha h0] at h; omega))
theorem mw_icmp_lt {a b : Int} {off : Int} {tgt : Nat} (hd : decode cc pc = .ok (.if_icmp .lt off, 3)) (ht : (pc : Int) + off = (tgt : Int)) (ha : -2147483648 ≤ a ∧ a ≤ 2147483647) (hb : -2147483648 ≤ b ∧ b ≤ 2147483647) (kt : a < b → mW X cc nL rt own d G Q tgt lv st μ) (kf : b ≤ a → mW X cc nL rt own d G Q (pc + 3) lv st μ) : mW X cc nL rt own d G Q pc lv (.int (iV b) :: .int (iV a) :: st) μ := by
  obtain ⟨p, e, R, s, m, args, below, meth, c⟩ := X
  intro hC H locs ls hP hS hl
  exact lv_icmp_lt hC.1 hC.2.1 hd ht (fun h => kt ((iV_lt ha hb).mp h) hC H locs ls hP hS hl) (fun h => kf (by rw [iV_lt ha hb] at h; omega) hC H locs ls hP hS hl)
theorem mw_ifR_ge {x : Int32} {off : Int} {tgt : Nat} (hd : decode cc pc = .ok (.ifCond .ge off, 3)) (ht : (pc : Int) + off = (tgt : Int)) (kt : 0 ≤ x → mW X cc nL rt own d G Q tgt lv st μ) (kf : ¬ 0 ≤ x → mW X cc nL rt own d G Q (pc + 3) lv st μ) : mW X cc nL rt own d G Q pc lv (.int x :: st) μ := by
  obtain ⟨p, e, R, s, m, args, below, meth, c⟩ := X
  intro hC H locs ls hP hS hl
  exact lv_if_ge hC.1 hC.2.1 hd ht (fun h => kt h hC H locs ls hP hS hl) (fun h => kf h hC H locs ls hP hS hl)
theorem mw_if_ge {a : Int} {off : Int} {tgt : Nat} (hd : decode cc pc = .ok (.ifCond .ge off, 3)) (ht : (pc : Int) + off = (tgt : Int)) (ha : -2147483648 ≤ a ∧ a ≤ 2147483647) (kt : 0 ≤ a → mW X cc nL rt own d G Q tgt lv st μ) (kf : a < 0 → mW X cc nL rt own d G Q (pc + 3) lv st μ) : mW X cc nL rt own d G Q pc lv (.int (iV a) :: st) μ := by
  have h0 : -2147483648 ≤ (0 : Int) ∧ (0 : Int) ≤ 2147483647 := by omega
  exact mw_ifR_ge hd ht (fun h => kt (by rw [← iV_0] at h; exact (iV_le h0 ha).mp h)) (fun h => kf (by rw [← iV_0, iV_le h0 ha] at h; omega))
theorem mw_icmp_ge {a b : Int} {off : Int} {tgt : Nat} (hd : decode cc pc = .ok (.if_icmp .ge off, 3)) (ht : (pc : Int) + off = (tgt : Int)) (ha : -2147483648 ≤ a ∧ a ≤ 2147483647) (hb : -2147483648 ≤ b ∧ b ≤ 2147483647) (kt : b ≤ a → mW X cc nL rt own d G Q tgt lv st μ) (kf : a < b → mW X cc nL rt own d G Q (pc + 3) lv st μ) : mW X cc nL rt own d G Q pc lv (.int (iV b) :: .int (iV a) :: st) μ := by
  obtain ⟨p, e, R, s, m, args, below, meth, c⟩ := X
  intro hC H locs ls hP hS hl
  exact lv_icmp_ge hC.1 hC.2.1 hd ht (fun h => kt ((iV_le hb ha).mp h) hC H locs ls hP hS hl) (fun h => kf (by rw [iV_le hb ha] at h; omega) hC H locs ls hP hS hl)
theorem mw_ifR_gt {x : Int32} {off : Int} {tgt : Nat} (hd : decode cc pc = .ok (.ifCond .gt off, 3)) (ht : (pc : Int) + off = (tgt : Int)) (kt : 0 < x → mW X cc nL rt own d G Q tgt lv st μ) (kf : ¬ 0 < x → mW X cc nL rt own d G Q (pc + 3) lv st μ) : mW X cc nL rt own d G Q pc lv (.int x :: st) μ := by
  obtain ⟨p, e, R, s, m, args, below, meth, c⟩ := X
  intro hC H locs ls hP hS hl
  exact lv_if_gt hC.1 hC.2.1 hd ht (fun h => kt h hC H locs ls hP hS hl) (fun h => kf h hC H locs ls hP hS hl)
theorem mw_if_gt {a : Int} {off : Int} {tgt : Nat} (hd : decode cc pc = .ok (.ifCond .gt off, 3)) (ht : (pc : Int) + off = (tgt : Int)) (ha : -2147483648 ≤ a ∧ a ≤ 2147483647) (kt : 0 < a → mW X cc nL rt own d G Q tgt lv st μ) (kf : a ≤ 0 → mW X cc nL rt own d G Q (pc + 3) lv st μ) : mW X cc nL rt own d G Q pc lv (.int (iV a) :: st) μ := by
  have h0 : -2147483648 ≤ (0 : Int) ∧ (0 : Int) ≤ 2147483647 := by omega
  exact mw_ifR_gt hd ht (fun h => kt (by rw [← iV_0] at h; exact (iV_lt h0 ha).mp h)) (fun h => kf (by rw [← iV_0, iV_lt h0 ha] at h; omega))
theorem mw_icmp_gt {a b : Int} {off : Int} {tgt : Nat} (hd : decode cc pc = .ok (.if_icmp .gt off, 3)) (ht : (pc : Int) + off = (tgt : Int)) (ha : -2147483648 ≤ a ∧ a ≤ 2147483647) (hb : -2147483648 ≤ b ∧ b ≤ 2147483647) (kt : b < a → mW X cc nL rt own d G Q tgt lv st μ) (kf : a ≤ b → mW X cc nL rt own d G Q (pc + 3) lv st μ) : mW X cc nL rt own d G Q pc lv (.int (iV b) :: .int (iV a) :: st) μ := by
  obtain ⟨p, e, R, s, m, args, below, meth, c⟩ := X
  intro hC H locs ls hP hS hl
  exact lv_icmp_gt hC.1 hC.2.1 hd ht (fun h => kt ((iV_lt hb ha).mp h) hC H locs ls hP hS hl) (fun h => kf (by rw [iV_lt hb ha] at h; omega) hC H locs ls hP hS hl)
theorem mw_ifR_le {x : Int32} {off : Int} {tgt : Nat} (hd : decode cc pc = .ok (.ifCond .le off, 3)) (ht : (pc : Int) + off = (tgt : Int)) (kt : x ≤ 0 → mW X cc nL rt own d G Q tgt lv st μ) (kf : ¬ x ≤ 0 → mW X cc nL rt own d G Q (pc + 3) lv st μ) : mW X cc nL rt own d G Q pc lv (.int x :: st) μ := by
  obtain ⟨p, e, R, s, m, args, below, meth, c⟩ := X
  intro hC H locs ls hP hS hl
  exact lv_if_le hC.1 hC.2.1 hd ht (fun h => kt h hC H locs ls hP hS hl) (fun h => kf h hC H locs ls hP hS hl)
theorem mw_if_le {a : Int} {off : Int} {tgt : Nat} (hd : decode cc pc = .ok (.ifCond .le off, 3)) (ht : (pc : Int) + off = (tgt : Int)) (ha : -2147483648 ≤ a ∧ a ≤ 2147483647) (kt : a ≤ 0 → mW X cc nL rt own d G Q tgt lv st μ) (kf : 0 < a → mW X cc nL rt own d G Q (pc + 3) lv st μ) : mW X cc nL rt own d G Q pc lv (.int (iV a) :: st) μ := by
  have h0 : -2147483648 ≤ (0 : Int) ∧ (0 : Int) ≤ 2147483647 := by omega
  exact mw_ifR_le hd ht (fun h => kt (by rw [← iV_0] at h; exact (iV_le ha h0).mp h)) (fun h => kf (by rw [← iV_0, iV_le ha h0] at h; omega))
theorem mw_icmp_le {a b : Int} {off : Int} {tgt : Nat} (hd : decode cc pc = .ok (.if_icmp .le off, 3)) (ht : (pc : Int) + off = (tgt : Int)) (ha : -2147483648 ≤ a ∧ a ≤ 2147483647) (hb : -2147483648 ≤ b ∧ b ≤ 2147483647) (kt : a ≤ b → mW X cc nL rt own d G Q tgt lv st μ) (kf : b < a → mW X cc nL rt own d G Q (pc + 3) lv st μ) : mW X cc nL rt own d G Q pc lv (.int (iV b) :: .int (iV a) :: st) μ := by
  obtain ⟨p, e, R, s, m, args, below, meth, c⟩ := X
  intro hC H locs ls hP hS hl
  exact lv_icmp_le hC.1 hC.2.1 hd ht (fun h => kt ((iV_le ha hb).mp h) hC H locs ls hP hS hl) (fun h => kf (by rw [iV_le ha hb] at h; omega) hC H locs ls hP hS hl)
theorem mw_goto {off : Int} {tgt : Nat} (hd : decode cc pc = .ok (.goto off, 3)) (ht : (pc : Int) + off = (tgt : Int)) (kk : mW X cc nL rt own d G Q tgt lv st μ) : mW X cc nL rt own d G Q pc lv st μ := by
  obtain ⟨p, e, R, s, m, args, below, meth, c⟩ := X
  intro hC H locs ls hP hS hl
  exact lv_goto hC.1 hC.2.1 hd ht (kk hC H locs ls hP hS hl)
theorem mw_tblOut {dflt lo hi : Int} {offs : Array Int} {len : Nat} {a : Int} {tgt : Nat} (hd : decode cc pc = .ok (.tableswitch dflt lo hi offs, len)) (ha : -2147483648 ≤ a ∧ a ≤ 2147483647) (h : a < lo ∨ hi < a) (ht : (pc : Int) + dflt = (tgt : Int)) (kk : mW X cc nL rt own d G Q tgt lv st μ) : mW X cc nL rt own d G Q pc lv (.int (iV a) :: st) μ := by
  obtain ⟨p, e, R, s, m, args, below, meth, c⟩ := X
  intro hC H locs ls hP hS hl
  exact lv_tableOut hC.1 hC.2.1 hd (by rw [iV_toInt ha]; exact h) ht (kk hC H locs ls hP hS hl)
theorem mw_tblIn {dflt lo hi : Int} {offs : Array Int} {len : Nat} {a : Int} {off : Int} {tgt : Nat} (hd : decode cc pc = .ok (.tableswitch dflt lo hi offs, len)) (ha : -2147483648 ≤ a ∧ a ≤ 2147483647) (h1 : lo ≤ a) (h2 : a ≤ hi) (ho : offs[(a - lo).toNat]? = some off) (ht : (pc : Int) + off = (tgt : Int)) (kk : mW X cc nL rt own d G Q tgt lv st μ) : mW X cc nL rt own d G Q pc lv (.int (iV a) :: st) μ := by
  obtain ⟨p, e, R, s, m, args, below, meth, c⟩ := X
  intro hC H locs ls hP hS hl
  exact lv_tableIn hC.1 hC.2.1 hd (by rw [iV_toInt ha]; omega) (by rw [iV_toInt ha]; omega) (by rw [iV_toInt ha]; exact ho) ht (kk hC H locs ls hP hS hl)
theorem mw_lkp {dflt : Int} {ps : Array (Int × Int)} {len : Nat} {a : Int} {off : Int} {tgt : Nat} (hd : decode cc pc = .ok (.lookupswitch dflt ps, len)) (ha : -2147483648 ≤ a ∧ a ≤ 2147483647) (hp : (ps.toList.zip (ps.toList.drop 1)).all (fun (a, next) => a.1 < next.1) = true) (ho : Op.lookupswitch.offset ps.toList dflt a = off) (ht : (pc : Int) + off = (tgt : Int)) (kk : mW X cc nL rt own d G Q tgt lv st μ) : mW X cc nL rt own d G Q pc lv (.int (iV a) :: st) μ := by
  obtain ⟨p, e, R, s, m, args, below, meth, c⟩ := X
  intro hC H locs ls hP hS hl
  exact lv_lookup hC.1 hC.2.1 hd hp (by rw [iV_toInt ha]; exact ho) ht (kk hC H locs ls hP hS hl)
theorem mw_iret {x : Int32} (hd : decode cc pc = .ok (.ireturn, 1)) (hr : rt = some .int) (hq : Q (some (.int x)) μ) : mW X cc nL rt own d G Q pc lv [.int x] μ := by
  obtain ⟨p, e, R, s, m, args, below, meth, c⟩ := X
  intro hC H locs ls hP hS hl
  have hlocks := hC.2.2.2.2.2.1
  exact W.iret (v := x) hC.1 hC.2.1 (hC.2.2.2.1.trans hr) (fun t ht hW => ⟨⟨some (.int x), μ, rfl, hq, by rw [ht]; exact hP⟩, hS.F ht⟩) hS.2.2 hd hlocks
theorem mw_zret {x : Int32} {ty : FieldType} (hd : decode cc pc = .ok (.ireturn, 1)) (hr : rt = some ty) (hn : narrow ty (.int x) = .int x) (hq : Q (some (.int x)) μ) : mW X cc nL rt own d G Q pc lv [.int x] μ := by
  obtain ⟨p, e, R, s, m, args, below, meth, c⟩ := X
  intro hC H locs ls hP hS hl
  have hlocks := hC.2.2.2.2.2.1
  exact W.zret (v := x) hC.1 hC.2.1 (hC.2.2.2.1.trans hr) hn (fun t ht hW => ⟨⟨some (.int x), μ, rfl, hq, by rw [ht]; exact hP⟩, hS.F ht⟩) hS.2.2 hd hlocks
theorem mw_lret {x : Int64} (hd : decode cc pc = .ok (.lreturn, 1)) (hr : rt = some .long) (hq : Q (some (.long x)) μ) : mW X cc nL rt own d G Q pc lv [.long x] μ := by
  obtain ⟨p, e, R, s, m, args, below, meth, c⟩ := X
  intro hC H locs ls hP hS hl
  have hlocks := hC.2.2.2.2.2.1
  exact W.lret (v := x) hC.1 hC.2.1 (hC.2.2.2.1.trans hr) (fun t ht hW => ⟨⟨some (.long x), μ, rfl, hq, by rw [ht]; exact hP⟩, hS.F ht⟩) hS.2.2 hd hlocks
theorem mw_vret (hd : decode cc pc = .ok (.return_, 1)) (hr : rt = none) (hq : Q none μ) : mW X cc nL rt own d G Q pc lv [] μ := by
  obtain ⟨p, e, R, s, m, args, below, meth, c⟩ := X
  intro hC H locs ls hP hS hl
  have hlocks := hC.2.2.2.2.2.1
  exact W.vret hC.1 hC.2.1 (hC.2.2.2.1.trans hr) (fun t ht hW => ⟨⟨none, μ, rfl, hq, by rw [ht]; exact hP⟩, hS.F ht⟩) hS.2.2 hd hlocks
theorem mw_aret {k : Nat} {rn : FieldType} (hd : decode cc pc = .ok (.areturn, 1)) (hr : rt = some rn) (hrt : (∃ n, rn = .object n) ∨ ∃ t, rn = .array t) (hq : Q (some (.ref k)) μ) : mW X cc nL rt own d G Q pc lv [.ref k] μ := by
  obtain ⟨p, e, R, s, m, args, below, meth, c⟩ := X
  intro hC H locs ls hP hS hl
  have hlocks := hC.2.2.2.2.2.1
  exact W.aret (v := .ref (G.1 k)) hC.1 hC.2.1 (hC.2.2.2.1.trans hr) hrt (Or.inr ⟨_, rfl⟩) (fun t ht hW => ⟨⟨some (.ref k), μ, rfl, hq, by rw [ht]; exact hP⟩, hS.F ht⟩) hS.2.2 hd hlocks
end MINI
end
section
theorem inX0 : ∀ w ∈ wsX00, w ∈ mTb := by decide +kernel
theorem inX1 : ∀ w ∈ wsX10, w ∈ mTb := by decide +kernel
theorem inX2 : ∀ w ∈ wsX20, w ∈ mTb := by decide +kernel
theorem inX3 : ∀ w ∈ wsX30, w ∈ mTb := by decide +kernel
theorem inX4 : ∀ w ∈ wsX40, w ∈ mTb := by decide +kernel
theorem inX5 : ∀ w ∈ wsX50, w ∈ mTb := by decide +kernel
theorem inX6 : ∀ w ∈ wsX60, w ∈ mTb := by decide +kernel
theorem inX7 : ∀ w ∈ wsX70, w ∈ mTb := by decide +kernel
def mKc (ci : Nat) (C : String) (T : u_T) (N : Nat) : Prop := vwCl[ci]? = some (C, T, N) ∧ (∀ w ∈ u_ws C T N, w ∈ mTb) ∧ (∃ ty : Nat → FieldType, ∀ k, k < N → parseFieldDescriptor (T k).2.2.1 = some (ty k)) ∧ (∀ a, a < N → ∀ b, b < N → a ≠ b → (T a).2.1 ≠ (T b).2.1) ∧ N = mNf ci ∧ ci < 8
theorem kcX0 : mKc 0 RX0 TX0 5 := ⟨rfl, inX0, ⟨tyX0, tyX0_ok⟩, nmX0, rfl, by decide⟩
theorem kcX1 : mKc 1 RX1 TX1 5 := ⟨rfl, inX1, ⟨tyX1, tyX1_ok⟩, nmX1, rfl, by decide⟩
theorem kcX2 : mKc 2 RX2 TX2 5 := ⟨rfl, inX2, ⟨tyX2, tyX2_ok⟩, nmX2, rfl, by decide⟩
theorem kcX3 : mKc 3 RX3 TX3 3 := ⟨rfl, inX3, ⟨tyX3, tyX3_ok⟩, nmX3, rfl, by decide⟩
theorem kcX4 : mKc 4 RX4 TX4 2 := ⟨rfl, inX4, ⟨tyX4, tyX4_ok⟩, nmX4, rfl, by decide⟩
theorem kcX5 : mKc 5 RX5 TX5 2 := ⟨rfl, inX5, ⟨tyX5, tyX5_ok⟩, nmX5, rfl, by decide⟩
theorem kcX6 : mKc 6 RX6 TX6 8 := ⟨rfl, inX6, ⟨tyX6, tyX6_ok⟩, nmX6, rfl, by decide⟩
theorem kcX7 : mKc 7 RX7 TX7 24 := ⟨rfl, inX7, ⟨tyX7, tyX7_ok⟩, nmX7, rfl, by decide⟩
/-- a place of a getfield, of a putfield: the class's number, the field's -/
def sG (own : String) (idx ci j : Nat) : Prop := ∃ (C : String) (T : u_T) (N : Nat), mKc ci C T N ∧ j < N ∧ (Cond.fieldLink own idx (T j).1 (T j).2.1 (T j).2.2.1 ∈ mTb ∨ ∃ host, Cond.fieldLinkNest own idx (T j).1 (T j).2.1 (T j).2.2.1 host ∈ mNest)
def sP (own : String) (idx ci j : Nat) (ty : FieldType) : Prop := ∃ (C : String) (T : u_T) (N : Nat), mKc ci C T N ∧ j < N ∧ (Cond.fieldLink own idx (T j).1 (T j).2.1 (T j).2.2.1 ∈ mTb ∨ ∃ host, Cond.fieldLinkNest own idx (T j).1 (T j).2.1 (T j).2.2.1 host ∈ mNest) ∧ (T j).2.2.2 = false ∧ parseFieldDescriptor (T j).2.2.1 = some ty
theorem mLen_le (k : Nat) : mLen k ≤ 1000 := by
  rcases Nat.lt_or_ge k 72 with q | q
  · have h : ∀ k, k < 72 → mLen k ≤ 1000 := by decide
    exact h k q
  · unfold mLen
    rw [List.getD_eq_getElem?_getD, List.getElem?_eq_none (by simpa using q)]
    exact Nat.zero_le _
def qI (P : Int → mMem → Prop) : Option Value → mMem → Prop := fun r μ => ∃ z : Int, r = some (.int (iV z)) ∧ P z μ
def qV (P : mMem → Prop) : Option Value → mMem → Prop := fun r μ => r = none ∧ P μ
def qL (P : Int64 → mMem → Prop) : Option Value → mMem → Prop := fun r μ => ∃ z : Int64, r = some (.long z) ∧ P z μ
def qR (P : Nat → mMem → Prop) : Option Value → mMem → Prop := fun r μ => ∃ k : Nat, r = some (.ref k) ∧ P k μ
/-- the locals that a method begins with -/
def mEn : List Value → List (Option Value)
  | [] => []
  | v :: t => if v.category = 2 then some v :: none :: mEn t else some v :: mEn t
theorem mEn_args (G : mG) : ∀ (as : List Value) (n i : Nat) (v : Value) (t : List (Option Value)), (∀ o ∈ t, o = none) → (mEn as ++ t)[i]? = some (some v) → (n + i, cv G v) ∈ lv_args n (as.map (cv G))
  | [], n, i, v, t, ht, h => by
    rw [mEn, List.nil_append] at h
    exact absurd (ht _ (List.mem_of_getElem? h)) (by simp)
  | a :: as, n, i, v, t, ht, h => by
    show (n + i, cv G v) ∈ (n, cv G a) :: lv_args (if (cv G a).category = 2 then n + 2 else n + 1) (as.map (cv G))
    rw [cv_cat]
    by_cases hc : a.category = 2
    · rw [mEn, if_pos hc] at h
      rw [if_pos hc]
      match i, h with
      | 0, h => cases h; exact List.mem_cons_self
      | 1, h => cases h
      | i + 2, h =>
        have := mEn_args G as (n + 2) i v t ht h
        rw [show n + (i + 2) = n + 2 + i by omega]
        exact List.mem_cons_of_mem _ this
    · rw [mEn, if_neg hc] at h
      rw [if_neg hc]
      match i, h with
      | 0, h => cases h; exact List.mem_cons_self
      | i + 1, h =>
        have := mEn_args G as (n + 1) i v t ht h
        rw [show n + (i + 1) = n + 1 + i by omega]
        exact List.mem_cons_of_mem _ this
theorem met_ofWF {l : Launch} {y : MethodName} {ws ws' : List Cond} {rm : Room} {Pc : Array Value → State → Prop} {Qc : Array Value → State → Outcome → State → Prop} {mc ms : Nat} {free : Addr → Prop} {cc : ByteArray} {maxL : Nat} {ret : Option FieldType}
    (hy : plainFor y = true) (hw : ws = Cond.code y cc maxL ret :: ws')
    (body : ∀ p e s m args below meth c s₁, BodyLoose p l y (headSpec ws rm) cc maxL ret e s m args below meth c s₁ → c.maxLocals = maxL → Pc args s →
      W p l e (headSpec ws rm).room s m args below meth c s.heap [] 0 0 (MQ below Qc args s mc ms free) (entryFrame m args maxL)) : Met l y ws rm Pc Qc mc ms free := by
  refine MetFree.of_bodySF (code := cc) (maxLocals := maxL) (ret := ret) hy ?_ ?_
  · intro args s m h hn
    obtain ⟨meth, c, h1, h2, h3, h4, h5, h6, -, -⟩ := Cond.code_spec hn (atoms_spec (ws := ws) h _ (by rw [hw]; exact List.mem_cons_self))
    exact ⟨meth, c, h1, h2, h3, h4, h5, h6⟩
  · intro p e s m args below meth c s₁ B hml hP _
    have hh0 : s₁.heap = s.heap := by rw [B.state]; rfl
    obtain ⟨t, a1, o, b1, b2, b3⟩ := body p e s m args below meth c s₁ B hml hP s₁ hh0 (Stand.of_body B)
    exact ⟨t, o, a1, b1, b2, ⟨b3.1, b3.2⟩⟩
theorem mM.of {G : mG} {y : MethodName} {cc : ByteArray} {nL : Nat} {rt : Option FieldType} {d : Nat} {as : List Value} {μ : mMem} {Q : Option Value → mMem → Prop} (t : Nat) (hy : plainFor y = true) (hn : (lg_sl (as.map (cv G))).length ≤ nL) {lv : List (Option Value)} (hlv : mEn as ++ List.replicate t none = lv)
    (h : ∀ X : mX, mW X cc nL rt y.cls d G Q 0 lv [] μ) : mM G y cc nL rt d as μ Q := by
  refine met_ofWF (cc := cc) (maxL := nL) (ret := rt) hy rfl ?_
  intro p e s m args below meth c s₁ B hml hv
  obtain ⟨rfl, hE, hH⟩ := hv
  have hts := atoms_spec (ws := Cond.code y cc nL rt :: mTb) B.pre
  have hown : s.vm.findClass y.cls = some m.cls := findClass_of_methodNamed B.named
  have hl := lv_entry (as.map (cv G)) (n := nL) hn
  rw [lg_entry_eq]
  refine h (p, e, _, s, m, _, below, meth, c) ⟨B.exec, B.bytes, hml, B.returns, hown, B.notSynchronized, rfl, fun w hw => hts w (List.mem_cons_of_mem _ hw), hE⟩ s.heap [] _ hH va_S.rf ⟨hl.1, hl.2.1, fun i v hi => ?_⟩
  subst hlv
  have h1 := mEn_args G as 0 i v _ (fun o ho => List.eq_of_mem_replicate ho) hi
  rw [Nat.zero_add] at h1
  exact hl.2.2 _ h1
theorem mM.mono {G : mG} {y : MethodName} {cc : ByteArray} {nL : Nat} {rt : Option FieldType} {d : Nat} {as : List Value} {μ : mMem} {Q Q' : Option Value → mMem → Prop} (h : mM G y cc nL rt d as μ Q) (hq : ∀ r μ', Q r μ' → Q' r μ') : mM G y cc nL rt d as μ Q' := by
  intro p e ha hc hk s m args below hf hap hP hT
  obtain ⟨t, o, h1, h2, h3, ⟨⟨⟨r, μ', h4, h5, h6⟩, h7⟩, h8⟩⟩ := h p e ha hc hk s m args below hf hap hP hT
  exact ⟨t, o, h1, h2, h3, ⟨⟨r, μ', h4, hq _ _ h5, h6⟩, h7⟩, h8⟩
/-- a method of an object, a static one: what a call of it asks of the tables -/
def sMv (y : MethodName) (cc : ByteArray) (nL : Nat) (rt : Option FieldType) (n : Nat) : Prop := Cond.instanceMethod y ∈ mTb ∧ Cond.selects y.cls y y ∈ mTb ∧ Cond.initialized y.cls ∈ mTb ∧ Cond.code y cc nL rt ∈ mTb ∧ y.cls ≠ "java/lang/invoke/MethodHandle" ∧ y.cls ≠ "java/lang/invoke/VarHandle" ∧ (parseMethodDescriptor y.desc).map (fun d => d.parameters.length) = some n
def sMs (y : MethodName) (cc : ByteArray) (nL : Nat) (rt : Option FieldType) (n : Nat) : Prop := Cond.static y ∈ mTb ∧ Cond.initialized y.cls ∈ mTb ∧ Cond.code y cc nL rt ∈ mTb ∧ y.cls ≠ "java/lang/invoke/MethodHandle" ∧ y.cls ≠ "java/lang/invoke/VarHandle" ∧ (parseMethodDescriptor y.desc).map (fun d => d.parameters.length) = some n
theorem goodIn_cons {c : Cond} (h : c ∈ mTb) : GoodIn mTb (c :: mTb) := fun w hw => (List.mem_cons.mp hw).elim (fun e => ⟨by rw [e]; exact h, mTb_good w (by rw [e]; exact h)⟩) (fun h => ⟨h, mTb_good w h⟩)
theorem mBlind {G : mG} {as : List Value} {μ : mMem} : FrameBlind (fun v U => v = (as.map (cv G)).toArray ∧ mEnv G U ∧ mH G μ U.heap) := fun a U g mk h => ⟨h.1, mEnv.same (s := U) (U := U.calling g mk a) rfl rfl h.2.1, h.2.2⟩
section MINIH
variable {X : mX} {cc : ByteArray} {nL : Nat} {rt : Option FieldType} {own : String} {d : Nat} {G : mG} {Q : Option Value → mMem → Prop} {pc : Nat} {lv : List (Option Value)} {st : List Value} {μ : mMem}
theorem mw_getV {idx ci j k : Nat} (hd : decode cc pc = .ok (.getfield idx, 3)) (hs : sG own idx ci j) (hk : mCls k = ci) {v : Value} (hv : cv G v = if mIsR ci j = true then .ref (G.1 (mRf k j)) else .int (iV (μ.1 k (j : Int)))) (kk : mW X cc nL rt own d G Q (pc + 3) lv (v :: st) μ) : mW X cc nL rt own d G Q pc lv (.ref k :: st) μ := by
  obtain ⟨p, e, R, s, m, args, below, meth, c⟩ := X
  intro hC H locs ls hP hS hl
  have hx := hC.1
  have hb := hC.2.1
  have hown := hC.2.2.2.2.1
  have hts := hC.2.2.2.2.2.2.2.1
  have hE := hC.2.2.2.2.2.2.2.2
  obtain ⟨C, T, N, ⟨hc, hin, ⟨ty, hty⟩, hnm, hN, hc8⟩, hj, hlk⟩ := hs
  have hk72 := mCls_lt hk (by omega)
  have he : (mWs G μ)[k]? = some (G.1 k, .inr (ci, mFs G μ k ci)) := by rw [mWs_get G μ hk72, mE_obj hk hc8]
  have hf : (mFs G μ k ci)[j]? = some (cv G v) := by rw [mFs_get (by omega), hv]
  rcases hlk with h | ⟨host, h⟩
  · exact va_get hx hb hts hin hown hE.1 hP k he hc j hj (hts _ h) (fun _ h9 => h9) hf hd (kk hC H locs ls hP hS hl)
  · exact va_getN hx hb hts hin hown hE.1 hP k he hc j hj (va_Nw.use rfl (hE.2.2.2 _ h)) (fun _ h9 => h9) hf hd (kk hC H locs ls hP hS hl)
theorem mw_getI {idx ci j k : Nat} (z : Int) (hd : decode cc pc = .ok (.getfield idx, 3)) (hs : sG own idx ci j) (hk : mCls k = ci) (hr : mIsR ci j = false) (hz : (j : Int) = z) (kk : mW X cc nL rt own d G Q (pc + 3) lv (.int (iV (μ.1 k z)) :: st) μ) : mW X cc nL rt own d G Q pc lv (.ref k :: st) μ :=
  mw_getV hd hs hk (v := .int (iV (μ.1 k z))) (by rw [hr, hz]; rfl) kk
theorem mw_getR {idx ci j k : Nat} (q : Nat) (hd : decode cc pc = .ok (.getfield idx, 3)) (hs : sG own idx ci j) (hk : mCls k = ci) (hr : mIsR ci j = true) (hz : mRf k j = q) (kk : mW X cc nL rt own d G Q (pc + 3) lv (.ref q :: st) μ) : mW X cc nL rt own d G Q pc lv (.ref k :: st) μ :=
  mw_getV hd hs hk (v := .ref q) (by rw [hr, hz]; rfl) kk
theorem mw_putV {idx ci j k : Nat} {v : Int} {ty : FieldType} (z : Int) (hd : decode cc pc = .ok (.putfield idx, 3)) (hs : sP own idx ci j ty) (hk : mCls k = ci) (hr : mIsR ci j = false) (hz : (j : Int) = z) (hn : narrow ty (.int (iV v)) = .int (iV v)) (hfit : fits ty (.int (iV v)) = true) (kk : mW X cc nL rt own d G Q (pc + 3) lv st (u1 μ k z v)) : mW X cc nL rt own d G Q pc lv (.int (iV v) :: .ref k :: st) μ := by
  obtain ⟨p, e, R, s, m, args, below, meth, c⟩ := X
  intro hC H locs ls hP hS hl
  have hx := hC.1
  have hb := hC.2.1
  have hown := hC.2.2.2.2.1
  have hts := hC.2.2.2.2.2.2.2.1
  have hE := hC.2.2.2.2.2.2.2.2
  obtain ⟨C, T, N, ⟨hc, hin, ⟨ty0, hty⟩, hnm, hN, hc8⟩, hj, hlk, hfin, hpd⟩ := hs
  have hk72 := mCls_lt hk (by omega)
  have he : (mWs G μ)[k]? = some (G.1 k, .inr (ci, mFs G μ k ci)) := by rw [mWs_get G μ hk72, mE_obj hk hc8]
  have hset : (mWs G μ).set k (G.1 k, .inr (ci, (mFs G μ k ci).set j (.int (iV v)))) = mWs G (u1 μ k z v) := by
    subst hz
    exact mWs_set hk72 (by rw [mE_obj hk hc8, mFs_set hr]) (fun j hj => mE_o hj)
  have hkk : ∀ (H1 : Heap) (locs1 : List Loc), va_P G.2.1 vwCl ((mWs G μ).set k (G.1 k, .inr (ci, (mFs G μ k ci).set j (.int (iV v))))) H1 → va_D (mA G) ((mWs G μ).set k (G.1 k, .inr (ci, (mFs G μ k ci).set j (.int (iV v))))) → va_S (mA G) s.heap H1 locs1 → W p G.2.2.2.2 e R s m args below meth c H1 locs1 0 0 (MQ below (mQ G Q) args s 0 0 (mA G)) (F0 m (pc + 3) ls (st.map (cv G))) := by
    intro H1 locs1 h1 _ h3
    rw [hset] at h1
    exact kk hC H1 locs1 ls h1 h3 hl
  rcases hlk with h | ⟨host, h⟩
  · exact va_put hx hb hts hin ty0 hty hnm hown hE.1 hP (mD μ hE.2.1) hS k he hc j hj (hts _ h) (fun _ h9 => h9) hfin hpd hn hfit (by rw [mFs_len]; omega) hd hkk
  · exact va_putN hx hb hts hin ty0 hty hnm hown hE.1 hP (mD μ hE.2.1) hS k he hc j hj (va_Nw.use rfl (hE.2.2.2 _ h)) (fun _ h9 => h9) hfin hpd hn hfit (by rw [mFs_len]; omega) hd hkk
theorem mw_putI {idx ci j k : Nat} {v : Int} (z : Int) (hd : decode cc pc = .ok (.putfield idx, 3)) (hs : sP own idx ci j .int) (hk : mCls k = ci) (hr : mIsR ci j = false) (hz : (j : Int) = z) (kk : mW X cc nL rt own d G Q (pc + 3) lv st (u1 μ k z v)) : mW X cc nL rt own d G Q pc lv (.int (iV v) :: .ref k :: st) μ :=
  mw_putV z hd hs hk hr hz rfl rfl kk
theorem mw_putZ {idx ci j k : Nat} {v : Int} (z : Int) (hd : decode cc pc = .ok (.putfield idx, 3)) (hs : sP own idx ci j .boolean) (hk : mCls k = ci) (hr : mIsR ci j = false) (hz : (j : Int) = z) (hv : v = 0 ∨ v = 1) (kk : mW X cc nL rt own d G Q (pc + 3) lv st (u1 μ k z v)) : mW X cc nL rt own d G Q pc lv (.int (iV v) :: .ref k :: st) μ :=
  mw_putV z hd hs hk hr hz (by rcases hv with rfl | rfl <;> decide +kernel) (by rcases hv with rfl | rfl <;> decide +kernel) kk
theorem mw_iald {k : Nat} {z : Int} (n : Nat) (hd : decode cc pc = .ok (.iaload, 1)) (hk : mCls k = 8) (hn : mLen k = n) (hb : 0 ≤ z ∧ z < n) (kk : mW X cc nL rt own d G Q (pc + 1) lv (.int (iV (μ.1 k z)) :: st) μ) : mW X cc nL rt own d G Q pc lv (.int (iV z) :: .ref k :: st) μ := by
  obtain ⟨p, e, R, s, m, args, below, meth, c⟩ := X
  intro hC H locs ls hP hS hl
  have hE := hC.2.2.2.2.2.2.2.2
  have hk72 := mCls_lt hk (by omega)
  have hle := mLen_le k
  have he : (mWs G μ)[k]? = some (G.1 k, .inl (G.2.2.1 0, mLen k, .inl (fun j => iV (μ.1 k (j : Int))))) := by rw [mWs_get G μ hk72, mE_int hk]
  refine va_iald hC.1 hC.2.1 hE.1 hP k 0 he rfl (iV_in (by omega) (by omega)) hd ?_
  rw [iV_clamp (by omega), show ((z.toNat : Nat) : Int) = z by omega]
  exact kk hC H locs ls hP hS hl
theorem mw_lald {k : Nat} {z : Int} (n : Nat) (hd : decode cc pc = .ok (.laload, 1)) (hk : mCls k = 9) (hn : mLen k = n) (hb : 0 ≤ z ∧ z < n) (kk : mW X cc nL rt own d G Q (pc + 1) lv (.long (μ.2 k z) :: st) μ) : mW X cc nL rt own d G Q pc lv (.int (iV z) :: .ref k :: st) μ := by
  obtain ⟨p, e, R, s, m, args, below, meth, c⟩ := X
  intro hC H locs ls hP hS hl
  have hE := hC.2.2.2.2.2.2.2.2
  have hk72 := mCls_lt hk (by omega)
  have hle := mLen_le k
  have he : (mWs G μ)[k]? = some (G.1 k, .inl (G.2.2.1 1, mLen k, .inr (.inl (fun j => μ.2 k (j : Int))))) := by rw [mWs_get G μ hk72, mE_lng hk]
  refine va_lald hC.1 hC.2.1 hE.1 hP k 1 he rfl (iV_in (by omega) (by omega)) hd ?_
  rw [iV_clamp (by omega), show ((z.toNat : Nat) : Int) = z by omega]
  exact kk hC H locs ls hP hS hl
theorem mw_aald {k : Nat} {z : Int} (ci n q : Nat) (hd : decode cc pc = .ok (.aaload, 1)) (hk : mCls k = ci) (hci : 10 ≤ ci ∧ ci ≤ 12) (hn : mLen k = n) (hb : 0 ≤ z ∧ z < n) (hq : mRf k z.toNat = q) (kk : mW X cc nL rt own d G Q (pc + 1) lv (.ref q :: st) μ) : mW X cc nL rt own d G Q pc lv (.int (iV z) :: .ref k :: st) μ := by
  obtain ⟨p, e, R, s, m, args, below, meth, c⟩ := X
  intro hC H locs ls hP hS hl
  have hE := hC.2.2.2.2.2.2.2.2
  have hk72 := mCls_lt hk (by omega)
  have hle := mLen_le k
  have he : (mWs G μ)[k]? = some (G.1 k, .inl (G.2.2.1 (ci - 8), mLen k, .inr (.inr (.inr (.inr (fun j => some (G.1 (mRf k j)))))))) := by rw [mWs_get G μ hk72, mE_ref hk hci.1]
  have kk' : W p G.2.2.2.2 e R s m args below meth c H locs 0 0 (MQ below (mQ G Q) args s 0 0 (mA G)) (F0 m (pc + 1) ls (va_rf ((fun j => some (G.1 (mRf k j))) (iV z).toNatClampNeg) :: st.map (cv G))) := by
    rw [iV_clamp (by omega)]
    show W p G.2.2.2.2 e R s m args below meth c H locs 0 0 _ (F0 m (pc + 1) ls (.ref (G.1 (mRf k z.toNat)) :: st.map (cv G)))
    rw [hq]
    exact kk hC H locs ls hP hS hl
  have h3 : ci = 10 ∨ ci = 11 ∨ ci = 12 := by omega
  rcases h3 with rfl | rfl | rfl
  · exact va_aldq hC.1 hC.2.1 hE.1 hP k 2 he rfl (iV_in (by omega) (by omega)) hd kk'
  · exact va_aldq hC.1 hC.2.1 hE.1 hP k 3 he rfl (iV_in (by omega) (by omega)) hd kk'
  · exact va_aldq hC.1 hC.2.1 hE.1 hP k 4 he rfl (iV_in (by omega) (by omega)) hd kk'
theorem mw_iast {k : Nat} {z v : Int} (n : Nat) (hd : decode cc pc = .ok (.iastore, 1)) (hk : mCls k = 8) (hn : mLen k = n) (hb : 0 ≤ z ∧ z < n) (kk : mW X cc nL rt own d G Q (pc + 1) lv st (u1 μ k z v)) : mW X cc nL rt own d G Q pc lv (.int (iV v) :: .int (iV z) :: .ref k :: st) μ := by
  obtain ⟨p, e, R, s, m, args, below, meth, c⟩ := X
  intro hC H locs ls hP hS hl
  have hE := hC.2.2.2.2.2.2.2.2
  have hk72 := mCls_lt hk (by omega)
  have hle := mLen_le k
  have he : (mWs G μ)[k]? = some (G.1 k, .inl (G.2.2.1 0, mLen k, .inl (fun j => iV (μ.1 k (j : Int))))) := by rw [mWs_get G μ hk72, mE_int hk]
  refine va_iast hC.1 hC.2.1 hE.1 hP (mD μ hE.2.1) hS k 0 he rfl (iV_in (by omega) (by omega)) hd (fun H1 locs1 h1 _ h3 => kk hC H1 locs1 ls ?_ h3 hl)
  rw [mWs_set (μ' := u1 μ k z v) hk72 _ (fun j hj => mE_o hj)] at h1
  · exact h1
  · rw [mE_int hk]
    congr 4
    funext j
    rw [iV_clamp (by omega)]
    by_cases hj : j = z.toNat
    · subst hj
      rw [show ((z.toNat : Nat) : Int) = z by omega, u1_s]
      simp [upd]
    · rw [u1_o (by omega)]
      simp [upd, hj]
theorem mw_last {k : Nat} {z : Int} {v : Int64} (n : Nat) (hd : decode cc pc = .ok (.lastore, 1)) (hk : mCls k = 9) (hn : mLen k = n) (hb : 0 ≤ z ∧ z < n) (kk : mW X cc nL rt own d G Q (pc + 1) lv st (u2 μ k z v)) : mW X cc nL rt own d G Q pc lv (.long v :: .int (iV z) :: .ref k :: st) μ := by
  obtain ⟨p, e, R, s, m, args, below, meth, c⟩ := X
  intro hC H locs ls hP hS hl
  have hE := hC.2.2.2.2.2.2.2.2
  have hk72 := mCls_lt hk (by omega)
  have hle := mLen_le k
  have he : (mWs G μ)[k]? = some (G.1 k, .inl (G.2.2.1 1, mLen k, .inr (.inl (fun j => μ.2 k (j : Int))))) := by rw [mWs_get G μ hk72, mE_lng hk]
  refine va_last hC.1 hC.2.1 hE.1 hP (mD μ hE.2.1) hS k 1 he rfl (iV_in (by omega) (by omega)) hd (fun H1 locs1 h1 _ h3 => kk hC H1 locs1 ls ?_ h3 hl)
  rw [mWs_set (μ' := u2 μ k z v) hk72 _ (fun j hj => mE_2o hj)] at h1
  · exact h1
  · rw [mE_lng hk]
    congr 5
    funext j
    rw [iV_clamp (by omega)]
    by_cases hj : j = z.toNat
    · subst hj
      rw [show ((z.toNat : Nat) : Int) = z by omega, u2_s]
      simp [vp_updL]
    · rw [u2_o (by omega)]
      simp [vp_updL, hj]
theorem mw_alen {k : Nat} (n : Nat) (hd : decode cc pc = .ok (.arraylength, 1)) (hk : 8 ≤ mCls k ∧ mCls k ≤ 12) (hn : mLen k = n) (kk : mW X cc nL rt own d G Q (pc + 1) lv (.int (iV (n : Int)) :: st) μ) : mW X cc nL rt own d G Q pc lv (.ref k :: st) μ := by
  obtain ⟨p, e, R, s, m, args, below, meth, c⟩ := X
  intro hC H locs ls hP hS hl
  have hE := hC.2.2.2.2.2.2.2.2
  have hk72 := mCls_lt (k := k) rfl (by omega)
  have hv : Int32.ofNat (mLen k) = iV (n : Int) := by rw [iV_nat, hn]; rfl
  have h5 : mCls k = 8 ∨ mCls k = 9 ∨ mCls k = 10 ∨ mCls k = 11 ∨ mCls k = 12 := by omega
  rcases h5 with h | h | h | h | h
  · exact va_alen hC.1 hC.2.1 hE.1 hP k 0 (by rw [mWs_get G μ hk72, mE_int h]) rfl hv hd (kk hC H locs ls hP hS hl)
  · exact va_alen hC.1 hC.2.1 hE.1 hP k 1 (by rw [mWs_get G μ hk72, mE_lng h]) rfl hv hd (kk hC H locs ls hP hS hl)
  · exact va_alen hC.1 hC.2.1 hE.1 hP k 2 (by rw [mWs_get G μ hk72, mE_ref h (by omega)]) rfl hv hd (kk hC H locs ls hP hS hl)
  · exact va_alen hC.1 hC.2.1 hE.1 hP k 3 (by rw [mWs_get G μ hk72, mE_ref h (by omega)]) rfl hv hd (kk hC H locs ls hP hS hl)
  · exact va_alen hC.1 hC.2.1 hE.1 hP k 4 (by rw [mWs_get G μ hk72, mE_ref h (by omega)]) rfl hv hd (kk hC H locs ls hP hS hl)
/-- behind a call -/
theorem mw_back {p : Program} {e : Env} {R : Room} {s : State} {m : MethodId} {args : Array Value} {below : List Frame} {meth : Method} {c : Code} {H : Heap} {locs : List Loc} {ls : Array Slot} {st0 rest : List Value} {a : Array Value} {Q' : Option Value → mMem → Prop}
    (hr : va_Run p G.2.2.2.2 e R s m args below meth c H locs 0 0 0 0 (F0 m pc ls st0) (rest.map (cv G)) (mQ G Q' a) (mA G)) (hS : va_S (mA G) s.heap H locs)
    (kk : ∀ (r : Option Value) (μ' : mMem) (H1 : Heap) (locs1 : List Loc), Q' r μ' → mH G μ' H1 → va_S (mA G) s.heap H1 locs1 → W p G.2.2.2.2 e R s m args below meth c H1 locs1 0 0 (MQ below (mQ G Q) args s 0 0 (mA G)) (F0 m (pc + 3) ls ((r.toList ++ rest).map (cv G)))) :
    W p G.2.2.2.2 e R s m args below meth c H locs 0 0 (MQ below (mQ G Q) args s 0 0 (mA G)) (F0 m pc ls st0) := by
  intro T hT X
  obtain ⟨v, st₀, t, T', L, h0, X', hL, e1, e2, ⟨⟨r, μ', hv, hq, hH⟩, hz, hk⟩, stp⟩ := hr T hT X
  cases hv
  rw [h0] at hz hk
  obtain ⟨t2, a1, b1⟩ := kk r μ' T'.heap (locs ++ L) hq (by rw [e1]; exact hH)
    ⟨Nat.le_trans hS.1 (by rw [e1]; exact hz), fun q h1 h2 => by rw [e1, hk q (Nat.lt_of_lt_of_le h1 hS.1) h2]; exact hS.2.1 q h1 h2, fun q hq => by
      rcases List.mem_append.mp hq with h | h
      · exact hS.2.2 q h
      · exact hL q h⟩ T' rfl X'
  refine ⟨t2, stp t2 ?_, b1⟩
  have e3 : (r.toList ++ rest).map (cv G) = (r.map (cv G)).toList ++ rest.map (cv G) := by cases r <;> rfl
  rw [e3] at a1
  exact a1
theorem mw_cat (G : mG) (st : List Value) : (List.map (cv G) st).map (fun v => v.category) = st.map (fun v => v.category) := by
  rw [List.map_map]
  apply List.map_congr_left
  intro v _
  exact cv_cat G v
theorem mw_callV {idx : Nat} {y : MethodName} {cc' : ByteArray} {nL' : Nat} {rt' : Option FieldType} {d' n : Nat} {k : Nat} {as rest : List Value} {Q' : Option Value → mMem → Prop} (hd : decode cc pc = .ok (.invokevirtual idx, 3)) (hw : Cond.methodLink own idx y ∈ mTb) (hs : sMv y cc' nL' rt' n) (hD : d' + 1 ≤ d ∧ 8 + (nL' + 11) + 37 * d' ≤ 37 * d) (hM : mM G y cc' nL' rt' d' (.ref k :: as) μ Q') {ci : Nat} {T : u_T} {N : Nat} (hk : mCls k = ci) (hci : ci < 8) (hc : vwCl[ci]? = some (y.cls, T, N)) (hn : as.length = n) (hst : as.reverse ++ .ref k :: rest = st) (hr : (rest.map fun v => v.category).sum ≤ 8)
    (kk : ∀ (r : Option Value) (μ' : mMem), Q' r μ' → mW X cc nL rt own d G Q (pc + 3) lv (r.toList ++ rest) μ') : mW X cc nL rt own d G Q pc lv st μ := by
  obtain ⟨p, e, R, s, m, args, below, meth, c⟩ := X
  intro hC H locs ls hP hS hl
  obtain ⟨hx, hb, hml, hrt, hown, hlocks, rfl, hts, hE⟩ := id hC
  subst hst
  obtain ⟨g1, g2, g3, g4, g5, g6, g7⟩ := hs
  have hk72 := mCls_lt hk (by omega)
  have he : (mWs G μ)[k]? = some (G.1 k, .inr (ci, mFs G μ k ci)) := by rw [mWs_get G μ hk72, mE_obj hk hci]
  have hcb : CallB (mRm d) s args own idx y cc' nL' rt' (Cond.code y cc' nL' rt' :: mTb) (mRm d') 0 0 n := callB_of n hts (goodIn_cons g4) rfl rfl rfl (hts _ g3) (hts _ hw) ⟨g5, g6, g7⟩ hD
  refine mw_back (rest := rest) (va_runV (As := as.map (cv G)) (rest := rest.map (cv G)) (b := G.1 k) (C := y.cls) ⟨hx, hb, hml, hown, hts⟩ hM ⟨hcb, hts _ g1, hts _ g2⟩ ⟨mBlind, va_recv hE.1 hP hc he, fun U hU hW => ⟨rfl, hE.moved hW (fun a h1 h2 => by rw [hU]; exact hS.2.1 a h1 h2), by rw [hU]; exact hP⟩⟩ rfl (by rw [List.length_map]; exact hn) hl.1 ?_ ?_ hd ⟨Nat.le_refl 0, Nat.le_refl 0⟩) hS (fun r μ' H1 locs1 hq hH hS1 => kk r μ' hq hC H1 locs1 ls hH hS1 hl)
  · show List.map (cv G) (as.reverse ++ .ref k :: rest) = _
    rw [List.map_append, List.map_reverse]
    rfl
  · exact lv_room (by rw [mw_cat]; exact hr)
theorem mw_callS {idx : Nat} {y : MethodName} {cc' : ByteArray} {nL' : Nat} {rt' : Option FieldType} {d' n : Nat} {as rest : List Value} {Q' : Option Value → mMem → Prop} (hd : decode cc pc = .ok (.invokestatic idx, 3)) (hw : Cond.methodLink own idx y ∈ mTb) (hs : sMs y cc' nL' rt' n) (hD : d' + 1 ≤ d ∧ 8 + (nL' + 11) + 37 * d' ≤ 37 * d) (hM : mM G y cc' nL' rt' d' as μ Q') (hn : as.length = n) (hst : as.reverse ++ rest = st) (hr : (rest.map fun v => v.category).sum ≤ 8)
    (kk : ∀ (r : Option Value) (μ' : mMem), Q' r μ' → mW X cc nL rt own d G Q (pc + 3) lv (r.toList ++ rest) μ') : mW X cc nL rt own d G Q pc lv st μ := by
  obtain ⟨p, e, R, s, m, args, below, meth, c⟩ := X
  intro hC H locs ls hP hS hl
  obtain ⟨hx, hb, hml, hrt, hown, hlocks, rfl, hts, hE⟩ := id hC
  subst hst
  obtain ⟨g1, g3, g4, g5, g6, g7⟩ := hs
  have hcb : CallB (mRm d) s args own idx y cc' nL' rt' (Cond.code y cc' nL' rt' :: mTb) (mRm d') 0 0 n := callB_of n hts (goodIn_cons g4) rfl rfl rfl (hts _ g3) (hts _ hw) ⟨g5, g6, g7⟩ hD
  refine mw_back (rest := rest) (va_runS (As := as.map (cv G)) (rest := rest.map (cv G)) ⟨hx, hb, hml, hown, hts⟩ hM ⟨hcb, hts _ g1⟩ ⟨mBlind, fun U hU hW => ⟨rfl, hE.moved hW (fun a h1 h2 => by rw [hU]; exact hS.2.1 a h1 h2), by rw [hU]; exact hP⟩⟩ rfl (by rw [List.length_map]; exact hn) hl.1 ?_ ?_ hd ⟨Nat.le_refl 0, Nat.le_refl 0⟩) hS (fun r μ' H1 locs1 hq hH hS1 => kk r μ' hq hC H1 locs1 ls hH hS1 hl)
  · show List.map (cv G) (as.reverse ++ rest) = _
    rw [List.map_append, List.map_reverse]
  · exact lv_room (by rw [mw_cat]; exact hr)
end MINIH
end
section
theorem ct_J6_265 : Cond.constant RJ6 265 (iV (1431655765)) ∈ mTb := mTb_in (List.mem_of_getElem? (i := 767) (by decide +kernel)) rfl
theorem ct_J6_266 : Cond.constant RJ6 266 (iV (858993459)) ∈ mTb := mTb_in (List.mem_of_getElem? (i := 768) (by decide +kernel)) rfl
theorem ct_J6_267 : Cond.constant RJ6 267 (iV (252645135)) ∈ mTb := mTb_in (List.mem_of_getElem? (i := 769) (by decide +kernel)) rfl
theorem ml_J0_335 : Cond.methodLink RJ0 335 yJ0_coder_7d493 ∈ mTb := mTb_in (List.mem_of_getElem? (i := 596) (by decide +kernel)) rfl
theorem ml_J0_492 : Cond.methodLink RJ0 492 yJ0_isLatin1_aae02 ∈ mTb := mTb_in (List.mem_of_getElem? (i := 606) (by decide +kernel)) rfl
theorem ml_J0_495 : Cond.methodLink RJ0 495 yJ1_charAt_3b067 ∈ mTb := mTb_in (List.mem_of_getElem? (i := 610) (by decide +kernel)) rfl
theorem ml_J0_498 : Cond.methodLink RJ0 498 yJ2_charAt_3b067 ∈ mTb := mTb_in (List.mem_of_getElem? (i := 621) (by decide +kernel)) rfl
theorem ml_J0_1059 : Cond.methodLink RJ0 1059 yJ3_checkIndex_8e157 ∈ mTb := mTb_in (List.mem_of_getElem? (i := 618) (by decide +kernel)) rfl
theorem ml_J1_9 : Cond.methodLink RJ1 9 yJ0_checkIndex_df160 ∈ mTb := mTb_in (List.mem_of_getElem? (i := 613) (by decide +kernel)) rfl
theorem ml_J2_48 : Cond.methodLink RJ2 48 yJ2_length_9d52b ∈ mTb := mTb_in (List.mem_of_getElem? (i := 627) (by decide +kernel)) rfl
theorem ml_J2_67 : Cond.methodLink RJ2 67 yJ2_checkIndex_2214a ∈ mTb := mTb_in (List.mem_of_getElem? (i := 624) (by decide +kernel)) rfl
theorem ml_J2_71 : Cond.methodLink RJ2 71 yJ2_getChar_3b067 ∈ mTb := mTb_in (List.mem_of_getElem? (i := 631) (by decide +kernel)) rfl
theorem ml_J2_414 : Cond.methodLink RJ2 414 yJ0_checkIndex_df160 ∈ mTb := mTb_in (List.mem_of_getElem? (i := 630) (by decide +kernel)) rfl
theorem gs_X0_9 : sG RX0 9 0 0 := ⟨RX0, TX0, 5, kcX0, by decide, Or.inl (mTb_in (List.mem_of_getElem? (i := 118) (by decide +kernel)) rfl)⟩
theorem ps_X0_9 : sP RX0 9 0 0 .int := ⟨RX0, TX0, 5, kcX0, by decide, Or.inl (mTb_in (List.mem_of_getElem? (i := 118) (by decide +kernel)) rfl), rfl, by decide +kernel⟩
theorem gs_X0_15 : sG RX0 15 0 1 := ⟨RX0, TX0, 5, kcX0, by decide, Or.inl (mTb_in (List.mem_of_getElem? (i := 121) (by decide +kernel)) rfl)⟩
theorem ps_X0_15 : sP RX0 15 0 1 .int := ⟨RX0, TX0, 5, kcX0, by decide, Or.inl (mTb_in (List.mem_of_getElem? (i := 121) (by decide +kernel)) rfl), rfl, by decide +kernel⟩
theorem gs_X0_18 : sG RX0 18 0 2 := ⟨RX0, TX0, 5, kcX0, by decide, Or.inl (mTb_in (List.mem_of_getElem? (i := 124) (by decide +kernel)) rfl)⟩
theorem ps_X0_18 : sP RX0 18 0 2 .int := ⟨RX0, TX0, 5, kcX0, by decide, Or.inl (mTb_in (List.mem_of_getElem? (i := 124) (by decide +kernel)) rfl), rfl, by decide +kernel⟩
theorem gs_X0_21 : sG RX0 21 0 3 := ⟨RX0, TX0, 5, kcX0, by decide, Or.inl (mTb_in (List.mem_of_getElem? (i := 127) (by decide +kernel)) rfl)⟩
theorem ps_X0_21 : sP RX0 21 0 3 .int := ⟨RX0, TX0, 5, kcX0, by decide, Or.inl (mTb_in (List.mem_of_getElem? (i := 127) (by decide +kernel)) rfl), rfl, by decide +kernel⟩
theorem gs_X0_24 : sG RX0 24 0 4 := ⟨RX0, TX0, 5, kcX0, by decide, Or.inl (mTb_in (List.mem_of_getElem? (i := 130) (by decide +kernel)) rfl)⟩
theorem ps_X0_24 : sP RX0 24 0 4 .int := ⟨RX0, TX0, 5, kcX0, by decide, Or.inl (mTb_in (List.mem_of_getElem? (i := 130) (by decide +kernel)) rfl), rfl, by decide +kernel⟩
theorem gs_X0_27 : sG RX0 27 5 1 := ⟨RX5, TX5, 2, kcX5, by decide, Or.inr ⟨"FugueNotes", List.mem_filter.mpr ⟨List.mem_of_getElem? (i := 102) (by decide +kernel), rfl⟩⟩⟩
theorem ml_X0_32 : Cond.methodLink RX0 32 yX0_turnedAbout ∈ mTb := mTb_in (List.mem_of_getElem? (i := 358) (by decide +kernel)) rfl
theorem ml_X0_36 : Cond.methodLink RX0 36 yX0_isBlotted ∈ mTb := mTb_in (List.mem_of_getElem? (i := 362) (by decide +kernel)) rfl
theorem ml_X0_40 : Cond.methodLink RX0 40 yJ9_floorMod_7cf53 ∈ mTb := mTb_in (List.mem_of_getElem? (i := 366) (by decide +kernel)) rfl
theorem ml_X0_46 : Cond.methodLink RX0 46 yX0_lengthTo ∈ mTb := mTb_in (List.mem_of_getElem? (i := 418) (by decide +kernel)) rfl
theorem ml_X0_50 : Cond.methodLink RX0 50 yX5_clear ∈ mTb := mTb_in (List.mem_of_getElem? (i := 419) (by decide +kernel)) rfl
theorem ml_X0_53 : Cond.methodLink RX0 53 yX0_toneTo ∈ mTb := mTb_in (List.mem_of_getElem? (i := 420) (by decide +kernel)) rfl
theorem ml_X0_56 : Cond.methodLink RX0 56 yX5_append ∈ mTb := mTb_in (List.mem_of_getElem? (i := 421) (by decide +kernel)) rfl
theorem ml_X0_60 : Cond.methodLink RX0 60 yJ9_min_7cf53 ∈ mTb := mTb_in (List.mem_of_getElem? (i := 422) (by decide +kernel)) rfl
theorem gs_X0_63 : sG RX0 63 5 0 := ⟨RX5, TX5, 2, kcX5, by decide, Or.inr ⟨"FugueNotes", List.mem_filter.mpr ⟨List.mem_of_getElem? (i := 99) (by decide +kernel), rfl⟩⟩⟩
theorem ml_X1_11 : Cond.methodLink RX1 11 yX5_init ∈ mTb := mTb_in (List.mem_of_getElem? (i := 94) (by decide +kernel)) rfl
theorem gs_X1_23 : sG RX1 23 1 2 := ⟨RX1, TX1, 5, kcX1, by decide, Or.inl (mTb_in (List.mem_of_getElem? (i := 146) (by decide +kernel)) rfl)⟩
theorem ps_X1_28 : sP RX1 28 1 3 .int := ⟨RX1, TX1, 5, kcX1, by decide, Or.inl (mTb_in (List.mem_of_getElem? (i := 148) (by decide +kernel)) rfl), rfl, by decide +kernel⟩
theorem ps_X1_32 : sP RX1 32 1 4 .int := ⟨RX1, TX1, 5, kcX1, by decide, Or.inl (mTb_in (List.mem_of_getElem? (i := 150) (by decide +kernel)) rfl), rfl, by decide +kernel⟩
theorem gs_X1_12 : sG RX1 12 1 0 := ⟨RX1, TX1, 5, kcX1, by decide, Or.inl (mTb_in (List.mem_of_getElem? (i := 144) (by decide +kernel)) rfl)⟩
theorem ml_X1_35 : Cond.methodLink RX1 35 yX5_become ∈ mTb := mTb_in (List.mem_of_getElem? (i := 462) (by decide +kernel)) rfl
theorem gs_X1_18 : sG RX1 18 1 1 := ⟨RX1, TX1, 5, kcX1, by decide, Or.inl (mTb_in (List.mem_of_getElem? (i := 145) (by decide +kernel)) rfl)⟩
theorem gs_X1_28 : sG RX1 28 1 3 := ⟨RX1, TX1, 5, kcX1, by decide, Or.inl (mTb_in (List.mem_of_getElem? (i := 148) (by decide +kernel)) rfl)⟩
theorem ml_X1_39 : Cond.methodLink RX1 39 yX0_become ∈ mTb := mTb_in (List.mem_of_getElem? (i := 469) (by decide +kernel)) rfl
theorem gs_X1_32 : sG RX1 32 1 4 := ⟨RX1, TX1, 5, kcX1, by decide, Or.inl (mTb_in (List.mem_of_getElem? (i := 150) (by decide +kernel)) rfl)⟩
theorem gs_X1_42 : sG RX1 42 0 1 := ⟨RX0, TX0, 5, kcX0, by decide, Or.inr ⟨"FugueNotes", List.mem_filter.mpr ⟨List.mem_of_getElem? (i := 122) (by decide +kernel), rfl⟩⟩⟩
theorem ml_X1_45 : Cond.methodLink RX1 45 yX1_tuneOf ∈ mTb := mTb_in (List.mem_of_getElem? (i := 345) (by decide +kernel)) rfl
theorem ml_X1_49 : Cond.methodLink RX1 49 yX1_isFull ∈ mTb := mTb_in (List.mem_of_getElem? (i := 332) (by decide +kernel)) rfl
theorem ps_X1_53 : sP RX1 53 0 0 .int := ⟨RX0, TX0, 5, kcX0, by decide, Or.inr ⟨"FugueNotes", List.mem_filter.mpr ⟨List.mem_of_getElem? (i := 120) (by decide +kernel), rfl⟩⟩, rfl, by decide +kernel⟩
theorem ps_X1_42 : sP RX1 42 0 1 .int := ⟨RX0, TX0, 5, kcX0, by decide, Or.inr ⟨"FugueNotes", List.mem_filter.mpr ⟨List.mem_of_getElem? (i := 122) (by decide +kernel), rfl⟩⟩, rfl, by decide +kernel⟩
theorem ps_X1_56 : sP RX1 56 0 2 .int := ⟨RX0, TX0, 5, kcX0, by decide, Or.inr ⟨"FugueNotes", List.mem_filter.mpr ⟨List.mem_of_getElem? (i := 126) (by decide +kernel), rfl⟩⟩, rfl, by decide +kernel⟩
theorem ps_X1_59 : sP RX1 59 0 3 .int := ⟨RX0, TX0, 5, kcX0, by decide, Or.inr ⟨"FugueNotes", List.mem_filter.mpr ⟨List.mem_of_getElem? (i := 129) (by decide +kernel), rfl⟩⟩, rfl, by decide +kernel⟩
theorem ps_X1_62 : sP RX1 62 0 4 .int := ⟨RX0, TX0, 5, kcX0, by decide, Or.inr ⟨"FugueNotes", List.mem_filter.mpr ⟨List.mem_of_getElem? (i := 132) (by decide +kernel), rfl⟩⟩, rfl, by decide +kernel⟩
theorem ml_X1_65 : Cond.methodLink RX1 65 yX1_writingSide ∈ mTb := mTb_in (List.mem_of_getElem? (i := 407) (by decide +kernel)) rfl
theorem ml_X1_69 : Cond.methodLink RX1 69 yX1_attachesOf ∈ mTb := mTb_in (List.mem_of_getElem? (i := 411) (by decide +kernel)) rfl
theorem ml_X1_73 : Cond.methodLink RX1 73 yX1_writer ∈ mTb := mTb_in (List.mem_of_getElem? (i := 403) (by decide +kernel)) rfl
theorem ml_X1_76 : Cond.methodLink RX1 76 yX1_has ∈ mTb := mTb_in (List.mem_of_getElem? (i := 412) (by decide +kernel)) rfl
theorem ml_X1_80 : Cond.methodLink RX1 80 yX1_heardBy ∈ mTb := mTb_in (List.mem_of_getElem? (i := 413) (by decide +kernel)) rfl
theorem gs_X1_84 : sG RX1 84 5 1 := ⟨RX5, TX5, 2, kcX5, by decide, Or.inr ⟨"FugueNotes", List.mem_filter.mpr ⟨List.mem_of_getElem? (i := 104) (by decide +kernel), rfl⟩⟩⟩
theorem ml_X1_87 : Cond.methodLink RX1 87 yX0_writeTo ∈ mTb := mTb_in (List.mem_of_getElem? (i := 414) (by decide +kernel)) rfl
theorem ml_X1_91 : Cond.methodLink RX1 91 yX1_passDay ∈ mTb := mTb_in (List.mem_of_getElem? (i := 399) (by decide +kernel)) rfl
theorem ml_X1_94 : Cond.methodLink RX1 94 yX5_isHome ∈ mTb := mTb_in (List.mem_of_getElem? (i := 433) (by decide +kernel)) rfl
theorem ml_X1_97 : Cond.methodLink RX1 97 yX1_isAlike ∈ mTb := mTb_in (List.mem_of_getElem? (i := 493) (by decide +kernel)) rfl
theorem ml_X1_100 : Cond.methodLink RX1 100 yX5_isSameAs ∈ mTb := mTb_in (List.mem_of_getElem? (i := 438) (by decide +kernel)) rfl
theorem gs_X1_62 : sG RX1 62 0 4 := ⟨RX0, TX0, 5, kcX0, by decide, Or.inr ⟨"FugueNotes", List.mem_filter.mpr ⟨List.mem_of_getElem? (i := 132) (by decide +kernel), rfl⟩⟩⟩
theorem gs_X1_59 : sG RX1 59 0 3 := ⟨RX0, TX0, 5, kcX0, by decide, Or.inr ⟨"FugueNotes", List.mem_filter.mpr ⟨List.mem_of_getElem? (i := 129) (by decide +kernel), rfl⟩⟩⟩
theorem ml_X1_104 : Cond.methodLink RX1 104 yJ6_bitCount_0f7a4 ∈ mTb := mTb_in (List.mem_of_getElem? (i := 764) (by decide +kernel)) rfl
theorem ps_X2_15 : sP RX2 15 2 1 .int := ⟨RX2, TX2, 5, kcX2, by decide, Or.inl (mTb_in (List.mem_of_getElem? (i := 185) (by decide +kernel)) rfl), rfl, by decide +kernel⟩
theorem ps_X2_19 : sP RX2 19 2 2 .int := ⟨RX2, TX2, 5, kcX2, by decide, Or.inl (mTb_in (List.mem_of_getElem? (i := 186) (by decide +kernel)) rfl), rfl, by decide +kernel⟩
theorem ps_X2_22 : sP RX2 22 2 3 .int := ⟨RX2, TX2, 5, kcX2, by decide, Or.inl (mTb_in (List.mem_of_getElem? (i := 187) (by decide +kernel)) rfl), rfl, by decide +kernel⟩
theorem ps_X2_25 : sP RX2 25 2 4 .int := ⟨RX2, TX2, 5, kcX2, by decide, Or.inl (mTb_in (List.mem_of_getElem? (i := 188) (by decide +kernel)) rfl), rfl, by decide +kernel⟩
theorem ml_X2_28 : Cond.methodLink RX2 28 yX2_advance ∈ mTb := mTb_in (List.mem_of_getElem? (i := 560) (by decide +kernel)) rfl
theorem ml_X2_31 : Cond.methodLink RX2 31 yX2_tellItem ∈ mTb := mTb_in (List.mem_of_getElem? (i := 583) (by decide +kernel)) rfl
theorem gs_X2_15 : sG RX2 15 2 1 := ⟨RX2, TX2, 5, kcX2, by decide, Or.inl (mTb_in (List.mem_of_getElem? (i := 185) (by decide +kernel)) rfl)⟩
theorem gs_X2_19 : sG RX2 19 2 2 := ⟨RX2, TX2, 5, kcX2, by decide, Or.inl (mTb_in (List.mem_of_getElem? (i := 186) (by decide +kernel)) rfl)⟩
theorem ml_X2_37 : Cond.methodLink RX2 37 yX2_isWord ∈ mTb := mTb_in (List.mem_of_getElem? (i := 588) (by decide +kernel)) rfl
theorem ml_X2_41 : Cond.methodLink RX2 41 yX2_tellTune ∈ mTb := mTb_in (List.mem_of_getElem? (i := 640) (by decide +kernel)) rfl
theorem ml_X2_44 : Cond.methodLink RX2 44 yX2_kindNamed ∈ mTb := mTb_in (List.mem_of_getElem? (i := 651) (by decide +kernel)) rfl
theorem ml_X2_48 : Cond.methodLink RX2 48 yX1_isFull ∈ mTb := mTb_in (List.mem_of_getElem? (i := 664) (by decide +kernel)) rfl
theorem ml_X2_54 : Cond.methodLink RX2 54 yX2_tellAttache ∈ mTb := mTb_in (List.mem_of_getElem? (i := 665) (by decide +kernel)) rfl
theorem ml_X2_58 : Cond.methodLink RX2 58 yX2_isNumberTo ∈ mTb := mTb_in (List.mem_of_getElem? (i := 644) (by decide +kernel)) rfl
theorem gs_X2_25 : sG RX2 25 2 4 := ⟨RX2, TX2, 5, kcX2, by decide, Or.inl (mTb_in (List.mem_of_getElem? (i := 188) (by decide +kernel)) rfl)⟩
theorem ml_X2_62 : Cond.methodLink RX2 62 yX1_tuneOf ∈ mTb := mTb_in (List.mem_of_getElem? (i := 648) (by decide +kernel)) rfl
theorem ml_X2_66 : Cond.methodLink RX2 66 yX5_clear ∈ mTb := mTb_in (List.mem_of_getElem? (i := 649) (by decide +kernel)) rfl
theorem ml_X2_71 : Cond.methodLink RX2 71 yX5_append ∈ mTb := mTb_in (List.mem_of_getElem? (i := 650) (by decide +kernel)) rfl
theorem gs_X2_75 : sG RX2 75 5 1 := ⟨RX5, TX5, 2, kcX5, by decide, Or.inr ⟨"FugueNotes", List.mem_filter.mpr ⟨List.mem_of_getElem? (i := 103) (by decide +kernel), rfl⟩⟩⟩
theorem ml_X2_84 : Cond.methodLink RX2 84 yX1_engage ∈ mTb := mTb_in (List.mem_of_getElem? (i := 672) (by decide +kernel)) rfl
theorem ml_X2_88 : Cond.methodLink RX2 88 yX2_nameOf ∈ mTb := mTb_in (List.mem_of_getElem? (i := 655) (by decide +kernel)) rfl
theorem gs_X2_22 : sG RX2 22 2 3 := ⟨RX2, TX2, 5, kcX2, by decide, Or.inl (mTb_in (List.mem_of_getElem? (i := 187) (by decide +kernel)) rfl)⟩
theorem ml_X2_104 : Cond.methodLink RX2 104 yJ0_length_8abf5 ∈ mTb := mTb_in (List.mem_of_getElem? (i := 592) (by decide +kernel)) rfl
theorem gs_X2_9 : sG RX2 9 2 0 := ⟨RX2, TX2, 5, kcX2, by decide, Or.inl (mTb_in (List.mem_of_getElem? (i := 184) (by decide +kernel)) rfl)⟩
theorem ml_X2_108 : Cond.methodLink RX2 108 yX4_byteAt ∈ mTb := mTb_in (List.mem_of_getElem? (i := 564) (by decide +kernel)) rfl
theorem ml_X2_114 : Cond.methodLink RX2 114 yJ0_charAt_5068e ∈ mTb := mTb_in (List.mem_of_getElem? (i := 602) (by decide +kernel)) rfl
theorem gs_X2_118 : sG RX2 118 4 1 := ⟨RX4, TX4, 2, kcX4, by decide, Or.inr ⟨"FugueNotes", List.mem_filter.mpr ⟨List.mem_of_getElem? (i := 171) (by decide +kernel), rfl⟩⟩⟩
theorem ml_X2_119 : Cond.methodLink RX2 119 yX2_isLetter ∈ mTb := mTb_in (List.mem_of_getElem? (i := 568) (by decide +kernel)) rfl
theorem ml_X2_122 : Cond.methodLink RX2 122 yX2_takeWord ∈ mTb := mTb_in (List.mem_of_getElem? (i := 571) (by decide +kernel)) rfl
theorem ml_X2_125 : Cond.methodLink RX2 125 yX2_isDigit ∈ mTb := mTb_in (List.mem_of_getElem? (i := 575) (by decide +kernel)) rfl
theorem ml_X2_128 : Cond.methodLink RX2 128 yX2_takeNumber ∈ mTb := mTb_in (List.mem_of_getElem? (i := 578) (by decide +kernel)) rfl
theorem ml_X2_131 : Cond.methodLink RX2 131 yJ9_min_7cf53 ∈ mTb := mTb_in (List.mem_of_getElem? (i := 582) (by decide +kernel)) rfl
theorem ps_X3_15 : sP RX3 15 3 1 .int := ⟨RX3, TX3, 3, kcX3, by decide, Or.inl (mTb_in (List.mem_of_getElem? (i := 209) (by decide +kernel)) rfl), rfl, by decide +kernel⟩
theorem ps_X3_19 : sP RX3 19 3 2 .int := ⟨RX3, TX3, 3, kcX3, by decide, Or.inl (mTb_in (List.mem_of_getElem? (i := 211) (by decide +kernel)) rfl), rfl, by decide +kernel⟩
theorem gs_X3_9 : sG RX3 9 3 0 := ⟨RX3, TX3, 3, kcX3, by decide, Or.inl (mTb_in (List.mem_of_getElem? (i := 207) (by decide +kernel)) rfl)⟩
theorem gs_X3_15 : sG RX3 15 3 1 := ⟨RX3, TX3, 3, kcX3, by decide, Or.inl (mTb_in (List.mem_of_getElem? (i := 209) (by decide +kernel)) rfl)⟩
theorem gs_X3_19 : sG RX3 19 3 2 := ⟨RX3, TX3, 3, kcX3, by decide, Or.inl (mTb_in (List.mem_of_getElem? (i := 211) (by decide +kernel)) rfl)⟩
theorem ml_X3_22 : Cond.methodLink RX3 22 yX3_lowestBits ∈ mTb := mTb_in (List.mem_of_getElem? (i := 706) (by decide +kernel)) rfl
theorem ps_X4_15 : sP RX4 15 4 1 .int := ⟨RX4, TX4, 2, kcX4, by decide, Or.inl (mTb_in (List.mem_of_getElem? (i := 170) (by decide +kernel)) rfl), rfl, by decide +kernel⟩
theorem gs_X4_15 : sG RX4 15 4 1 := ⟨RX4, TX4, 2, kcX4, by decide, Or.inl (mTb_in (List.mem_of_getElem? (i := 170) (by decide +kernel)) rfl)⟩
theorem gs_X4_9 : sG RX4 9 4 0 := ⟨RX4, TX4, 2, kcX4, by decide, Or.inl (mTb_in (List.mem_of_getElem? (i := 169) (by decide +kernel)) rfl)⟩
theorem ps_X5_15 : sP RX5 15 5 1 .int := ⟨RX5, TX5, 2, kcX5, by decide, Or.inl (mTb_in (List.mem_of_getElem? (i := 100) (by decide +kernel)) rfl), rfl, by decide +kernel⟩
theorem gs_X5_15 : sG RX5 15 5 1 := ⟨RX5, TX5, 2, kcX5, by decide, Or.inl (mTb_in (List.mem_of_getElem? (i := 100) (by decide +kernel)) rfl)⟩
theorem gs_X5_9 : sG RX5 9 5 0 := ⟨RX5, TX5, 2, kcX5, by decide, Or.inl (mTb_in (List.mem_of_getElem? (i := 98) (by decide +kernel)) rfl)⟩
theorem ml_X5_25 : Cond.methodLink RX5 25 yX5_placesUnlike ∈ mTb := mTb_in (List.mem_of_getElem? (i := 442) (by decide +kernel)) rfl
theorem ml_X5_29 : Cond.methodLink RX5 29 yJ9_min_7cf53 ∈ mTb := mTb_in (List.mem_of_getElem? (i := 301) (by decide +kernel)) rfl
theorem ml_X5_35 : Cond.methodLink RX5 35 yJ9_max_7cf53 ∈ mTb := mTb_in (List.mem_of_getElem? (i := 446) (by decide +kernel)) rfl
theorem ml_X5_38 : Cond.methodLink RX5 38 yX5_leapBetween ∈ mTb := mTb_in (List.mem_of_getElem? (i := 295) (by decide +kernel)) rfl
theorem ml_X5_41 : Cond.methodLink RX5 41 yJ9_abs_0f7a4 ∈ mTb := mTb_in (List.mem_of_getElem? (i := 298) (by decide +kernel)) rfl
theorem ml_X6_9 : Cond.methodLink RX6 9 yX1_init ∈ mTb := mTb_in (List.mem_of_getElem? (i := 88) (by decide +kernel)) rfl
theorem ps_X6_19 : sP RX6 19 6 2 .boolean := ⟨RX6, TX6, 8, kcX6, by decide, Or.inl (mTb_in (List.mem_of_getElem? (i := 223) (by decide +kernel)) rfl), rfl, by decide +kernel⟩
theorem ml_X6_28 : Cond.methodLink RX6 28 yX4_init ∈ mTb := mTb_in (List.mem_of_getElem? (i := 165) (by decide +kernel)) rfl
theorem gs_X6_29 : sG RX6 29 6 4 := ⟨RX6, TX6, 8, kcX6, by decide, Or.inl (mTb_in (List.mem_of_getElem? (i := 225) (by decide +kernel)) rfl)⟩
theorem ml_X6_35 : Cond.methodLink RX6 35 yX2_init ∈ mTb := mTb_in (List.mem_of_getElem? (i := 180) (by decide +kernel)) rfl
theorem gs_X6_44 : sG RX6 44 6 6 := ⟨RX6, TX6, 8, kcX6, by decide, Or.inl (mTb_in (List.mem_of_getElem? (i := 227) (by decide +kernel)) rfl)⟩
theorem ml_X6_48 : Cond.methodLink RX6 48 yX3_init ∈ mTb := mTb_in (List.mem_of_getElem? (i := 203) (by decide +kernel)) rfl
theorem ml_X6_53 : Cond.methodLink RX6 53 yX6_isSide ∈ mTb := mTb_in (List.mem_of_getElem? (i := 250) (by decide +kernel)) rfl
theorem ml_X6_57 : Cond.methodLink RX6 57 yX6_isWithin ∈ mTb := mTb_in (List.mem_of_getElem? (i := 253) (by decide +kernel)) rfl
theorem ct_X6_61 : Cond.constant RX6 61 (iV (-1000000001)) ∈ mTb := mTb_in (List.mem_of_getElem? (i := 256) (by decide +kernel)) rfl
theorem ml_X6_62 : Cond.methodLink RX6 62 yX6_found ∈ mTb := mTb_in (List.mem_of_getElem? (i := 257) (by decide +kernel)) rfl
theorem gs_X6_10 : sG RX6 10 6 0 := ⟨RX6, TX6, 8, kcX6, by decide, Or.inl (mTb_in (List.mem_of_getElem? (i := 221) (by decide +kernel)) rfl)⟩
theorem ml_X6_66 : Cond.methodLink RX6 66 yX1_tuneOf ∈ mTb := mTb_in (List.mem_of_getElem? (i := 261) (by decide +kernel)) rfl
theorem gs_X6_70 : sG RX6 70 5 1 := ⟨RX5, TX5, 2, kcX5, by decide, Or.inr ⟨"FugueNotes", List.mem_filter.mpr ⟨List.mem_of_getElem? (i := 101) (by decide +kernel), rfl⟩⟩⟩
theorem ml_X6_76 : Cond.methodLink RX6 76 yX5_clear ∈ mTb := mTb_in (List.mem_of_getElem? (i := 265) (by decide +kernel)) rfl
theorem cl_X6_79 : Cond.constantLong RX6 79 15 ∈ mTb := mTb_in (List.mem_of_getElem? (i := 269) (by decide +kernel)) rfl
theorem ml_X6_81 : Cond.methodLink RX6 81 yX5_append ∈ mTb := mTb_in (List.mem_of_getElem? (i := 270) (by decide +kernel)) rfl
theorem ml_X6_85 : Cond.methodLink RX6 85 yX6_toneOrNone ∈ mTb := mTb_in (List.mem_of_getElem? (i := 278) (by decide +kernel)) rfl
theorem ml_X6_89 : Cond.methodLink RX6 89 yX5_wideLeaps ∈ mTb := mTb_in (List.mem_of_getElem? (i := 291) (by decide +kernel)) rfl
theorem ml_X6_93 : Cond.methodLink RX6 93 yX5_isHome ∈ mTb := mTb_in (List.mem_of_getElem? (i := 304) (by decide +kernel)) rfl
theorem ml_X6_97 : Cond.methodLink RX6 97 yX5_toneSet ∈ mTb := mTb_in (List.mem_of_getElem? (i := 308) (by decide +kernel)) rfl
theorem ml_X6_100 : Cond.methodLink RX6 100 yX1_attachesOf ∈ mTb := mTb_in (List.mem_of_getElem? (i := 312) (by decide +kernel)) rfl
theorem ml_X6_103 : Cond.methodLink RX6 103 yX6_isKind ∈ mTb := mTb_in (List.mem_of_getElem? (i := 320) (by decide +kernel)) rfl
theorem ml_X6_106 : Cond.methodLink RX6 106 yX1_isFull ∈ mTb := mTb_in (List.mem_of_getElem? (i := 323) (by decide +kernel)) rfl
theorem ct_X6_109 : Cond.constant RX6 109 (iV (-1000000002)) ∈ mTb := mTb_in (List.mem_of_getElem? (i := 327) (by decide +kernel)) rfl
theorem gs_X6_110 : sG RX6 110 1 3 := ⟨RX1, TX1, 5, kcX1, by decide, Or.inr ⟨"FugueNotes", List.mem_filter.mpr ⟨List.mem_of_getElem? (i := 149) (by decide +kernel), rfl⟩⟩⟩
theorem ml_X6_113 : Cond.methodLink RX6 113 yX1_engage ∈ mTb := mTb_in (List.mem_of_getElem? (i := 328) (by decide +kernel)) rfl
theorem ml_X6_117 : Cond.methodLink RX6 117 yX1_has ∈ mTb := mTb_in (List.mem_of_getElem? (i := 337) (by decide +kernel)) rfl
theorem gs_X6_120 : sG RX6 120 1 2 := ⟨RX1, TX1, 5, kcX1, by decide, Or.inr ⟨"FugueNotes", List.mem_filter.mpr ⟨List.mem_of_getElem? (i := 147) (by decide +kernel), rfl⟩⟩⟩
theorem gs_X6_124 : sG RX6 124 0 0 := ⟨RX0, TX0, 5, kcX0, by decide, Or.inr ⟨"FugueNotes", List.mem_filter.mpr ⟨List.mem_of_getElem? (i := 119) (by decide +kernel), rfl⟩⟩⟩
theorem gs_X6_129 : sG RX6 129 0 1 := ⟨RX0, TX0, 5, kcX0, by decide, Or.inr ⟨"FugueNotes", List.mem_filter.mpr ⟨List.mem_of_getElem? (i := 123) (by decide +kernel), rfl⟩⟩⟩
theorem gs_X6_132 : sG RX6 132 0 2 := ⟨RX0, TX0, 5, kcX0, by decide, Or.inr ⟨"FugueNotes", List.mem_filter.mpr ⟨List.mem_of_getElem? (i := 125) (by decide +kernel), rfl⟩⟩⟩
theorem gs_X6_135 : sG RX6 135 0 3 := ⟨RX0, TX0, 5, kcX0, by decide, Or.inr ⟨"FugueNotes", List.mem_filter.mpr ⟨List.mem_of_getElem? (i := 128) (by decide +kernel), rfl⟩⟩⟩
theorem gs_X6_138 : sG RX6 138 0 4 := ⟨RX0, TX0, 5, kcX0, by decide, Or.inr ⟨"FugueNotes", List.mem_filter.mpr ⟨List.mem_of_getElem? (i := 131) (by decide +kernel), rfl⟩⟩⟩
theorem ml_X6_141 : Cond.methodLink RX6 141 yX1_heardBy ∈ mTb := mTb_in (List.mem_of_getElem? (i := 341) (by decide +kernel)) rfl
theorem ml_X6_145 : Cond.methodLink RX6 145 yX0_lengthTo ∈ mTb := mTb_in (List.mem_of_getElem? (i := 346) (by decide +kernel)) rfl
theorem ct_X6_149 : Cond.constant RX6 149 (iV (-1000000004)) ∈ mTb := mTb_in (List.mem_of_getElem? (i := 286) (by decide +kernel)) rfl
theorem ml_X6_150 : Cond.methodLink RX6 150 yX0_toneTo ∈ mTb := mTb_in (List.mem_of_getElem? (i := 354) (by decide +kernel)) rfl
theorem ml_X6_153 : Cond.methodLink RX6 153 yX6_mostToSet ∈ mTb := mTb_in (List.mem_of_getElem? (i := 373) (by decide +kernel)) rfl
theorem ps_X6_129 : sP RX6 129 0 1 .int := ⟨RX0, TX0, 5, kcX0, by decide, Or.inr ⟨"FugueNotes", List.mem_filter.mpr ⟨List.mem_of_getElem? (i := 123) (by decide +kernel), rfl⟩⟩, rfl, by decide +kernel⟩
theorem ps_X6_132 : sP RX6 132 0 2 .int := ⟨RX0, TX0, 5, kcX0, by decide, Or.inr ⟨"FugueNotes", List.mem_filter.mpr ⟨List.mem_of_getElem? (i := 125) (by decide +kernel), rfl⟩⟩, rfl, by decide +kernel⟩
theorem ps_X6_135 : sP RX6 135 0 3 .int := ⟨RX0, TX0, 5, kcX0, by decide, Or.inr ⟨"FugueNotes", List.mem_filter.mpr ⟨List.mem_of_getElem? (i := 128) (by decide +kernel), rfl⟩⟩, rfl, by decide +kernel⟩
theorem ps_X6_138 : sP RX6 138 0 4 .int := ⟨RX0, TX0, 5, kcX0, by decide, Or.inr ⟨"FugueNotes", List.mem_filter.mpr ⟨List.mem_of_getElem? (i := 131) (by decide +kernel), rfl⟩⟩, rfl, by decide +kernel⟩
theorem ps_X6_124 : sP RX6 124 0 0 .int := ⟨RX0, TX0, 5, kcX0, by decide, Or.inr ⟨"FugueNotes", List.mem_filter.mpr ⟨List.mem_of_getElem? (i := 119) (by decide +kernel), rfl⟩⟩, rfl, by decide +kernel⟩
theorem ml_X6_156 : Cond.methodLink RX6 156 yX6_isOfKind ∈ mTb := mTb_in (List.mem_of_getElem? (i := 384) (by decide +kernel)) rfl
theorem ct_X6_160 : Cond.constant RX6 160 (iV (-1000000003)) ∈ mTb := mTb_in (List.mem_of_getElem? (i := 389) (by decide +kernel)) rfl
theorem gs_X6_161 : sG RX6 161 1 4 := ⟨RX1, TX1, 5, kcX1, by decide, Or.inr ⟨"FugueNotes", List.mem_filter.mpr ⟨List.mem_of_getElem? (i := 151) (by decide +kernel), rfl⟩⟩⟩
theorem ct_X6_164 : Cond.constant RX6 164 (iV (-1000000005)) ∈ mTb := mTb_in (List.mem_of_getElem? (i := 394) (by decide +kernel)) rfl
theorem ml_X6_165 : Cond.methodLink RX6 165 yX1_passDays ∈ mTb := mTb_in (List.mem_of_getElem? (i := 395) (by decide +kernel)) rfl
theorem ml_X6_168 : Cond.methodLink RX6 168 yX1_writingSide ∈ mTb := mTb_in (List.mem_of_getElem? (i := 427) (by decide +kernel)) rfl
theorem ml_X6_171 : Cond.methodLink RX6 171 yX1_writer ∈ mTb := mTb_in (List.mem_of_getElem? (i := 428) (by decide +kernel)) rfl
theorem ml_X6_174 : Cond.methodLink RX6 174 yX1_homeSides ∈ mTb := mTb_in (List.mem_of_getElem? (i := 429) (by decide +kernel)) rfl
theorem ml_X6_177 : Cond.methodLink RX6 177 yX1_isAlike ∈ mTb := mTb_in (List.mem_of_getElem? (i := 434) (by decide +kernel)) rfl
theorem ml_X6_180 : Cond.methodLink RX6 180 yX5_placesUnlike ∈ mTb := mTb_in (List.mem_of_getElem? (i := 449) (by decide +kernel)) rfl
theorem ml_X6_183 : Cond.methodLink RX6 183 yX6_startTrial ∈ mTb := mTb_in (List.mem_of_getElem? (i := 454) (by decide +kernel)) rfl
theorem gs_X6_23 : sG RX6 23 6 3 := ⟨RX6, TX6, 8, kcX6, by decide, Or.inl (mTb_in (List.mem_of_getElem? (i := 224) (by decide +kernel)) rfl)⟩
theorem ml_X6_186 : Cond.methodLink RX6 186 yX1_passDaysUntilHome ∈ mTb := mTb_in (List.mem_of_getElem? (i := 481) (by decide +kernel)) rfl
theorem ml_X6_190 : Cond.methodLink RX6 190 yX1_passDaysUntilAlike ∈ mTb := mTb_in (List.mem_of_getElem? (i := 489) (by decide +kernel)) rfl
theorem ml_X6_193 : Cond.methodLink RX6 193 yX1_passDay ∈ mTb := mTb_in (List.mem_of_getElem? (i := 498) (by decide +kernel)) rfl
theorem ml_X6_196 : Cond.methodLink RX6 196 yX5_isSameAs ∈ mTb := mTb_in (List.mem_of_getElem? (i := 499) (by decide +kernel)) rfl
theorem ml_X6_200 : Cond.methodLink RX6 200 yX6_soonestHome ∈ mTb := mTb_in (List.mem_of_getElem? (i := 504) (by decide +kernel)) rfl
theorem ml_X6_204 : Cond.methodLink RX6 204 yX6_startTrialSwapped ∈ mTb := mTb_in (List.mem_of_getElem? (i := 528) (by decide +kernel)) rfl
theorem gs_X6_207 : sG RX6 207 4 1 := ⟨RX4, TX4, 2, kcX4, by decide, Or.inr ⟨"FugueNotes", List.mem_filter.mpr ⟨List.mem_of_getElem? (i := 172) (by decide +kernel), rfl⟩⟩⟩
theorem ml_X6_208 : Cond.methodLink RX6 208 yX4_append ∈ mTb := mTb_in (List.mem_of_getElem? (i := 540) (by decide +kernel)) rfl
theorem ml_X6_209 : Cond.methodLink RX6 209 yX4_clear ∈ mTb := mTb_in (List.mem_of_getElem? (i := 548) (by decide +kernel)) rfl
theorem gs_X6_38 : sG RX6 38 6 5 := ⟨RX6, TX6, 8, kcX6, by decide, Or.inl (mTb_in (List.mem_of_getElem? (i := 226) (by decide +kernel)) rfl)⟩
theorem ml_X6_210 : Cond.methodLink RX6 210 yX2_tellTo ∈ mTb := mTb_in (List.mem_of_getElem? (i := 556) (by decide +kernel)) rfl
theorem ml_X6_214 : Cond.methodLink RX6 214 yX1_become ∈ mTb := mTb_in (List.mem_of_getElem? (i := 458) (by decide +kernel)) rfl
theorem ml_X6_218 : Cond.methodLink RX6 218 yX6_isSheet ∈ mTb := mTb_in (List.mem_of_getElem? (i := 678) (by decide +kernel)) rfl
theorem ml_X6_221 : Cond.methodLink RX6 221 yX6_isBits ∈ mTb := mTb_in (List.mem_of_getElem? (i := 681) (by decide +kernel)) rfl
theorem ct_X6_224 : Cond.constant RX6 224 (iV (-1000000007)) ∈ mTb := mTb_in (List.mem_of_getElem? (i := 684) (by decide +kernel)) rfl
theorem ml_X6_225 : Cond.methodLink RX6 225 yX3_begin ∈ mTb := mTb_in (List.mem_of_getElem? (i := 685) (by decide +kernel)) rfl
theorem ml_X6_229 : Cond.methodLink RX6 229 yX6_faultOfSheet ∈ mTb := mTb_in (List.mem_of_getElem? (i := 693) (by decide +kernel)) rfl
theorem gs_X6_232 : sG RX6 232 3 2 := ⟨RX3, TX3, 3, kcX3, by decide, Or.inr ⟨"FugueNotes", List.mem_filter.mpr ⟨List.mem_of_getElem? (i := 212) (by decide +kernel), rfl⟩⟩⟩
theorem gs_X6_235 : sG RX6 235 3 0 := ⟨RX3, TX3, 3, kcX3, by decide, Or.inr ⟨"FugueNotes", List.mem_filter.mpr ⟨List.mem_of_getElem? (i := 208) (by decide +kernel), rfl⟩⟩⟩
theorem ml_X6_239 : Cond.methodLink RX6 239 yX3_put ∈ mTb := mTb_in (List.mem_of_getElem? (i := 702) (by decide +kernel)) rfl
theorem ml_X6_243 : Cond.methodLink RX6 243 yX3_isMissing ∈ mTb := mTb_in (List.mem_of_getElem? (i := 697) (by decide +kernel)) rfl
theorem ct_X6_246 : Cond.constant RX6 246 (iV (-1000000006)) ∈ mTb := mTb_in (List.mem_of_getElem? (i := 701) (by decide +kernel)) rfl
theorem gs_X6_247 : sG RX6 247 3 1 := ⟨RX3, TX3, 3, kcX3, by decide, Or.inr ⟨"FugueNotes", List.mem_filter.mpr ⟨List.mem_of_getElem? (i := 210) (by decide +kernel), rfl⟩⟩⟩
theorem ml_X6_250 : Cond.methodLink RX6 250 yX3_hasRow ∈ mTb := mTb_in (List.mem_of_getElem? (i := 714) (by decide +kernel)) rfl
theorem ml_X6_259 : Cond.methodLink RX6 259 yX6_faultOfSheetAndSide ∈ mTb := mTb_in (List.mem_of_getElem? (i := 723) (by decide +kernel)) rfl
theorem cl_X6_262 : Cond.constantLong RX6 262 12 ∈ mTb := mTb_in (List.mem_of_getElem? (i := 727) (by decide +kernel)) rfl
theorem ml_X6_264 : Cond.methodLink RX6 264 yX6_isJustWritten ∈ mTb := mTb_in (List.mem_of_getElem? (i := 736) (by decide +kernel)) rfl
theorem gs_X6_16 : sG RX6 16 6 1 := ⟨RX6, TX6, 8, kcX6, by decide, Or.inl (mTb_in (List.mem_of_getElem? (i := 222) (by decide +kernel)) rfl)⟩
theorem gs_X6_19 : sG RX6 19 6 2 := ⟨RX6, TX6, 8, kcX6, by decide, Or.inl (mTb_in (List.mem_of_getElem? (i := 223) (by decide +kernel)) rfl)⟩
theorem ml_X6_268 : Cond.methodLink RX6 268 yX1_wroteTogether ∈ mTb := mTb_in (List.mem_of_getElem? (i := 756) (by decide +kernel)) rfl
theorem ml_X6_271 : Cond.methodLink RX6 271 yX1_blotsTogether ∈ mTb := mTb_in (List.mem_of_getElem? (i := 760) (by decide +kernel)) rfl
theorem gs_X6_49 : sG RX6 49 6 7 := ⟨RX6, TX6, 8, kcX6, by decide, Or.inl (mTb_in (List.mem_of_getElem? (i := 228) (by decide +kernel)) rfl)⟩
theorem ml_X6_274 : Cond.methodLink RX6 274 yX5_toneAt ∈ mTb := mTb_in (List.mem_of_getElem? (i := 282) (by decide +kernel)) rfl
theorem ml_X6_277 : Cond.methodLink RX6 277 yX0_change ∈ mTb := mTb_in (List.mem_of_getElem? (i := 508) (by decide +kernel)) rfl
theorem gs_X7_19 : sG RX7 19 7 4 := ⟨RX7, TX7, 24, kcX7, by decide, Or.inl (mTb_in (List.mem_of_getElem? (i := 792) (by decide +kernel)) rfl)⟩
theorem ct_X7_71 : Cond.constant RX7 71 (iV (-1000000001)) ∈ mTb := mTb_in (List.mem_of_getElem? (i := 880) (by decide +kernel)) rfl
theorem gs_X7_9 : sG RX7 9 7 0 := ⟨RX7, TX7, 24, kcX7, by decide, Or.inl (mTb_in (List.mem_of_getElem? (i := 788) (by decide +kernel)) rfl)⟩
theorem gs_X7_16 : sG RX7 16 7 2 := ⟨RX7, TX7, 24, kcX7, by decide, Or.inl (mTb_in (List.mem_of_getElem? (i := 790) (by decide +kernel)) rfl)⟩
theorem ml_X7_72 : Cond.methodLink RX7 72 yX7_copyRow ∈ mTb := mTb_in (List.mem_of_getElem? (i := 1020) (by decide +kernel)) rfl
theorem ct_X7_76 : Cond.constant RX7 76 (iV (-1000000004)) ∈ mTb := mTb_in (List.mem_of_getElem? (i := 897) (by decide +kernel)) rfl
theorem ml_X7_77 : Cond.methodLink RX7 77 yX7_finding ∈ mTb := mTb_in (List.mem_of_getElem? (i := 881) (by decide +kernel)) rfl
theorem ml_X7_81 : Cond.methodLink RX7 81 yX7_within ∈ mTb := mTb_in (List.mem_of_getElem? (i := 868) (by decide +kernel)) rfl
theorem cl_X7_85 : Cond.constantLong RX7 85 15 ∈ mTb := mTb_in (List.mem_of_getElem? (i := 875) (by decide +kernel)) rfl
theorem ml_X7_87 : Cond.methodLink RX7 87 yX7_become ∈ mTb := mTb_in (List.mem_of_getElem? (i := 876) (by decide +kernel)) rfl
theorem ml_X7_91 : Cond.methodLink RX7 91 yX7_isSide ∈ mTb := mTb_in (List.mem_of_getElem? (i := 865) (by decide +kernel)) rfl
theorem ml_X7_95 : Cond.methodLink RX7 95 yX7_laysTune ∈ mTb := mTb_in (List.mem_of_getElem? (i := 871) (by decide +kernel)) rfl
theorem ml_X7_99 : Cond.methodLink RX7 99 yX7_length ∈ mTb := mTb_in (List.mem_of_getElem? (i := 889) (by decide +kernel)) rfl
theorem ml_X7_102 : Cond.methodLink RX7 102 yX7_toneOf ∈ mTb := mTb_in (List.mem_of_getElem? (i := 893) (by decide +kernel)) rfl
theorem ml_X7_105 : Cond.methodLink RX7 105 yJ9_abs_0f7a4 ∈ mTb := mTb_in (List.mem_of_getElem? (i := 906) (by decide +kernel)) rfl
theorem ml_X7_110 : Cond.methodLink RX7 110 yJ9_min_7cf53 ∈ mTb := mTb_in (List.mem_of_getElem? (i := 907) (by decide +kernel)) rfl
theorem ml_X7_113 : Cond.methodLink RX7 113 yJ9_max_7cf53 ∈ mTb := mTb_in (List.mem_of_getElem? (i := 1012) (by decide +kernel)) rfl
theorem ml_X7_116 : Cond.methodLink RX7 116 yX7_unlikeNow ∈ mTb := mTb_in (List.mem_of_getElem? (i := 1008) (by decide +kernel)) rfl
theorem ml_X7_120 : Cond.methodLink RX7 120 yX7_attacheIs ∈ mTb := mTb_in (List.mem_of_getElem? (i := 920) (by decide +kernel)) rfl
theorem ml_X7_123 : Cond.methodLink RX7 123 yX7_tensionOf ∈ mTb := mTb_in (List.mem_of_getElem? (i := 902) (by decide +kernel)) rfl
theorem ml_X7_126 : Cond.methodLink RX7 126 yX7_isHome ∈ mTb := mTb_in (List.mem_of_getElem? (i := 908) (by decide +kernel)) rfl
theorem ml_X7_129 : Cond.methodLink RX7 129 yX7_tonesIn ∈ mTb := mTb_in (List.mem_of_getElem? (i := 912) (by decide +kernel)) rfl
theorem ml_X7_132 : Cond.methodLink RX7 132 yX7_manyOf ∈ mTb := mTb_in (List.mem_of_getElem? (i := 916) (by decide +kernel)) rfl
theorem ml_X7_135 : Cond.methodLink RX7 135 yX7_attacheAt ∈ mTb := mTb_in (List.mem_of_getElem? (i := 924) (by decide +kernel)) rfl
theorem cl_X7_138 : Cond.constantLong RX7 138 12 ∈ mTb := mTb_in (List.mem_of_getElem? (i := 1156) (by decide +kernel)) rfl
theorem ml_X7_140 : Cond.methodLink RX7 140 yX7_isKind ∈ mTb := mTb_in (List.mem_of_getElem? (i := 931) (by decide +kernel)) rfl
theorem ct_X7_143 : Cond.constant RX7 143 (iV (-1000000002)) ∈ mTb := mTb_in (List.mem_of_getElem? (i := 934) (by decide +kernel)) rfl
theorem ml_X7_144 : Cond.methodLink RX7 144 yX7_comes ∈ mTb := mTb_in (List.mem_of_getElem? (i := 935) (by decide +kernel)) rfl
theorem ml_X7_148 : Cond.methodLink RX7 148 yX7_answers ∈ mTb := mTb_in (List.mem_of_getElem? (i := 962) (by decide +kernel)) rfl
theorem ml_X7_152 : Cond.methodLink RX7 152 yX7_longOf ∈ mTb := mTb_in (List.mem_of_getElem? (i := 951) (by decide +kernel)) rfl
theorem ml_X7_155 : Cond.methodLink RX7 155 yX7_isAttache ∈ mTb := mTb_in (List.mem_of_getElem? (i := 943) (by decide +kernel)) rfl
theorem ml_X7_158 : Cond.methodLink RX7 158 yX7_longNow ∈ mTb := mTb_in (List.mem_of_getElem? (i := 947) (by decide +kernel)) rfl
theorem ml_X7_161 : Cond.methodLink RX7 161 yX7_answerAt ∈ mTb := mTb_in (List.mem_of_getElem? (i := 958) (by decide +kernel)) rfl
theorem ct_X7_164 : Cond.constant RX7 164 (iV (-1000000003)) ∈ mTb := mTb_in (List.mem_of_getElem? (i := 978) (by decide +kernel)) rfl
theorem gs_X7_22 : sG RX7 22 7 5 := ⟨RX7, TX7, 24, kcX7, by decide, Or.inl (mTb_in (List.mem_of_getElem? (i := 793) (by decide +kernel)) rfl)⟩
theorem ml_X7_165 : Cond.methodLink RX7 165 yX7_whose ∈ mTb := mTb_in (List.mem_of_getElem? (i := 992) (by decide +kernel)) rfl
theorem ml_X7_168 : Cond.methodLink RX7 168 yX7_writes ∈ mTb := mTb_in (List.mem_of_getElem? (i := 996) (by decide +kernel)) rfl
theorem ml_X7_172 : Cond.methodLink RX7 172 yX7_day ∈ mTb := mTb_in (List.mem_of_getElem? (i := 988) (by decide +kernel)) rfl
theorem ct_X7_175 : Cond.constant RX7 175 (iV (-1000000005)) ∈ mTb := mTb_in (List.mem_of_getElem? (i := 983) (by decide +kernel)) rfl
theorem ml_X7_176 : Cond.methodLink RX7 176 yX7_daysGo ∈ mTb := mTb_in (List.mem_of_getElem? (i := 984) (by decide +kernel)) rfl
theorem ml_X7_179 : Cond.methodLink RX7 179 yX7_areAlike ∈ mTb := mTb_in (List.mem_of_getElem? (i := 1004) (by decide +kernel)) rfl
theorem ml_X7_183 : Cond.methodLink RX7 183 yX7_isOn ∈ mTb := mTb_in (List.mem_of_getElem? (i := 1017) (by decide +kernel)) rfl
theorem ml_X7_186 : Cond.methodLink RX7 186 yX7_putBack ∈ mTb := mTb_in (List.mem_of_getElem? (i := 1023) (by decide +kernel)) rfl
theorem ml_X7_189 : Cond.methodLink RX7 189 yX7_orNone ∈ mTb := mTb_in (List.mem_of_getElem? (i := 1027) (by decide +kernel)) rfl
theorem ml_X7_192 : Cond.methodLink RX7 192 yX7_tensionOn ∈ mTb := mTb_in (List.mem_of_getElem? (i := 1035) (by decide +kernel)) rfl
theorem ml_X7_195 : Cond.methodLink RX7 195 yX7_soonest ∈ mTb := mTb_in (List.mem_of_getElem? (i := 1043) (by decide +kernel)) rfl
theorem ml_X7_198 : Cond.methodLink RX7 198 yX7_isAsAside ∈ mTb := mTb_in (List.mem_of_getElem? (i := 1055) (by decide +kernel)) rfl
theorem ml_X7_201 : Cond.methodLink RX7 201 yX7_bestOf ∈ mTb := mTb_in (List.mem_of_getElem? (i := 1063) (by decide +kernel)) rfl
theorem ml_X7_205 : Cond.methodLink RX7 205 yX7_changeSides ∈ mTb := mTb_in (List.mem_of_getElem? (i := 1083) (by decide +kernel)) rfl
theorem ml_X7_209 : Cond.methodLink RX7 209 yX7_isHomeOn ∈ mTb := mTb_in (List.mem_of_getElem? (i := 1091) (by decide +kernel)) rfl
theorem gs_X7_213 : sG RX7 213 7 7 := ⟨RX7, TX7, 24, kcX7, by decide, Or.inl (mTb_in (List.mem_of_getElem? (i := 795) (by decide +kernel)) rfl)⟩
theorem gs_X7_25 : sG RX7 25 7 6 := ⟨RX7, TX7, 24, kcX7, by decide, Or.inl (mTb_in (List.mem_of_getElem? (i := 794) (by decide +kernel)) rfl)⟩
theorem ps_X7_213 : sP RX7 213 7 7 .int := ⟨RX7, TX7, 24, kcX7, by decide, Or.inl (mTb_in (List.mem_of_getElem? (i := 795) (by decide +kernel)) rfl), rfl, by decide +kernel⟩
theorem gs_X7_217 : sG RX7 217 7 9 := ⟨RX7, TX7, 24, kcX7, by decide, Or.inl (mTb_in (List.mem_of_getElem? (i := 797) (by decide +kernel)) rfl)⟩
theorem ps_X7_220 : sP RX7 220 7 8 .int := ⟨RX7, TX7, 24, kcX7, by decide, Or.inl (mTb_in (List.mem_of_getElem? (i := 796) (by decide +kernel)) rfl), rfl, by decide +kernel⟩
theorem gs_X7_220 : sG RX7 220 7 8 := ⟨RX7, TX7, 24, kcX7, by decide, Or.inl (mTb_in (List.mem_of_getElem? (i := 796) (by decide +kernel)) rfl)⟩
theorem ml_X7_223 : Cond.methodLink RX7 223 yX7_byteAt ∈ mTb := mTb_in (List.mem_of_getElem? (i := 1111) (by decide +kernel)) rfl
theorem ps_X7_217 : sP RX7 217 7 9 .int := ⟨RX7, TX7, 24, kcX7, by decide, Or.inl (mTb_in (List.mem_of_getElem? (i := 797) (by decide +kernel)) rfl), rfl, by decide +kernel⟩
theorem ps_X7_226 : sP RX7 226 7 11 .int := ⟨RX7, TX7, 24, kcX7, by decide, Or.inl (mTb_in (List.mem_of_getElem? (i := 799) (by decide +kernel)) rfl), rfl, by decide +kernel⟩
theorem ps_X7_229 : sP RX7 229 7 10 .int := ⟨RX7, TX7, 24, kcX7, by decide, Or.inl (mTb_in (List.mem_of_getElem? (i := 798) (by decide +kernel)) rfl), rfl, by decide +kernel⟩
theorem gs_X7_226 : sG RX7 226 7 11 := ⟨RX7, TX7, 24, kcX7, by decide, Or.inl (mTb_in (List.mem_of_getElem? (i := 799) (by decide +kernel)) rfl)⟩
theorem gs_X7_229 : sG RX7 229 7 10 := ⟨RX7, TX7, 24, kcX7, by decide, Or.inl (mTb_in (List.mem_of_getElem? (i := 798) (by decide +kernel)) rfl)⟩
theorem ml_X7_232 : Cond.methodLink RX7 232 yJ0_length_8abf5 ∈ mTb := mTb_in (List.mem_of_getElem? (i := 1123) (by decide +kernel)) rfl
theorem ml_X7_234 : Cond.methodLink RX7 234 yJ0_charAt_5068e ∈ mTb := mTb_in (List.mem_of_getElem? (i := 1124) (by decide +kernel)) rfl
theorem gs_X7_238 : sG RX7 238 7 12 := ⟨RX7, TX7, 24, kcX7, by decide, Or.inl (mTb_in (List.mem_of_getElem? (i := 800) (by decide +kernel)) rfl)⟩
theorem ps_X7_238 : sP RX7 238 7 12 .boolean := ⟨RX7, TX7, 24, kcX7, by decide, Or.inl (mTb_in (List.mem_of_getElem? (i := 800) (by decide +kernel)) rfl), rfl, by decide +kernel⟩
theorem ml_X7_242 : Cond.methodLink RX7 242 yX7_next ∈ mTb := mTb_in (List.mem_of_getElem? (i := 1107) (by decide +kernel)) rfl
theorem ml_X7_245 : Cond.methodLink RX7 245 yX7_must ∈ mTb := mTb_in (List.mem_of_getElem? (i := 1129) (by decide +kernel)) rfl
theorem gs_X7_46 : sG RX7 46 7 14 := ⟨RX7, TX7, 24, kcX7, by decide, Or.inl (mTb_in (List.mem_of_getElem? (i := 802) (by decide +kernel)) rfl)⟩
theorem gs_X7_249 : sG RX7 249 7 18 := ⟨RX7, TX7, 24, kcX7, by decide, Or.inl (mTb_in (List.mem_of_getElem? (i := 806) (by decide +kernel)) rfl)⟩
theorem gs_X7_49 : sG RX7 49 7 15 := ⟨RX7, TX7, 24, kcX7, by decide, Or.inl (mTb_in (List.mem_of_getElem? (i := 803) (by decide +kernel)) rfl)⟩
theorem gs_X7_52 : sG RX7 52 7 16 := ⟨RX7, TX7, 24, kcX7, by decide, Or.inl (mTb_in (List.mem_of_getElem? (i := 804) (by decide +kernel)) rfl)⟩
theorem gs_X7_55 : sG RX7 55 7 17 := ⟨RX7, TX7, 24, kcX7, by decide, Or.inl (mTb_in (List.mem_of_getElem? (i := 805) (by decide +kernel)) rfl)⟩
theorem ps_X7_249 : sP RX7 249 7 18 .int := ⟨RX7, TX7, 24, kcX7, by decide, Or.inl (mTb_in (List.mem_of_getElem? (i := 806) (by decide +kernel)) rfl), rfl, by decide +kernel⟩
theorem ml_X7_252 : Cond.methodLink RX7 252 yX7_isWord ∈ mTb := mTb_in (List.mem_of_getElem? (i := 1119) (by decide +kernel)) rfl
theorem ml_X7_256 : Cond.methodLink RX7 256 yX7_number ∈ mTb := mTb_in (List.mem_of_getElem? (i := 1134) (by decide +kernel)) rfl
theorem gs_X7_259 : sG RX7 259 7 19 := ⟨RX7, TX7, 24, kcX7, by decide, Or.inl (mTb_in (List.mem_of_getElem? (i := 807) (by decide +kernel)) rfl)⟩
theorem ml_X7_266 : Cond.methodLink RX7 266 yX7_perhaps ∈ mTb := mTb_in (List.mem_of_getElem? (i := 1139) (by decide +kernel)) rfl
theorem ml_X7_272 : Cond.methodLink RX7 272 yX7_addItem ∈ mTb := mTb_in (List.mem_of_getElem? (i := 1144) (by decide +kernel)) rfl
theorem ps_X7_259 : sP RX7 259 7 19 .int := ⟨RX7, TX7, 24, kcX7, by decide, Or.inl (mTb_in (List.mem_of_getElem? (i := 807) (by decide +kernel)) rfl), rfl, by decide +kernel⟩
theorem ml_X7_276 : Cond.methodLink RX7 276 yX7_isTone ∈ mTb := mTb_in (List.mem_of_getElem? (i := 1153) (by decide +kernel)) rfl
theorem gs_X7_42 : sG RX7 42 7 13 := ⟨RX7, TX7, 24, kcX7, by decide, Or.inl (mTb_in (List.mem_of_getElem? (i := 801) (by decide +kernel)) rfl)⟩
theorem ml_X7_280 : Cond.methodLink RX7 280 yX7_readAttache ∈ mTb := mTb_in (List.mem_of_getElem? (i := 1125) (by decide +kernel)) rfl
theorem ml_X7_285 : Cond.methodLink RX7 285 yX7_readTune ∈ mTb := mTb_in (List.mem_of_getElem? (i := 1149) (by decide +kernel)) rfl
theorem ml_X7_288 : Cond.methodLink RX7 288 yX7_readItem ∈ mTb := mTb_in (List.mem_of_getElem? (i := 1115) (by decide +kernel)) rfl
theorem ml_X7_291 : Cond.methodLink RX7 291 yX7_isToldSo ∈ mTb := mTb_in (List.mem_of_getElem? (i := 1157) (by decide +kernel)) rfl
theorem ml_X7_294 : Cond.methodLink RX7 294 yX7_isSheet ∈ mTb := mTb_in (List.mem_of_getElem? (i := 1165) (by decide +kernel)) rfl
theorem ct_X7_297 : Cond.constant RX7 297 (iV (-1000000007)) ∈ mTb := mTb_in (List.mem_of_getElem? (i := 1168) (by decide +kernel)) rfl
theorem gs_X7_59 : sG RX7 59 7 20 := ⟨RX7, TX7, 24, kcX7, by decide, Or.inl (mTb_in (List.mem_of_getElem? (i := 808) (by decide +kernel)) rfl)⟩
theorem gs_X7_62 : sG RX7 62 7 21 := ⟨RX7, TX7, 24, kcX7, by decide, Or.inl (mTb_in (List.mem_of_getElem? (i := 809) (by decide +kernel)) rfl)⟩
theorem gs_X7_65 : sG RX7 65 7 22 := ⟨RX7, TX7, 24, kcX7, by decide, Or.inl (mTb_in (List.mem_of_getElem? (i := 810) (by decide +kernel)) rfl)⟩
theorem ct_X7_298 : Cond.constant RX7 298 (iV (-1000000006)) ∈ mTb := mTb_in (List.mem_of_getElem? (i := 1173) (by decide +kernel)) rfl
theorem ml_X7_299 : Cond.methodLink RX7 299 yX7_cutTo ∈ mTb := mTb_in (List.mem_of_getElem? (i := 1174) (by decide +kernel)) rfl
theorem gs_X7_68 : sG RX7 68 7 23 := ⟨RX7, TX7, 24, kcX7, by decide, Or.inl (mTb_in (List.mem_of_getElem? (i := 811) (by decide +kernel)) rfl)⟩
theorem ml_X7_303 : Cond.methodLink RX7 303 yX7_lacks ∈ mTb := mTb_in (List.mem_of_getElem? (i := 1185) (by decide +kernel)) rfl
theorem ml_X7_307 : Cond.methodLink RX7 307 yX7_isAnswerOf ∈ mTb := mTb_in (List.mem_of_getElem? (i := 1197) (by decide +kernel)) rfl
theorem gs_X7_13 : sG RX7 13 7 1 := ⟨RX7, TX7, 24, kcX7, by decide, Or.inl (mTb_in (List.mem_of_getElem? (i := 789) (by decide +kernel)) rfl)⟩
theorem ps_X7_311 : sP RX7 311 7 3 .boolean := ⟨RX7, TX7, 24, kcX7, by decide, Or.inl (mTb_in (List.mem_of_getElem? (i := 791) (by decide +kernel)) rfl), rfl, by decide +kernel⟩
theorem gs_X7_311 : sG RX7 311 7 3 := ⟨RX7, TX7, 24, kcX7, by decide, Or.inl (mTb_in (List.mem_of_getElem? (i := 791) (by decide +kernel)) rfl)⟩
theorem ml_X7_314 : Cond.methodLink RX7 314 yX7_bits ∈ mTb := mTb_in (List.mem_of_getElem? (i := 1217) (by decide +kernel)) rfl
theorem ok_J6_bitCount_0f7a4 : sMs yJ6_bitCount_0f7a4 cJ6_bitCount_0f7a4 1 (some .int) 1 := ⟨mTb_in (List.mem_of_getElem? (i := 765) (by decide +kernel)) rfl, mTb_in (List.mem_of_getElem? (i := 77) (by decide +kernel)) rfl, mTb_in (List.mem_of_getElem? (i := 766) (by decide +kernel)) rfl, by decide +kernel, by decide +kernel, by decide +kernel⟩
theorem ok_J9_floorMod_7cf53 : sMs yJ9_floorMod_7cf53 cJ9_floorMod_7cf53 3 (some .int) 2 := ⟨mTb_in (List.mem_of_getElem? (i := 367) (by decide +kernel)) rfl, mTb_in (List.mem_of_getElem? (i := 71) (by decide +kernel)) rfl, mTb_in (List.mem_of_getElem? (i := 368) (by decide +kernel)) rfl, by decide +kernel, by decide +kernel, by decide +kernel⟩
theorem ok_J9_abs_0f7a4 : sMs yJ9_abs_0f7a4 cJ9_abs_0f7a4 1 (some .int) 1 := ⟨mTb_in (List.mem_of_getElem? (i := 299) (by decide +kernel)) rfl, mTb_in (List.mem_of_getElem? (i := 71) (by decide +kernel)) rfl, mTb_in (List.mem_of_getElem? (i := 300) (by decide +kernel)) rfl, by decide +kernel, by decide +kernel, by decide +kernel⟩
theorem ok_J9_max_7cf53 : sMs yJ9_max_7cf53 cJ9_max_7cf53 2 (some .int) 2 := ⟨mTb_in (List.mem_of_getElem? (i := 447) (by decide +kernel)) rfl, mTb_in (List.mem_of_getElem? (i := 71) (by decide +kernel)) rfl, mTb_in (List.mem_of_getElem? (i := 448) (by decide +kernel)) rfl, by decide +kernel, by decide +kernel, by decide +kernel⟩
theorem ok_J9_min_7cf53 : sMs yJ9_min_7cf53 cJ9_min_7cf53 2 (some .int) 2 := ⟨mTb_in (List.mem_of_getElem? (i := 302) (by decide +kernel)) rfl, mTb_in (List.mem_of_getElem? (i := 71) (by decide +kernel)) rfl, mTb_in (List.mem_of_getElem? (i := 303) (by decide +kernel)) rfl, by decide +kernel, by decide +kernel, by decide +kernel⟩
theorem ok_J0_length_8abf5 : sMv yJ0_length_8abf5 cJ0_length_8abf5 1 (some .int) 0 := ⟨mTb_in (List.mem_of_getElem? (i := 593) (by decide +kernel)) rfl, mTb_in (List.mem_of_getElem? (i := 594) (by decide +kernel)) rfl, mTb_in (List.mem_of_getElem? (i := 73) (by decide +kernel)) rfl, mTb_in (List.mem_of_getElem? (i := 595) (by decide +kernel)) rfl, by decide +kernel, by decide +kernel, by decide +kernel⟩
theorem ok_J0_charAt_5068e : sMv yJ0_charAt_5068e cJ0_charAt_5068e 2 (some .char) 1 := ⟨mTb_in (List.mem_of_getElem? (i := 603) (by decide +kernel)) rfl, mTb_in (List.mem_of_getElem? (i := 604) (by decide +kernel)) rfl, mTb_in (List.mem_of_getElem? (i := 73) (by decide +kernel)) rfl, mTb_in (List.mem_of_getElem? (i := 605) (by decide +kernel)) rfl, by decide +kernel, by decide +kernel, by decide +kernel⟩
theorem ok_J0_coder_7d493 : sMv yJ0_coder_7d493 cJ0_coder_7d493 1 (some .byte) 0 := ⟨mTb_in (List.mem_of_getElem? (i := 597) (by decide +kernel)) rfl, mTb_in (List.mem_of_getElem? (i := 598) (by decide +kernel)) rfl, mTb_in (List.mem_of_getElem? (i := 73) (by decide +kernel)) rfl, mTb_in (List.mem_of_getElem? (i := 599) (by decide +kernel)) rfl, by decide +kernel, by decide +kernel, by decide +kernel⟩
theorem ok_J0_isLatin1_aae02 : sMv yJ0_isLatin1_aae02 cJ0_isLatin1_aae02 1 (some .boolean) 0 := ⟨mTb_in (List.mem_of_getElem? (i := 607) (by decide +kernel)) rfl, mTb_in (List.mem_of_getElem? (i := 608) (by decide +kernel)) rfl, mTb_in (List.mem_of_getElem? (i := 73) (by decide +kernel)) rfl, mTb_in (List.mem_of_getElem? (i := 609) (by decide +kernel)) rfl, by decide +kernel, by decide +kernel, by decide +kernel⟩
theorem ok_J0_checkIndex_df160 : sMs yJ0_checkIndex_df160 cJ0_checkIndex_df160 2 none 2 := ⟨mTb_in (List.mem_of_getElem? (i := 614) (by decide +kernel)) rfl, mTb_in (List.mem_of_getElem? (i := 73) (by decide +kernel)) rfl, mTb_in (List.mem_of_getElem? (i := 615) (by decide +kernel)) rfl, by decide +kernel, by decide +kernel, by decide +kernel⟩
theorem ok_J1_charAt_3b067 : sMs yJ1_charAt_3b067 cJ1_charAt_3b067 2 (some .char) 2 := ⟨mTb_in (List.mem_of_getElem? (i := 611) (by decide +kernel)) rfl, mTb_in (List.mem_of_getElem? (i := 74) (by decide +kernel)) rfl, mTb_in (List.mem_of_getElem? (i := 612) (by decide +kernel)) rfl, by decide +kernel, by decide +kernel, by decide +kernel⟩
theorem ok_J2_getChar_3b067 : sMs yJ2_getChar_3b067 cJ2_getChar_3b067 2 (some .char) 2 := ⟨mTb_in (List.mem_of_getElem? (i := 632) (by decide +kernel)) rfl, mTb_in (List.mem_of_getElem? (i := 76) (by decide +kernel)) rfl, mTb_in (List.mem_of_getElem? (i := 633) (by decide +kernel)) rfl, by decide +kernel, by decide +kernel, by decide +kernel⟩
theorem ok_J2_length_9d52b : sMs yJ2_length_9d52b cJ2_length_9d52b 1 (some .int) 1 := ⟨mTb_in (List.mem_of_getElem? (i := 628) (by decide +kernel)) rfl, mTb_in (List.mem_of_getElem? (i := 76) (by decide +kernel)) rfl, mTb_in (List.mem_of_getElem? (i := 629) (by decide +kernel)) rfl, by decide +kernel, by decide +kernel, by decide +kernel⟩
theorem ok_J2_charAt_3b067 : sMs yJ2_charAt_3b067 cJ2_charAt_3b067 2 (some .char) 2 := ⟨mTb_in (List.mem_of_getElem? (i := 622) (by decide +kernel)) rfl, mTb_in (List.mem_of_getElem? (i := 76) (by decide +kernel)) rfl, mTb_in (List.mem_of_getElem? (i := 623) (by decide +kernel)) rfl, by decide +kernel, by decide +kernel, by decide +kernel⟩
theorem ok_J2_checkIndex_2214a : sMs yJ2_checkIndex_2214a cJ2_checkIndex_2214a 2 none 2 := ⟨mTb_in (List.mem_of_getElem? (i := 625) (by decide +kernel)) rfl, mTb_in (List.mem_of_getElem? (i := 76) (by decide +kernel)) rfl, mTb_in (List.mem_of_getElem? (i := 626) (by decide +kernel)) rfl, by decide +kernel, by decide +kernel, by decide +kernel⟩
theorem ok_J3_checkIndex_8e157 : sMs yJ3_checkIndex_8e157 cJ3_checkIndex_8e157 3 (some .int) 3 := ⟨mTb_in (List.mem_of_getElem? (i := 619) (by decide +kernel)) rfl, mTb_in (List.mem_of_getElem? (i := 75) (by decide +kernel)) rfl, mTb_in (List.mem_of_getElem? (i := 620) (by decide +kernel)) rfl, by decide +kernel, by decide +kernel, by decide +kernel⟩
theorem ok_X0_become : sMv yX0_become cX0_become 2 none 1 := ⟨mTb_in (List.mem_of_getElem? (i := 470) (by decide +kernel)) rfl, mTb_in (List.mem_of_getElem? (i := 471) (by decide +kernel)) rfl, mTb_in (List.mem_of_getElem? (i := 66) (by decide +kernel)) rfl, mTb_in (List.mem_of_getElem? (i := 472) (by decide +kernel)) rfl, by decide +kernel, by decide +kernel, by decide +kernel⟩
theorem ok_X0_change : sMv yX0_change cX0_change 3 none 2 := ⟨mTb_in (List.mem_of_getElem? (i := 509) (by decide +kernel)) rfl, mTb_in (List.mem_of_getElem? (i := 510) (by decide +kernel)) rfl, mTb_in (List.mem_of_getElem? (i := 66) (by decide +kernel)) rfl, mTb_in (List.mem_of_getElem? (i := 511) (by decide +kernel)) rfl, by decide +kernel, by decide +kernel, by decide +kernel⟩
theorem ok_X0_lengthTo : sMv yX0_lengthTo cX0_lengthTo 2 (some .int) 1 := ⟨mTb_in (List.mem_of_getElem? (i := 347) (by decide +kernel)) rfl, mTb_in (List.mem_of_getElem? (i := 348) (by decide +kernel)) rfl, mTb_in (List.mem_of_getElem? (i := 66) (by decide +kernel)) rfl, mTb_in (List.mem_of_getElem? (i := 349) (by decide +kernel)) rfl, by decide +kernel, by decide +kernel, by decide +kernel⟩
theorem ok_X0_toneTo : sMv yX0_toneTo cX0_toneTo 4 (some .int) 2 := ⟨mTb_in (List.mem_of_getElem? (i := 355) (by decide +kernel)) rfl, mTb_in (List.mem_of_getElem? (i := 356) (by decide +kernel)) rfl, mTb_in (List.mem_of_getElem? (i := 66) (by decide +kernel)) rfl, mTb_in (List.mem_of_getElem? (i := 357) (by decide +kernel)) rfl, by decide +kernel, by decide +kernel, by decide +kernel⟩
theorem ok_X0_writeTo : sMv yX0_writeTo cX0_writeTo 5 none 2 := ⟨mTb_in (List.mem_of_getElem? (i := 415) (by decide +kernel)) rfl, mTb_in (List.mem_of_getElem? (i := 416) (by decide +kernel)) rfl, mTb_in (List.mem_of_getElem? (i := 66) (by decide +kernel)) rfl, mTb_in (List.mem_of_getElem? (i := 417) (by decide +kernel)) rfl, by decide +kernel, by decide +kernel, by decide +kernel⟩
theorem ok_X0_isBlotted : sMv yX0_isBlotted cX0_isBlotted 2 (some .boolean) 1 := ⟨mTb_in (List.mem_of_getElem? (i := 364) (by decide +kernel)) rfl, mTb_in (List.mem_of_getElem? (i := 3) (by decide +kernel)) rfl, mTb_in (List.mem_of_getElem? (i := 66) (by decide +kernel)) rfl, mTb_in (List.mem_of_getElem? (i := 365) (by decide +kernel)) rfl, by decide +kernel, by decide +kernel, by decide +kernel⟩
theorem ok_X0_turnedAbout : sMv yX0_turnedAbout cX0_turnedAbout 5 (some .int) 2 := ⟨mTb_in (List.mem_of_getElem? (i := 360) (by decide +kernel)) rfl, mTb_in (List.mem_of_getElem? (i := 2) (by decide +kernel)) rfl, mTb_in (List.mem_of_getElem? (i := 66) (by decide +kernel)) rfl, mTb_in (List.mem_of_getElem? (i := 361) (by decide +kernel)) rfl, by decide +kernel, by decide +kernel, by decide +kernel⟩
theorem ok_X1_become : sMv yX1_become cX1_become 3 none 1 := ⟨mTb_in (List.mem_of_getElem? (i := 459) (by decide +kernel)) rfl, mTb_in (List.mem_of_getElem? (i := 460) (by decide +kernel)) rfl, mTb_in (List.mem_of_getElem? (i := 64) (by decide +kernel)) rfl, mTb_in (List.mem_of_getElem? (i := 461) (by decide +kernel)) rfl, by decide +kernel, by decide +kernel, by decide +kernel⟩
theorem ok_X1_tuneOf : sMv yX1_tuneOf cX1_tuneOf 2 (some (.object "FugueNotes$Tune")) 1 := ⟨mTb_in (List.mem_of_getElem? (i := 262) (by decide +kernel)) rfl, mTb_in (List.mem_of_getElem? (i := 263) (by decide +kernel)) rfl, mTb_in (List.mem_of_getElem? (i := 64) (by decide +kernel)) rfl, mTb_in (List.mem_of_getElem? (i := 264) (by decide +kernel)) rfl, by decide +kernel, by decide +kernel, by decide +kernel⟩
theorem ok_X1_heardBy : sMv yX1_heardBy cX1_heardBy 2 (some (.object "FugueNotes$Tune")) 1 := ⟨mTb_in (List.mem_of_getElem? (i := 342) (by decide +kernel)) rfl, mTb_in (List.mem_of_getElem? (i := 343) (by decide +kernel)) rfl, mTb_in (List.mem_of_getElem? (i := 64) (by decide +kernel)) rfl, mTb_in (List.mem_of_getElem? (i := 344) (by decide +kernel)) rfl, by decide +kernel, by decide +kernel, by decide +kernel⟩
theorem ok_X1_has : sMv yX1_has cX1_has 2 (some .boolean) 1 := ⟨mTb_in (List.mem_of_getElem? (i := 338) (by decide +kernel)) rfl, mTb_in (List.mem_of_getElem? (i := 339) (by decide +kernel)) rfl, mTb_in (List.mem_of_getElem? (i := 64) (by decide +kernel)) rfl, mTb_in (List.mem_of_getElem? (i := 340) (by decide +kernel)) rfl, by decide +kernel, by decide +kernel, by decide +kernel⟩
theorem ok_X1_isFull : sMv yX1_isFull cX1_isFull 1 (some .boolean) 0 := ⟨mTb_in (List.mem_of_getElem? (i := 324) (by decide +kernel)) rfl, mTb_in (List.mem_of_getElem? (i := 325) (by decide +kernel)) rfl, mTb_in (List.mem_of_getElem? (i := 64) (by decide +kernel)) rfl, mTb_in (List.mem_of_getElem? (i := 326) (by decide +kernel)) rfl, by decide +kernel, by decide +kernel, by decide +kernel⟩
theorem ok_X1_engage : sMv yX1_engage cX1_engage 6 none 4 := ⟨mTb_in (List.mem_of_getElem? (i := 329) (by decide +kernel)) rfl, mTb_in (List.mem_of_getElem? (i := 330) (by decide +kernel)) rfl, mTb_in (List.mem_of_getElem? (i := 64) (by decide +kernel)) rfl, mTb_in (List.mem_of_getElem? (i := 331) (by decide +kernel)) rfl, by decide +kernel, by decide +kernel, by decide +kernel⟩
theorem ok_X1_attachesOf : sMv yX1_attachesOf cX1_attachesOf 4 (some .int) 1 := ⟨mTb_in (List.mem_of_getElem? (i := 313) (by decide +kernel)) rfl, mTb_in (List.mem_of_getElem? (i := 314) (by decide +kernel)) rfl, mTb_in (List.mem_of_getElem? (i := 64) (by decide +kernel)) rfl, mTb_in (List.mem_of_getElem? (i := 315) (by decide +kernel)) rfl, by decide +kernel, by decide +kernel, by decide +kernel⟩
theorem ok_X1_writingSide : sMv yX1_writingSide cX1_writingSide 1 (some .int) 0 := ⟨mTb_in (List.mem_of_getElem? (i := 408) (by decide +kernel)) rfl, mTb_in (List.mem_of_getElem? (i := 409) (by decide +kernel)) rfl, mTb_in (List.mem_of_getElem? (i := 64) (by decide +kernel)) rfl, mTb_in (List.mem_of_getElem? (i := 410) (by decide +kernel)) rfl, by decide +kernel, by decide +kernel, by decide +kernel⟩
theorem ok_X1_writer : sMv yX1_writer cX1_writer 5 (some .int) 0 := ⟨mTb_in (List.mem_of_getElem? (i := 404) (by decide +kernel)) rfl, mTb_in (List.mem_of_getElem? (i := 405) (by decide +kernel)) rfl, mTb_in (List.mem_of_getElem? (i := 64) (by decide +kernel)) rfl, mTb_in (List.mem_of_getElem? (i := 406) (by decide +kernel)) rfl, by decide +kernel, by decide +kernel, by decide +kernel⟩
theorem ok_X1_passDay : sMv yX1_passDay cX1_passDay 4 none 0 := ⟨mTb_in (List.mem_of_getElem? (i := 400) (by decide +kernel)) rfl, mTb_in (List.mem_of_getElem? (i := 401) (by decide +kernel)) rfl, mTb_in (List.mem_of_getElem? (i := 64) (by decide +kernel)) rfl, mTb_in (List.mem_of_getElem? (i := 402) (by decide +kernel)) rfl, by decide +kernel, by decide +kernel, by decide +kernel⟩
theorem ok_X1_passDays : sMv yX1_passDays cX1_passDays 3 none 1 := ⟨mTb_in (List.mem_of_getElem? (i := 396) (by decide +kernel)) rfl, mTb_in (List.mem_of_getElem? (i := 397) (by decide +kernel)) rfl, mTb_in (List.mem_of_getElem? (i := 64) (by decide +kernel)) rfl, mTb_in (List.mem_of_getElem? (i := 398) (by decide +kernel)) rfl, by decide +kernel, by decide +kernel, by decide +kernel⟩
theorem ok_X1_passDaysUntilHome : sMv yX1_passDaysUntilHome cX1_passDaysUntilHome 5 (some .int) 2 := ⟨mTb_in (List.mem_of_getElem? (i := 482) (by decide +kernel)) rfl, mTb_in (List.mem_of_getElem? (i := 483) (by decide +kernel)) rfl, mTb_in (List.mem_of_getElem? (i := 64) (by decide +kernel)) rfl, mTb_in (List.mem_of_getElem? (i := 484) (by decide +kernel)) rfl, by decide +kernel, by decide +kernel, by decide +kernel⟩
theorem ok_X1_passDaysUntilAlike : sMv yX1_passDaysUntilAlike cX1_passDaysUntilAlike 3 (some .int) 1 := ⟨mTb_in (List.mem_of_getElem? (i := 490) (by decide +kernel)) rfl, mTb_in (List.mem_of_getElem? (i := 491) (by decide +kernel)) rfl, mTb_in (List.mem_of_getElem? (i := 64) (by decide +kernel)) rfl, mTb_in (List.mem_of_getElem? (i := 492) (by decide +kernel)) rfl, by decide +kernel, by decide +kernel, by decide +kernel⟩
theorem ok_X1_isAlike : sMv yX1_isAlike cX1_isAlike 1 (some .boolean) 0 := ⟨mTb_in (List.mem_of_getElem? (i := 435) (by decide +kernel)) rfl, mTb_in (List.mem_of_getElem? (i := 436) (by decide +kernel)) rfl, mTb_in (List.mem_of_getElem? (i := 64) (by decide +kernel)) rfl, mTb_in (List.mem_of_getElem? (i := 437) (by decide +kernel)) rfl, by decide +kernel, by decide +kernel, by decide +kernel⟩
theorem ok_X1_homeSides : sMv yX1_homeSides cX1_homeSides 1 (some .int) 0 := ⟨mTb_in (List.mem_of_getElem? (i := 430) (by decide +kernel)) rfl, mTb_in (List.mem_of_getElem? (i := 431) (by decide +kernel)) rfl, mTb_in (List.mem_of_getElem? (i := 64) (by decide +kernel)) rfl, mTb_in (List.mem_of_getElem? (i := 432) (by decide +kernel)) rfl, by decide +kernel, by decide +kernel, by decide +kernel⟩
theorem ok_X1_wroteTogether : sMv yX1_wroteTogether cX1_wroteTogether 3 (some .int) 0 := ⟨mTb_in (List.mem_of_getElem? (i := 757) (by decide +kernel)) rfl, mTb_in (List.mem_of_getElem? (i := 758) (by decide +kernel)) rfl, mTb_in (List.mem_of_getElem? (i := 64) (by decide +kernel)) rfl, mTb_in (List.mem_of_getElem? (i := 759) (by decide +kernel)) rfl, by decide +kernel, by decide +kernel, by decide +kernel⟩
theorem ok_X1_blotsTogether : sMv yX1_blotsTogether cX1_blotsTogether 3 (some .int) 0 := ⟨mTb_in (List.mem_of_getElem? (i := 761) (by decide +kernel)) rfl, mTb_in (List.mem_of_getElem? (i := 762) (by decide +kernel)) rfl, mTb_in (List.mem_of_getElem? (i := 64) (by decide +kernel)) rfl, mTb_in (List.mem_of_getElem? (i := 763) (by decide +kernel)) rfl, by decide +kernel, by decide +kernel, by decide +kernel⟩
theorem ok_X2_tellTo : sMv yX2_tellTo cX2_tellTo 3 (some .int) 1 := ⟨mTb_in (List.mem_of_getElem? (i := 557) (by decide +kernel)) rfl, mTb_in (List.mem_of_getElem? (i := 558) (by decide +kernel)) rfl, mTb_in (List.mem_of_getElem? (i := 68) (by decide +kernel)) rfl, mTb_in (List.mem_of_getElem? (i := 559) (by decide +kernel)) rfl, by decide +kernel, by decide +kernel, by decide +kernel⟩
theorem ok_X2_tellItem : sMv yX2_tellItem cX2_tellItem 3 (some .boolean) 1 := ⟨mTb_in (List.mem_of_getElem? (i := 585) (by decide +kernel)) rfl, mTb_in (List.mem_of_getElem? (i := 10) (by decide +kernel)) rfl, mTb_in (List.mem_of_getElem? (i := 68) (by decide +kernel)) rfl, mTb_in (List.mem_of_getElem? (i := 586) (by decide +kernel)) rfl, by decide +kernel, by decide +kernel, by decide +kernel⟩
theorem ok_X2_tellTune : sMv yX2_tellTune cX2_tellTune 4 (some .boolean) 1 := ⟨mTb_in (List.mem_of_getElem? (i := 642) (by decide +kernel)) rfl, mTb_in (List.mem_of_getElem? (i := 12) (by decide +kernel)) rfl, mTb_in (List.mem_of_getElem? (i := 68) (by decide +kernel)) rfl, mTb_in (List.mem_of_getElem? (i := 643) (by decide +kernel)) rfl, by decide +kernel, by decide +kernel, by decide +kernel⟩
theorem ok_X2_tellAttache : sMv yX2_tellAttache cX2_tellAttache 6 (some .boolean) 2 := ⟨mTb_in (List.mem_of_getElem? (i := 667) (by decide +kernel)) rfl, mTb_in (List.mem_of_getElem? (i := 15) (by decide +kernel)) rfl, mTb_in (List.mem_of_getElem? (i := 68) (by decide +kernel)) rfl, mTb_in (List.mem_of_getElem? (i := 668) (by decide +kernel)) rfl, by decide +kernel, by decide +kernel, by decide +kernel⟩
theorem ok_X2_kindNamed : sMv yX2_kindNamed cX2_kindNamed 2 (some .int) 0 := ⟨mTb_in (List.mem_of_getElem? (i := 653) (by decide +kernel)) rfl, mTb_in (List.mem_of_getElem? (i := 14) (by decide +kernel)) rfl, mTb_in (List.mem_of_getElem? (i := 68) (by decide +kernel)) rfl, mTb_in (List.mem_of_getElem? (i := 654) (by decide +kernel)) rfl, by decide +kernel, by decide +kernel, by decide +kernel⟩
theorem ok_X2_nameOf : sMs yX2_nameOf cX2_nameOf 1 (some (.object "java/lang/String")) 1 := ⟨mTb_in (List.mem_of_getElem? (i := 656) (by decide +kernel)) rfl, mTb_in (List.mem_of_getElem? (i := 68) (by decide +kernel)) rfl, mTb_in (List.mem_of_getElem? (i := 657) (by decide +kernel)) rfl, by decide +kernel, by decide +kernel, by decide +kernel⟩
theorem ok_X2_isNumberTo : sMv yX2_isNumberTo cX2_isNumberTo 2 (some .boolean) 1 := ⟨mTb_in (List.mem_of_getElem? (i := 646) (by decide +kernel)) rfl, mTb_in (List.mem_of_getElem? (i := 13) (by decide +kernel)) rfl, mTb_in (List.mem_of_getElem? (i := 68) (by decide +kernel)) rfl, mTb_in (List.mem_of_getElem? (i := 647) (by decide +kernel)) rfl, by decide +kernel, by decide +kernel, by decide +kernel⟩
theorem ok_X2_isWord : sMv yX2_isWord cX2_isWord 3 (some .boolean) 1 := ⟨mTb_in (List.mem_of_getElem? (i := 590) (by decide +kernel)) rfl, mTb_in (List.mem_of_getElem? (i := 11) (by decide +kernel)) rfl, mTb_in (List.mem_of_getElem? (i := 68) (by decide +kernel)) rfl, mTb_in (List.mem_of_getElem? (i := 591) (by decide +kernel)) rfl, by decide +kernel, by decide +kernel, by decide +kernel⟩
theorem ok_X2_advance : sMv yX2_advance cX2_advance 1 none 0 := ⟨mTb_in (List.mem_of_getElem? (i := 562) (by decide +kernel)) rfl, mTb_in (List.mem_of_getElem? (i := 7) (by decide +kernel)) rfl, mTb_in (List.mem_of_getElem? (i := 68) (by decide +kernel)) rfl, mTb_in (List.mem_of_getElem? (i := 563) (by decide +kernel)) rfl, by decide +kernel, by decide +kernel, by decide +kernel⟩
theorem ok_X2_isLetter : sMs yX2_isLetter cX2_isLetter 1 (some .boolean) 1 := ⟨mTb_in (List.mem_of_getElem? (i := 569) (by decide +kernel)) rfl, mTb_in (List.mem_of_getElem? (i := 68) (by decide +kernel)) rfl, mTb_in (List.mem_of_getElem? (i := 570) (by decide +kernel)) rfl, by decide +kernel, by decide +kernel, by decide +kernel⟩
theorem ok_X2_isDigit : sMs yX2_isDigit cX2_isDigit 1 (some .boolean) 1 := ⟨mTb_in (List.mem_of_getElem? (i := 576) (by decide +kernel)) rfl, mTb_in (List.mem_of_getElem? (i := 68) (by decide +kernel)) rfl, mTb_in (List.mem_of_getElem? (i := 577) (by decide +kernel)) rfl, by decide +kernel, by decide +kernel, by decide +kernel⟩
theorem ok_X2_takeWord : sMv yX2_takeWord cX2_takeWord 1 none 0 := ⟨mTb_in (List.mem_of_getElem? (i := 573) (by decide +kernel)) rfl, mTb_in (List.mem_of_getElem? (i := 8) (by decide +kernel)) rfl, mTb_in (List.mem_of_getElem? (i := 68) (by decide +kernel)) rfl, mTb_in (List.mem_of_getElem? (i := 574) (by decide +kernel)) rfl, by decide +kernel, by decide +kernel, by decide +kernel⟩
theorem ok_X2_takeNumber : sMv yX2_takeNumber cX2_takeNumber 1 none 0 := ⟨mTb_in (List.mem_of_getElem? (i := 580) (by decide +kernel)) rfl, mTb_in (List.mem_of_getElem? (i := 9) (by decide +kernel)) rfl, mTb_in (List.mem_of_getElem? (i := 68) (by decide +kernel)) rfl, mTb_in (List.mem_of_getElem? (i := 581) (by decide +kernel)) rfl, by decide +kernel, by decide +kernel, by decide +kernel⟩
theorem ok_X3_begin : sMv yX3_begin cX3_begin 4 none 2 := ⟨mTb_in (List.mem_of_getElem? (i := 686) (by decide +kernel)) rfl, mTb_in (List.mem_of_getElem? (i := 687) (by decide +kernel)) rfl, mTb_in (List.mem_of_getElem? (i := 69) (by decide +kernel)) rfl, mTb_in (List.mem_of_getElem? (i := 688) (by decide +kernel)) rfl, by decide +kernel, by decide +kernel, by decide +kernel⟩
theorem ok_X3_isMissing : sMv yX3_isMissing cX3_isMissing 1 (some .boolean) 0 := ⟨mTb_in (List.mem_of_getElem? (i := 698) (by decide +kernel)) rfl, mTb_in (List.mem_of_getElem? (i := 699) (by decide +kernel)) rfl, mTb_in (List.mem_of_getElem? (i := 69) (by decide +kernel)) rfl, mTb_in (List.mem_of_getElem? (i := 700) (by decide +kernel)) rfl, by decide +kernel, by decide +kernel, by decide +kernel⟩
theorem ok_X3_hasRow : sMv yX3_hasRow cX3_hasRow 3 (some .boolean) 2 := ⟨mTb_in (List.mem_of_getElem? (i := 715) (by decide +kernel)) rfl, mTb_in (List.mem_of_getElem? (i := 716) (by decide +kernel)) rfl, mTb_in (List.mem_of_getElem? (i := 69) (by decide +kernel)) rfl, mTb_in (List.mem_of_getElem? (i := 717) (by decide +kernel)) rfl, by decide +kernel, by decide +kernel, by decide +kernel⟩
theorem ok_X3_put : sMv yX3_put cX3_put 4 none 2 := ⟨mTb_in (List.mem_of_getElem? (i := 703) (by decide +kernel)) rfl, mTb_in (List.mem_of_getElem? (i := 704) (by decide +kernel)) rfl, mTb_in (List.mem_of_getElem? (i := 69) (by decide +kernel)) rfl, mTb_in (List.mem_of_getElem? (i := 705) (by decide +kernel)) rfl, by decide +kernel, by decide +kernel, by decide +kernel⟩
theorem ok_X3_lowestBits : sMv yX3_lowestBits cX3_lowestBits 3 (some .long) 1 := ⟨mTb_in (List.mem_of_getElem? (i := 708) (by decide +kernel)) rfl, mTb_in (List.mem_of_getElem? (i := 17) (by decide +kernel)) rfl, mTb_in (List.mem_of_getElem? (i := 69) (by decide +kernel)) rfl, mTb_in (List.mem_of_getElem? (i := 709) (by decide +kernel)) rfl, by decide +kernel, by decide +kernel, by decide +kernel⟩
theorem ok_X4_clear : sMv yX4_clear cX4_clear 1 none 0 := ⟨mTb_in (List.mem_of_getElem? (i := 549) (by decide +kernel)) rfl, mTb_in (List.mem_of_getElem? (i := 550) (by decide +kernel)) rfl, mTb_in (List.mem_of_getElem? (i := 67) (by decide +kernel)) rfl, mTb_in (List.mem_of_getElem? (i := 551) (by decide +kernel)) rfl, by decide +kernel, by decide +kernel, by decide +kernel⟩
theorem ok_X4_append : sMv yX4_append cX4_append 2 none 1 := ⟨mTb_in (List.mem_of_getElem? (i := 541) (by decide +kernel)) rfl, mTb_in (List.mem_of_getElem? (i := 542) (by decide +kernel)) rfl, mTb_in (List.mem_of_getElem? (i := 67) (by decide +kernel)) rfl, mTb_in (List.mem_of_getElem? (i := 543) (by decide +kernel)) rfl, by decide +kernel, by decide +kernel, by decide +kernel⟩
theorem ok_X4_byteAt : sMv yX4_byteAt cX4_byteAt 2 (some .int) 1 := ⟨mTb_in (List.mem_of_getElem? (i := 565) (by decide +kernel)) rfl, mTb_in (List.mem_of_getElem? (i := 566) (by decide +kernel)) rfl, mTb_in (List.mem_of_getElem? (i := 67) (by decide +kernel)) rfl, mTb_in (List.mem_of_getElem? (i := 567) (by decide +kernel)) rfl, by decide +kernel, by decide +kernel, by decide +kernel⟩
theorem ok_X5_clear : sMv yX5_clear cX5_clear 1 none 0 := ⟨mTb_in (List.mem_of_getElem? (i := 266) (by decide +kernel)) rfl, mTb_in (List.mem_of_getElem? (i := 267) (by decide +kernel)) rfl, mTb_in (List.mem_of_getElem? (i := 65) (by decide +kernel)) rfl, mTb_in (List.mem_of_getElem? (i := 268) (by decide +kernel)) rfl, by decide +kernel, by decide +kernel, by decide +kernel⟩
theorem ok_X5_append : sMv yX5_append cX5_append 2 none 1 := ⟨mTb_in (List.mem_of_getElem? (i := 271) (by decide +kernel)) rfl, mTb_in (List.mem_of_getElem? (i := 272) (by decide +kernel)) rfl, mTb_in (List.mem_of_getElem? (i := 65) (by decide +kernel)) rfl, mTb_in (List.mem_of_getElem? (i := 273) (by decide +kernel)) rfl, by decide +kernel, by decide +kernel, by decide +kernel⟩
theorem ok_X5_become : sMv yX5_become cX5_become 2 none 1 := ⟨mTb_in (List.mem_of_getElem? (i := 463) (by decide +kernel)) rfl, mTb_in (List.mem_of_getElem? (i := 464) (by decide +kernel)) rfl, mTb_in (List.mem_of_getElem? (i := 65) (by decide +kernel)) rfl, mTb_in (List.mem_of_getElem? (i := 465) (by decide +kernel)) rfl, by decide +kernel, by decide +kernel, by decide +kernel⟩
theorem ok_X5_toneAt : sMv yX5_toneAt cX5_toneAt 2 (some .int) 1 := ⟨mTb_in (List.mem_of_getElem? (i := 283) (by decide +kernel)) rfl, mTb_in (List.mem_of_getElem? (i := 284) (by decide +kernel)) rfl, mTb_in (List.mem_of_getElem? (i := 65) (by decide +kernel)) rfl, mTb_in (List.mem_of_getElem? (i := 285) (by decide +kernel)) rfl, by decide +kernel, by decide +kernel, by decide +kernel⟩
theorem ok_X5_isHome : sMv yX5_isHome cX5_isHome 1 (some .boolean) 0 := ⟨mTb_in (List.mem_of_getElem? (i := 305) (by decide +kernel)) rfl, mTb_in (List.mem_of_getElem? (i := 306) (by decide +kernel)) rfl, mTb_in (List.mem_of_getElem? (i := 65) (by decide +kernel)) rfl, mTb_in (List.mem_of_getElem? (i := 307) (by decide +kernel)) rfl, by decide +kernel, by decide +kernel, by decide +kernel⟩
theorem ok_X5_isSameAs : sMv yX5_isSameAs cX5_isSameAs 2 (some .boolean) 1 := ⟨mTb_in (List.mem_of_getElem? (i := 439) (by decide +kernel)) rfl, mTb_in (List.mem_of_getElem? (i := 440) (by decide +kernel)) rfl, mTb_in (List.mem_of_getElem? (i := 65) (by decide +kernel)) rfl, mTb_in (List.mem_of_getElem? (i := 441) (by decide +kernel)) rfl, by decide +kernel, by decide +kernel, by decide +kernel⟩
theorem ok_X5_placesUnlike : sMv yX5_placesUnlike cX5_placesUnlike 5 (some .int) 1 := ⟨mTb_in (List.mem_of_getElem? (i := 443) (by decide +kernel)) rfl, mTb_in (List.mem_of_getElem? (i := 444) (by decide +kernel)) rfl, mTb_in (List.mem_of_getElem? (i := 65) (by decide +kernel)) rfl, mTb_in (List.mem_of_getElem? (i := 445) (by decide +kernel)) rfl, by decide +kernel, by decide +kernel, by decide +kernel⟩
theorem ok_X5_toneSet : sMv yX5_toneSet cX5_toneSet 3 (some .int) 0 := ⟨mTb_in (List.mem_of_getElem? (i := 309) (by decide +kernel)) rfl, mTb_in (List.mem_of_getElem? (i := 310) (by decide +kernel)) rfl, mTb_in (List.mem_of_getElem? (i := 65) (by decide +kernel)) rfl, mTb_in (List.mem_of_getElem? (i := 311) (by decide +kernel)) rfl, by decide +kernel, by decide +kernel, by decide +kernel⟩
theorem ok_X5_wideLeaps : sMv yX5_wideLeaps cX5_wideLeaps 3 (some .int) 0 := ⟨mTb_in (List.mem_of_getElem? (i := 292) (by decide +kernel)) rfl, mTb_in (List.mem_of_getElem? (i := 293) (by decide +kernel)) rfl, mTb_in (List.mem_of_getElem? (i := 65) (by decide +kernel)) rfl, mTb_in (List.mem_of_getElem? (i := 294) (by decide +kernel)) rfl, by decide +kernel, by decide +kernel, by decide +kernel⟩
theorem ok_X5_leapBetween : sMs yX5_leapBetween cX5_leapBetween 3 (some .int) 2 := ⟨mTb_in (List.mem_of_getElem? (i := 296) (by decide +kernel)) rfl, mTb_in (List.mem_of_getElem? (i := 65) (by decide +kernel)) rfl, mTb_in (List.mem_of_getElem? (i := 297) (by decide +kernel)) rfl, by decide +kernel, by decide +kernel, by decide +kernel⟩
theorem ok_X6_tune : sMv yX6_tune cX6_tune 9 (some .int) 3 := ⟨mTb_in (List.mem_of_getElem? (i := 247) (by decide +kernel)) rfl, mTb_in (List.mem_of_getElem? (i := 248) (by decide +kernel)) rfl, mTb_in (List.mem_of_getElem? (i := 63) (by decide +kernel)) rfl, mTb_in (List.mem_of_getElem? (i := 249) (by decide +kernel)) rfl, by decide +kernel, by decide +kernel, by decide +kernel⟩
theorem ok_X6_tone : sMv yX6_tone cX6_tone 3 (some .int) 2 := ⟨mTb_in (List.mem_of_getElem? (i := 275) (by decide +kernel)) rfl, mTb_in (List.mem_of_getElem? (i := 276) (by decide +kernel)) rfl, mTb_in (List.mem_of_getElem? (i := 63) (by decide +kernel)) rfl, mTb_in (List.mem_of_getElem? (i := 277) (by decide +kernel)) rfl, by decide +kernel, by decide +kernel, by decide +kernel⟩
theorem ok_X6_side : sMv yX6_side cX6_side 4 (some .int) 2 := ⟨mTb_in (List.mem_of_getElem? (i := 288) (by decide +kernel)) rfl, mTb_in (List.mem_of_getElem? (i := 289) (by decide +kernel)) rfl, mTb_in (List.mem_of_getElem? (i := 63) (by decide +kernel)) rfl, mTb_in (List.mem_of_getElem? (i := 290) (by decide +kernel)) rfl, by decide +kernel, by decide +kernel, by decide +kernel⟩
theorem ok_X6_attache : sMv yX6_attache cX6_attache 4 (some .int) 2 := ⟨mTb_in (List.mem_of_getElem? (i := 317) (by decide +kernel)) rfl, mTb_in (List.mem_of_getElem? (i := 318) (by decide +kernel)) rfl, mTb_in (List.mem_of_getElem? (i := 63) (by decide +kernel)) rfl, mTb_in (List.mem_of_getElem? (i := 319) (by decide +kernel)) rfl, by decide +kernel, by decide +kernel, by decide +kernel⟩
theorem ok_X6_of : sMv yX6_of cX6_of 4 (some .int) 2 := ⟨mTb_in (List.mem_of_getElem? (i := 334) (by decide +kernel)) rfl, mTb_in (List.mem_of_getElem? (i := 335) (by decide +kernel)) rfl, mTb_in (List.mem_of_getElem? (i := 63) (by decide +kernel)) rfl, mTb_in (List.mem_of_getElem? (i := 336) (by decide +kernel)) rfl, by decide +kernel, by decide +kernel, by decide +kernel⟩
theorem ok_X6_answer : sMv yX6_answer cX6_answer 5 (some .int) 2 := ⟨mTb_in (List.mem_of_getElem? (i := 351) (by decide +kernel)) rfl, mTb_in (List.mem_of_getElem? (i := 352) (by decide +kernel)) rfl, mTb_in (List.mem_of_getElem? (i := 63) (by decide +kernel)) rfl, mTb_in (List.mem_of_getElem? (i := 353) (by decide +kernel)) rfl, by decide +kernel, by decide +kernel, by decide +kernel⟩
theorem ok_X6_set : sMv yX6_set cX6_set 6 (some .int) 3 := ⟨mTb_in (List.mem_of_getElem? (i := 370) (by decide +kernel)) rfl, mTb_in (List.mem_of_getElem? (i := 371) (by decide +kernel)) rfl, mTb_in (List.mem_of_getElem? (i := 63) (by decide +kernel)) rfl, mTb_in (List.mem_of_getElem? (i := 372) (by decide +kernel)) rfl, by decide +kernel, by decide +kernel, by decide +kernel⟩
theorem ok_X6_turn : sMv yX6_turn cX6_turn 5 (some .int) 2 := ⟨mTb_in (List.mem_of_getElem? (i := 377) (by decide +kernel)) rfl, mTb_in (List.mem_of_getElem? (i := 378) (by decide +kernel)) rfl, mTb_in (List.mem_of_getElem? (i := 63) (by decide +kernel)) rfl, mTb_in (List.mem_of_getElem? (i := 379) (by decide +kernel)) rfl, by decide +kernel, by decide +kernel, by decide +kernel⟩
theorem ok_X6_as : sMv yX6_as cX6_as 4 (some .int) 2 := ⟨mTb_in (List.mem_of_getElem? (i := 381) (by decide +kernel)) rfl, mTb_in (List.mem_of_getElem? (i := 382) (by decide +kernel)) rfl, mTb_in (List.mem_of_getElem? (i := 63) (by decide +kernel)) rfl, mTb_in (List.mem_of_getElem? (i := 383) (by decide +kernel)) rfl, by decide +kernel, by decide +kernel, by decide +kernel⟩
theorem ok_X6_days : sMv yX6_days cX6_days 2 (some .int) 1 := ⟨mTb_in (List.mem_of_getElem? (i := 391) (by decide +kernel)) rfl, mTb_in (List.mem_of_getElem? (i := 392) (by decide +kernel)) rfl, mTb_in (List.mem_of_getElem? (i := 63) (by decide +kernel)) rfl, mTb_in (List.mem_of_getElem? (i := 393) (by decide +kernel)) rfl, by decide +kernel, by decide +kernel, by decide +kernel⟩
theorem ok_X6_now : sMv yX6_now cX6_now 2 (some .int) 1 := ⟨mTb_in (List.mem_of_getElem? (i := 424) (by decide +kernel)) rfl, mTb_in (List.mem_of_getElem? (i := 425) (by decide +kernel)) rfl, mTb_in (List.mem_of_getElem? (i := 63) (by decide +kernel)) rfl, mTb_in (List.mem_of_getElem? (i := 426) (by decide +kernel)) rfl, by decide +kernel, by decide +kernel, by decide +kernel⟩
theorem ok_X6_on : sMv yX6_on cX6_on 4 (some .int) 3 := ⟨mTb_in (List.mem_of_getElem? (i := 451) (by decide +kernel)) rfl, mTb_in (List.mem_of_getElem? (i := 452) (by decide +kernel)) rfl, mTb_in (List.mem_of_getElem? (i := 63) (by decide +kernel)) rfl, mTb_in (List.mem_of_getElem? (i := 453) (by decide +kernel)) rfl, by decide +kernel, by decide +kernel, by decide +kernel⟩
theorem ok_X6_tension : sMv yX6_tension cX6_tension 3 (some .int) 2 := ⟨mTb_in (List.mem_of_getElem? (i := 474) (by decide +kernel)) rfl, mTb_in (List.mem_of_getElem? (i := 475) (by decide +kernel)) rfl, mTb_in (List.mem_of_getElem? (i := 63) (by decide +kernel)) rfl, mTb_in (List.mem_of_getElem? (i := 476) (by decide +kernel)) rfl, by decide +kernel, by decide +kernel, by decide +kernel⟩
theorem ok_X6_home : sMv yX6_home cX6_home 3 (some .int) 1 := ⟨mTb_in (List.mem_of_getElem? (i := 478) (by decide +kernel)) rfl, mTb_in (List.mem_of_getElem? (i := 479) (by decide +kernel)) rfl, mTb_in (List.mem_of_getElem? (i := 63) (by decide +kernel)) rfl, mTb_in (List.mem_of_getElem? (i := 480) (by decide +kernel)) rfl, by decide +kernel, by decide +kernel, by decide +kernel⟩
theorem ok_X6_alike : sMv yX6_alike cX6_alike 2 (some .int) 0 := ⟨mTb_in (List.mem_of_getElem? (i := 486) (by decide +kernel)) rfl, mTb_in (List.mem_of_getElem? (i := 487) (by decide +kernel)) rfl, mTb_in (List.mem_of_getElem? (i := 63) (by decide +kernel)) rfl, mTb_in (List.mem_of_getElem? (i := 488) (by decide +kernel)) rfl, by decide +kernel, by decide +kernel, by decide +kernel⟩
theorem ok_X6_again : sMv yX6_again cX6_again 5 (some .int) 1 := ⟨mTb_in (List.mem_of_getElem? (i := 495) (by decide +kernel)) rfl, mTb_in (List.mem_of_getElem? (i := 496) (by decide +kernel)) rfl, mTb_in (List.mem_of_getElem? (i := 63) (by decide +kernel)) rfl, mTb_in (List.mem_of_getElem? (i := 497) (by decide +kernel)) rfl, by decide +kernel, by decide +kernel, by decide +kernel⟩
theorem ok_X6_key : sMv yX6_key cX6_key 3 (some .int) 1 := ⟨mTb_in (List.mem_of_getElem? (i := 501) (by decide +kernel)) rfl, mTb_in (List.mem_of_getElem? (i := 502) (by decide +kernel)) rfl, mTb_in (List.mem_of_getElem? (i := 63) (by decide +kernel)) rfl, mTb_in (List.mem_of_getElem? (i := 503) (by decide +kernel)) rfl, by decide +kernel, by decide +kernel, by decide +kernel⟩
theorem ok_X6_kind : sMv yX6_kind cX6_kind 3 (some .int) 1 := ⟨mTb_in (List.mem_of_getElem? (i := 513) (by decide +kernel)) rfl, mTb_in (List.mem_of_getElem? (i := 514) (by decide +kernel)) rfl, mTb_in (List.mem_of_getElem? (i := 63) (by decide +kernel)) rfl, mTb_in (List.mem_of_getElem? (i := 515) (by decide +kernel)) rfl, by decide +kernel, by decide +kernel, by decide +kernel⟩
theorem ok_X6_blot : sMv yX6_blot cX6_blot 4 (some .int) 2 := ⟨mTb_in (List.mem_of_getElem? (i := 517) (by decide +kernel)) rfl, mTb_in (List.mem_of_getElem? (i := 518) (by decide +kernel)) rfl, mTb_in (List.mem_of_getElem? (i := 63) (by decide +kernel)) rfl, mTb_in (List.mem_of_getElem? (i := 519) (by decide +kernel)) rfl, by decide +kernel, by decide +kernel, by decide +kernel⟩
theorem ok_X6_calm : sMv yX6_calm cX6_calm 8 (some .int) 3 := ⟨mTb_in (List.mem_of_getElem? (i := 521) (by decide +kernel)) rfl, mTb_in (List.mem_of_getElem? (i := 522) (by decide +kernel)) rfl, mTb_in (List.mem_of_getElem? (i := 63) (by decide +kernel)) rfl, mTb_in (List.mem_of_getElem? (i := 523) (by decide +kernel)) rfl, by decide +kernel, by decide +kernel, by decide +kernel⟩
theorem ok_X6_swap : sMv yX6_swap cX6_swap 6 (some .int) 0 := ⟨mTb_in (List.mem_of_getElem? (i := 525) (by decide +kernel)) rfl, mTb_in (List.mem_of_getElem? (i := 526) (by decide +kernel)) rfl, mTb_in (List.mem_of_getElem? (i := 63) (by decide +kernel)) rfl, mTb_in (List.mem_of_getElem? (i := 527) (by decide +kernel)) rfl, by decide +kernel, by decide +kernel, by decide +kernel⟩
theorem ok_X6_keys : sMv yX6_keys cX6_keys 6 (some .int) 2 := ⟨mTb_in (List.mem_of_getElem? (i := 533) (by decide +kernel)) rfl, mTb_in (List.mem_of_getElem? (i := 534) (by decide +kernel)) rfl, mTb_in (List.mem_of_getElem? (i := 63) (by decide +kernel)) rfl, mTb_in (List.mem_of_getElem? (i := 535) (by decide +kernel)) rfl, by decide +kernel, by decide +kernel, by decide +kernel⟩
theorem ok_X6_feed : sMv yX6_feed cX6_feed 4 (some .int) 2 := ⟨mTb_in (List.mem_of_getElem? (i := 537) (by decide +kernel)) rfl, mTb_in (List.mem_of_getElem? (i := 538) (by decide +kernel)) rfl, mTb_in (List.mem_of_getElem? (i := 63) (by decide +kernel)) rfl, mTb_in (List.mem_of_getElem? (i := 539) (by decide +kernel)) rfl, by decide +kernel, by decide +kernel, by decide +kernel⟩
theorem ok_X6_wipe : sMv yX6_wipe cX6_wipe 2 (some .int) 0 := ⟨mTb_in (List.mem_of_getElem? (i := 545) (by decide +kernel)) rfl, mTb_in (List.mem_of_getElem? (i := 546) (by decide +kernel)) rfl, mTb_in (List.mem_of_getElem? (i := 63) (by decide +kernel)) rfl, mTb_in (List.mem_of_getElem? (i := 547) (by decide +kernel)) rfl, by decide +kernel, by decide +kernel, by decide +kernel⟩
theorem ok_X6_affair : sMv yX6_affair cX6_affair 2 (some .int) 0 := ⟨mTb_in (List.mem_of_getElem? (i := 553) (by decide +kernel)) rfl, mTb_in (List.mem_of_getElem? (i := 554) (by decide +kernel)) rfl, mTb_in (List.mem_of_getElem? (i := 63) (by decide +kernel)) rfl, mTb_in (List.mem_of_getElem? (i := 555) (by decide +kernel)) rfl, by decide +kernel, by decide +kernel, by decide +kernel⟩
theorem ok_X6_sheet : sMv yX6_sheet cX6_sheet 5 (some .int) 3 := ⟨mTb_in (List.mem_of_getElem? (i := 675) (by decide +kernel)) rfl, mTb_in (List.mem_of_getElem? (i := 676) (by decide +kernel)) rfl, mTb_in (List.mem_of_getElem? (i := 63) (by decide +kernel)) rfl, mTb_in (List.mem_of_getElem? (i := 677) (by decide +kernel)) rfl, by decide +kernel, by decide +kernel, by decide +kernel⟩
theorem ok_X6_write : sMv yX6_write cX6_write 9 (some .long) 3 := ⟨mTb_in (List.mem_of_getElem? (i := 690) (by decide +kernel)) rfl, mTb_in (List.mem_of_getElem? (i := 691) (by decide +kernel)) rfl, mTb_in (List.mem_of_getElem? (i := 63) (by decide +kernel)) rfl, mTb_in (List.mem_of_getElem? (i := 692) (by decide +kernel)) rfl, by decide +kernel, by decide +kernel, by decide +kernel⟩
theorem ok_X6_copy : sMv yX6_copy cX6_copy 8 (some .int) 5 := ⟨mTb_in (List.mem_of_getElem? (i := 711) (by decide +kernel)) rfl, mTb_in (List.mem_of_getElem? (i := 712) (by decide +kernel)) rfl, mTb_in (List.mem_of_getElem? (i := 63) (by decide +kernel)) rfl, mTb_in (List.mem_of_getElem? (i := 713) (by decide +kernel)) rfl, by decide +kernel, by decide +kernel, by decide +kernel⟩
theorem ok_X6_lays : sMv yX6_lays cX6_lays 9 (some .int) 2 := ⟨mTb_in (List.mem_of_getElem? (i := 720) (by decide +kernel)) rfl, mTb_in (List.mem_of_getElem? (i := 721) (by decide +kernel)) rfl, mTb_in (List.mem_of_getElem? (i := 63) (by decide +kernel)) rfl, mTb_in (List.mem_of_getElem? (i := 722) (by decide +kernel)) rfl, by decide +kernel, by decide +kernel, by decide +kernel⟩
theorem ok_X6_book : sMv yX6_book cX6_book 6 (some .int) 2 := ⟨mTb_in (List.mem_of_getElem? (i := 729) (by decide +kernel)) rfl, mTb_in (List.mem_of_getElem? (i := 730) (by decide +kernel)) rfl, mTb_in (List.mem_of_getElem? (i := 63) (by decide +kernel)) rfl, mTb_in (List.mem_of_getElem? (i := 731) (by decide +kernel)) rfl, by decide +kernel, by decide +kernel, by decide +kernel⟩
theorem ok_X6_read : sMv yX6_read cX6_read 8 (some .int) 2 := ⟨mTb_in (List.mem_of_getElem? (i := 733) (by decide +kernel)) rfl, mTb_in (List.mem_of_getElem? (i := 734) (by decide +kernel)) rfl, mTb_in (List.mem_of_getElem? (i := 63) (by decide +kernel)) rfl, mTb_in (List.mem_of_getElem? (i := 735) (by decide +kernel)) rfl, by decide +kernel, by decide +kernel, by decide +kernel⟩
theorem ok_X6_image : sMv yX6_image cX6_image 1 (some .int) 0 := ⟨mTb_in (List.mem_of_getElem? (i := 741) (by decide +kernel)) rfl, mTb_in (List.mem_of_getElem? (i := 742) (by decide +kernel)) rfl, mTb_in (List.mem_of_getElem? (i := 63) (by decide +kernel)) rfl, mTb_in (List.mem_of_getElem? (i := 743) (by decide +kernel)) rfl, by decide +kernel, by decide +kernel, by decide +kernel⟩
theorem ok_X6_undo : sMv yX6_undo cX6_undo 1 (some .int) 0 := ⟨mTb_in (List.mem_of_getElem? (i := 745) (by decide +kernel)) rfl, mTb_in (List.mem_of_getElem? (i := 746) (by decide +kernel)) rfl, mTb_in (List.mem_of_getElem? (i := 63) (by decide +kernel)) rfl, mTb_in (List.mem_of_getElem? (i := 747) (by decide +kernel)) rfl, by decide +kernel, by decide +kernel, by decide +kernel⟩
theorem ok_X6_tear : sMv yX6_tear cX6_tear 2 (some .int) 0 := ⟨mTb_in (List.mem_of_getElem? (i := 749) (by decide +kernel)) rfl, mTb_in (List.mem_of_getElem? (i := 750) (by decide +kernel)) rfl, mTb_in (List.mem_of_getElem? (i := 63) (by decide +kernel)) rfl, mTb_in (List.mem_of_getElem? (i := 751) (by decide +kernel)) rfl, by decide +kernel, by decide +kernel, by decide +kernel⟩
theorem ok_X6_count : sMv yX6_count cX6_count 2 (some .int) 1 := ⟨mTb_in (List.mem_of_getElem? (i := 753) (by decide +kernel)) rfl, mTb_in (List.mem_of_getElem? (i := 754) (by decide +kernel)) rfl, mTb_in (List.mem_of_getElem? (i := 63) (by decide +kernel)) rfl, mTb_in (List.mem_of_getElem? (i := 755) (by decide +kernel)) rfl, by decide +kernel, by decide +kernel, by decide +kernel⟩
theorem ok_X6_status : sMv yX6_status cX6_status 4 (some .int) 1 := ⟨mTb_in (List.mem_of_getElem? (i := 771) (by decide +kernel)) rfl, mTb_in (List.mem_of_getElem? (i := 772) (by decide +kernel)) rfl, mTb_in (List.mem_of_getElem? (i := 63) (by decide +kernel)) rfl, mTb_in (List.mem_of_getElem? (i := 773) (by decide +kernel)) rfl, by decide +kernel, by decide +kernel, by decide +kernel⟩
theorem ok_X6_found : sMv yX6_found cX6_found 3 (some .int) 1 := ⟨mTb_in (List.mem_of_getElem? (i := 259) (by decide +kernel)) rfl, mTb_in (List.mem_of_getElem? (i := 0) (by decide +kernel)) rfl, mTb_in (List.mem_of_getElem? (i := 63) (by decide +kernel)) rfl, mTb_in (List.mem_of_getElem? (i := 260) (by decide +kernel)) rfl, by decide +kernel, by decide +kernel, by decide +kernel⟩
theorem ok_X6_toneOrNone : sMv yX6_toneOrNone cX6_toneOrNone 3 (some .int) 2 := ⟨mTb_in (List.mem_of_getElem? (i := 280) (by decide +kernel)) rfl, mTb_in (List.mem_of_getElem? (i := 1) (by decide +kernel)) rfl, mTb_in (List.mem_of_getElem? (i := 63) (by decide +kernel)) rfl, mTb_in (List.mem_of_getElem? (i := 281) (by decide +kernel)) rfl, by decide +kernel, by decide +kernel, by decide +kernel⟩
theorem ok_X6_startTrial : sMv yX6_startTrial cX6_startTrial 1 none 0 := ⟨mTb_in (List.mem_of_getElem? (i := 456) (by decide +kernel)) rfl, mTb_in (List.mem_of_getElem? (i := 4) (by decide +kernel)) rfl, mTb_in (List.mem_of_getElem? (i := 63) (by decide +kernel)) rfl, mTb_in (List.mem_of_getElem? (i := 457) (by decide +kernel)) rfl, by decide +kernel, by decide +kernel, by decide +kernel⟩
theorem ok_X6_soonestHome : sMv yX6_soonestHome cX6_soonestHome 10 (some .int) 5 := ⟨mTb_in (List.mem_of_getElem? (i := 506) (by decide +kernel)) rfl, mTb_in (List.mem_of_getElem? (i := 5) (by decide +kernel)) rfl, mTb_in (List.mem_of_getElem? (i := 63) (by decide +kernel)) rfl, mTb_in (List.mem_of_getElem? (i := 507) (by decide +kernel)) rfl, by decide +kernel, by decide +kernel, by decide +kernel⟩
theorem ok_X6_startTrialSwapped : sMv yX6_startTrialSwapped cX6_startTrialSwapped 5 (some .boolean) 2 := ⟨mTb_in (List.mem_of_getElem? (i := 530) (by decide +kernel)) rfl, mTb_in (List.mem_of_getElem? (i := 6) (by decide +kernel)) rfl, mTb_in (List.mem_of_getElem? (i := 63) (by decide +kernel)) rfl, mTb_in (List.mem_of_getElem? (i := 531) (by decide +kernel)) rfl, by decide +kernel, by decide +kernel, by decide +kernel⟩
theorem ok_X6_isJustWritten : sMv yX6_isJustWritten cX6_isJustWritten 5 (some .boolean) 2 := ⟨mTb_in (List.mem_of_getElem? (i := 738) (by decide +kernel)) rfl, mTb_in (List.mem_of_getElem? (i := 19) (by decide +kernel)) rfl, mTb_in (List.mem_of_getElem? (i := 63) (by decide +kernel)) rfl, mTb_in (List.mem_of_getElem? (i := 739) (by decide +kernel)) rfl, by decide +kernel, by decide +kernel, by decide +kernel⟩
theorem ok_X6_faultOfSheet : sMv yX6_faultOfSheet cX6_faultOfSheet 2 (some .int) 1 := ⟨mTb_in (List.mem_of_getElem? (i := 695) (by decide +kernel)) rfl, mTb_in (List.mem_of_getElem? (i := 16) (by decide +kernel)) rfl, mTb_in (List.mem_of_getElem? (i := 63) (by decide +kernel)) rfl, mTb_in (List.mem_of_getElem? (i := 696) (by decide +kernel)) rfl, by decide +kernel, by decide +kernel, by decide +kernel⟩
theorem ok_X6_faultOfSheetAndSide : sMv yX6_faultOfSheetAndSide cX6_faultOfSheetAndSide 4 (some .int) 2 := ⟨mTb_in (List.mem_of_getElem? (i := 725) (by decide +kernel)) rfl, mTb_in (List.mem_of_getElem? (i := 18) (by decide +kernel)) rfl, mTb_in (List.mem_of_getElem? (i := 63) (by decide +kernel)) rfl, mTb_in (List.mem_of_getElem? (i := 726) (by decide +kernel)) rfl, by decide +kernel, by decide +kernel, by decide +kernel⟩
theorem ok_X6_mostToSet : sMs yX6_mostToSet cX6_mostToSet 1 (some .int) 1 := ⟨mTb_in (List.mem_of_getElem? (i := 374) (by decide +kernel)) rfl, mTb_in (List.mem_of_getElem? (i := 63) (by decide +kernel)) rfl, mTb_in (List.mem_of_getElem? (i := 375) (by decide +kernel)) rfl, by decide +kernel, by decide +kernel, by decide +kernel⟩
theorem ok_X6_isWithin : sMs yX6_isWithin cX6_isWithin 3 (some .boolean) 3 := ⟨mTb_in (List.mem_of_getElem? (i := 254) (by decide +kernel)) rfl, mTb_in (List.mem_of_getElem? (i := 63) (by decide +kernel)) rfl, mTb_in (List.mem_of_getElem? (i := 255) (by decide +kernel)) rfl, by decide +kernel, by decide +kernel, by decide +kernel⟩
theorem ok_X6_isSide : sMs yX6_isSide cX6_isSide 1 (some .boolean) 1 := ⟨mTb_in (List.mem_of_getElem? (i := 251) (by decide +kernel)) rfl, mTb_in (List.mem_of_getElem? (i := 63) (by decide +kernel)) rfl, mTb_in (List.mem_of_getElem? (i := 252) (by decide +kernel)) rfl, by decide +kernel, by decide +kernel, by decide +kernel⟩
theorem ok_X6_isKind : sMs yX6_isKind cX6_isKind 1 (some .boolean) 1 := ⟨mTb_in (List.mem_of_getElem? (i := 321) (by decide +kernel)) rfl, mTb_in (List.mem_of_getElem? (i := 63) (by decide +kernel)) rfl, mTb_in (List.mem_of_getElem? (i := 322) (by decide +kernel)) rfl, by decide +kernel, by decide +kernel, by decide +kernel⟩
theorem ok_X6_isSheet : sMs yX6_isSheet cX6_isSheet 1 (some .boolean) 1 := ⟨mTb_in (List.mem_of_getElem? (i := 679) (by decide +kernel)) rfl, mTb_in (List.mem_of_getElem? (i := 63) (by decide +kernel)) rfl, mTb_in (List.mem_of_getElem? (i := 680) (by decide +kernel)) rfl, by decide +kernel, by decide +kernel, by decide +kernel⟩
theorem ok_X6_isBits : sMs yX6_isBits cX6_isBits 1 (some .boolean) 1 := ⟨mTb_in (List.mem_of_getElem? (i := 682) (by decide +kernel)) rfl, mTb_in (List.mem_of_getElem? (i := 63) (by decide +kernel)) rfl, mTb_in (List.mem_of_getElem? (i := 683) (by decide +kernel)) rfl, by decide +kernel, by decide +kernel, by decide +kernel⟩
theorem ok_X6_isOfKind : sMs yX6_isOfKind cX6_isOfKind 4 (some .boolean) 2 := ⟨mTb_in (List.mem_of_getElem? (i := 385) (by decide +kernel)) rfl, mTb_in (List.mem_of_getElem? (i := 63) (by decide +kernel)) rfl, mTb_in (List.mem_of_getElem? (i := 386) (by decide +kernel)) rfl, by decide +kernel, by decide +kernel, by decide +kernel⟩
theorem ok_X7_finding : sMv yX7_finding cX7_finding 2 (some .int) 1 := ⟨mTb_in (List.mem_of_getElem? (i := 883) (by decide +kernel)) rfl, mTb_in (List.mem_of_getElem? (i := 22) (by decide +kernel)) rfl, mTb_in (List.mem_of_getElem? (i := 70) (by decide +kernel)) rfl, mTb_in (List.mem_of_getElem? (i := 884) (by decide +kernel)) rfl, by decide +kernel, by decide +kernel, by decide +kernel⟩
theorem ok_X7_within : sMs yX7_within cX7_within 3 (some .boolean) 3 := ⟨mTb_in (List.mem_of_getElem? (i := 869) (by decide +kernel)) rfl, mTb_in (List.mem_of_getElem? (i := 70) (by decide +kernel)) rfl, mTb_in (List.mem_of_getElem? (i := 870) (by decide +kernel)) rfl, by decide +kernel, by decide +kernel, by decide +kernel⟩
theorem ok_X7_become : sMv yX7_become cX7_become 4 (some .int) 2 := ⟨mTb_in (List.mem_of_getElem? (i := 878) (by decide +kernel)) rfl, mTb_in (List.mem_of_getElem? (i := 21) (by decide +kernel)) rfl, mTb_in (List.mem_of_getElem? (i := 70) (by decide +kernel)) rfl, mTb_in (List.mem_of_getElem? (i := 879) (by decide +kernel)) rfl, by decide +kernel, by decide +kernel, by decide +kernel⟩
theorem ok_X7_copyRow : sMs yX7_copyRow cX7_copyRow 3 none 2 := ⟨mTb_in (List.mem_of_getElem? (i := 1021) (by decide +kernel)) rfl, mTb_in (List.mem_of_getElem? (i := 70) (by decide +kernel)) rfl, mTb_in (List.mem_of_getElem? (i := 1022) (by decide +kernel)) rfl, by decide +kernel, by decide +kernel, by decide +kernel⟩
theorem ok_X7_putBack : sMv yX7_putBack cX7_putBack 2 (some .int) 1 := ⟨mTb_in (List.mem_of_getElem? (i := 1025) (by decide +kernel)) rfl, mTb_in (List.mem_of_getElem? (i := 41) (by decide +kernel)) rfl, mTb_in (List.mem_of_getElem? (i := 70) (by decide +kernel)) rfl, mTb_in (List.mem_of_getElem? (i := 1026) (by decide +kernel)) rfl, by decide +kernel, by decide +kernel, by decide +kernel⟩
theorem ok_X7_orNone : sMv yX7_orNone cX7_orNone 2 (some .int) 1 := ⟨mTb_in (List.mem_of_getElem? (i := 1029) (by decide +kernel)) rfl, mTb_in (List.mem_of_getElem? (i := 42) (by decide +kernel)) rfl, mTb_in (List.mem_of_getElem? (i := 70) (by decide +kernel)) rfl, mTb_in (List.mem_of_getElem? (i := 1030) (by decide +kernel)) rfl, by decide +kernel, by decide +kernel, by decide +kernel⟩
theorem ok_X7_bits : sMs yX7_bits cX7_bits 3 (some .int) 1 := ⟨mTb_in (List.mem_of_getElem? (i := 1218) (by decide +kernel)) rfl, mTb_in (List.mem_of_getElem? (i := 70) (by decide +kernel)) rfl, mTb_in (List.mem_of_getElem? (i := 1219) (by decide +kernel)) rfl, by decide +kernel, by decide +kernel, by decide +kernel⟩
theorem ok_X7_isSide : sMs yX7_isSide cX7_isSide 1 (some .boolean) 1 := ⟨mTb_in (List.mem_of_getElem? (i := 866) (by decide +kernel)) rfl, mTb_in (List.mem_of_getElem? (i := 70) (by decide +kernel)) rfl, mTb_in (List.mem_of_getElem? (i := 867) (by decide +kernel)) rfl, by decide +kernel, by decide +kernel, by decide +kernel⟩
theorem ok_X7_length : sMv yX7_length cX7_length 2 (some .int) 1 := ⟨mTb_in (List.mem_of_getElem? (i := 891) (by decide +kernel)) rfl, mTb_in (List.mem_of_getElem? (i := 23) (by decide +kernel)) rfl, mTb_in (List.mem_of_getElem? (i := 70) (by decide +kernel)) rfl, mTb_in (List.mem_of_getElem? (i := 892) (by decide +kernel)) rfl, by decide +kernel, by decide +kernel, by decide +kernel⟩
theorem ok_X7_toneOf : sMv yX7_toneOf cX7_toneOf 3 (some .int) 2 := ⟨mTb_in (List.mem_of_getElem? (i := 895) (by decide +kernel)) rfl, mTb_in (List.mem_of_getElem? (i := 24) (by decide +kernel)) rfl, mTb_in (List.mem_of_getElem? (i := 70) (by decide +kernel)) rfl, mTb_in (List.mem_of_getElem? (i := 896) (by decide +kernel)) rfl, by decide +kernel, by decide +kernel, by decide +kernel⟩
theorem ok_X7_laysTune : sMv yX7_laysTune cX7_laysTune 6 (some .int) 3 := ⟨mTb_in (List.mem_of_getElem? (i := 873) (by decide +kernel)) rfl, mTb_in (List.mem_of_getElem? (i := 20) (by decide +kernel)) rfl, mTb_in (List.mem_of_getElem? (i := 70) (by decide +kernel)) rfl, mTb_in (List.mem_of_getElem? (i := 874) (by decide +kernel)) rfl, by decide +kernel, by decide +kernel, by decide +kernel⟩
theorem ok_X7_tune : sMv yX7_tune cX7_tune 5 (some .int) 3 := ⟨mTb_in (List.mem_of_getElem? (i := 862) (by decide +kernel)) rfl, mTb_in (List.mem_of_getElem? (i := 863) (by decide +kernel)) rfl, mTb_in (List.mem_of_getElem? (i := 70) (by decide +kernel)) rfl, mTb_in (List.mem_of_getElem? (i := 864) (by decide +kernel)) rfl, by decide +kernel, by decide +kernel, by decide +kernel⟩
theorem ok_X7_tone : sMv yX7_tone cX7_tone 3 (some .int) 2 := ⟨mTb_in (List.mem_of_getElem? (i := 886) (by decide +kernel)) rfl, mTb_in (List.mem_of_getElem? (i := 887) (by decide +kernel)) rfl, mTb_in (List.mem_of_getElem? (i := 70) (by decide +kernel)) rfl, mTb_in (List.mem_of_getElem? (i := 888) (by decide +kernel)) rfl, by decide +kernel, by decide +kernel, by decide +kernel⟩
theorem ok_X7_tensionOf : sMv yX7_tensionOf cX7_tensionOf 5 (some .int) 1 := ⟨mTb_in (List.mem_of_getElem? (i := 904) (by decide +kernel)) rfl, mTb_in (List.mem_of_getElem? (i := 25) (by decide +kernel)) rfl, mTb_in (List.mem_of_getElem? (i := 70) (by decide +kernel)) rfl, mTb_in (List.mem_of_getElem? (i := 905) (by decide +kernel)) rfl, by decide +kernel, by decide +kernel, by decide +kernel⟩
theorem ok_X7_isHome : sMv yX7_isHome cX7_isHome 2 (some .boolean) 1 := ⟨mTb_in (List.mem_of_getElem? (i := 910) (by decide +kernel)) rfl, mTb_in (List.mem_of_getElem? (i := 26) (by decide +kernel)) rfl, mTb_in (List.mem_of_getElem? (i := 70) (by decide +kernel)) rfl, mTb_in (List.mem_of_getElem? (i := 911) (by decide +kernel)) rfl, by decide +kernel, by decide +kernel, by decide +kernel⟩
theorem ok_X7_tonesIn : sMv yX7_tonesIn cX7_tonesIn 4 (some .int) 1 := ⟨mTb_in (List.mem_of_getElem? (i := 914) (by decide +kernel)) rfl, mTb_in (List.mem_of_getElem? (i := 27) (by decide +kernel)) rfl, mTb_in (List.mem_of_getElem? (i := 70) (by decide +kernel)) rfl, mTb_in (List.mem_of_getElem? (i := 915) (by decide +kernel)) rfl, by decide +kernel, by decide +kernel, by decide +kernel⟩
theorem ok_X7_unlikeNow : sMv yX7_unlikeNow cX7_unlikeNow 4 (some .int) 0 := ⟨mTb_in (List.mem_of_getElem? (i := 1010) (by decide +kernel)) rfl, mTb_in (List.mem_of_getElem? (i := 40) (by decide +kernel)) rfl, mTb_in (List.mem_of_getElem? (i := 70) (by decide +kernel)) rfl, mTb_in (List.mem_of_getElem? (i := 1011) (by decide +kernel)) rfl, by decide +kernel, by decide +kernel, by decide +kernel⟩
theorem ok_X7_areAlike : sMv yX7_areAlike cX7_areAlike 1 (some .boolean) 0 := ⟨mTb_in (List.mem_of_getElem? (i := 1006) (by decide +kernel)) rfl, mTb_in (List.mem_of_getElem? (i := 39) (by decide +kernel)) rfl, mTb_in (List.mem_of_getElem? (i := 70) (by decide +kernel)) rfl, mTb_in (List.mem_of_getElem? (i := 1007) (by decide +kernel)) rfl, by decide +kernel, by decide +kernel, by decide +kernel⟩
theorem ok_X7_manyOf : sMv yX7_manyOf cX7_manyOf 4 (some .int) 1 := ⟨mTb_in (List.mem_of_getElem? (i := 918) (by decide +kernel)) rfl, mTb_in (List.mem_of_getElem? (i := 28) (by decide +kernel)) rfl, mTb_in (List.mem_of_getElem? (i := 70) (by decide +kernel)) rfl, mTb_in (List.mem_of_getElem? (i := 919) (by decide +kernel)) rfl, by decide +kernel, by decide +kernel, by decide +kernel⟩
theorem ok_X7_side : sMv yX7_side cX7_side 3 (some .int) 2 := ⟨mTb_in (List.mem_of_getElem? (i := 899) (by decide +kernel)) rfl, mTb_in (List.mem_of_getElem? (i := 900) (by decide +kernel)) rfl, mTb_in (List.mem_of_getElem? (i := 70) (by decide +kernel)) rfl, mTb_in (List.mem_of_getElem? (i := 901) (by decide +kernel)) rfl, by decide +kernel, by decide +kernel, by decide +kernel⟩
theorem ok_X7_isAttache : sMv yX7_isAttache cX7_isAttache 2 (some .boolean) 1 := ⟨mTb_in (List.mem_of_getElem? (i := 945) (by decide +kernel)) rfl, mTb_in (List.mem_of_getElem? (i := 31) (by decide +kernel)) rfl, mTb_in (List.mem_of_getElem? (i := 70) (by decide +kernel)) rfl, mTb_in (List.mem_of_getElem? (i := 946) (by decide +kernel)) rfl, by decide +kernel, by decide +kernel, by decide +kernel⟩
theorem ok_X7_attacheAt : sMs yX7_attacheAt cX7_attacheAt 2 (some .int) 2 := ⟨mTb_in (List.mem_of_getElem? (i := 925) (by decide +kernel)) rfl, mTb_in (List.mem_of_getElem? (i := 70) (by decide +kernel)) rfl, mTb_in (List.mem_of_getElem? (i := 926) (by decide +kernel)) rfl, by decide +kernel, by decide +kernel, by decide +kernel⟩
theorem ok_X7_attacheIs : sMv yX7_attacheIs cX7_attacheIs 3 (some .int) 2 := ⟨mTb_in (List.mem_of_getElem? (i := 922) (by decide +kernel)) rfl, mTb_in (List.mem_of_getElem? (i := 29) (by decide +kernel)) rfl, mTb_in (List.mem_of_getElem? (i := 70) (by decide +kernel)) rfl, mTb_in (List.mem_of_getElem? (i := 923) (by decide +kernel)) rfl, by decide +kernel, by decide +kernel, by decide +kernel⟩
theorem ok_X7_isKind : sMs yX7_isKind cX7_isKind 1 (some .boolean) 1 := ⟨mTb_in (List.mem_of_getElem? (i := 932) (by decide +kernel)) rfl, mTb_in (List.mem_of_getElem? (i := 70) (by decide +kernel)) rfl, mTb_in (List.mem_of_getElem? (i := 933) (by decide +kernel)) rfl, by decide +kernel, by decide +kernel, by decide +kernel⟩
theorem ok_X7_isTone : sMs yX7_isTone cX7_isTone 2 (some .boolean) 1 := ⟨mTb_in (List.mem_of_getElem? (i := 1154) (by decide +kernel)) rfl, mTb_in (List.mem_of_getElem? (i := 70) (by decide +kernel)) rfl, mTb_in (List.mem_of_getElem? (i := 1155) (by decide +kernel)) rfl, by decide +kernel, by decide +kernel, by decide +kernel⟩
theorem ok_X7_comes : sMv yX7_comes cX7_comes 6 (some .int) 4 := ⟨mTb_in (List.mem_of_getElem? (i := 937) (by decide +kernel)) rfl, mTb_in (List.mem_of_getElem? (i := 30) (by decide +kernel)) rfl, mTb_in (List.mem_of_getElem? (i := 70) (by decide +kernel)) rfl, mTb_in (List.mem_of_getElem? (i := 938) (by decide +kernel)) rfl, by decide +kernel, by decide +kernel, by decide +kernel⟩
theorem ok_X7_attache : sMv yX7_attache cX7_attache 3 (some .int) 2 := ⟨mTb_in (List.mem_of_getElem? (i := 928) (by decide +kernel)) rfl, mTb_in (List.mem_of_getElem? (i := 929) (by decide +kernel)) rfl, mTb_in (List.mem_of_getElem? (i := 70) (by decide +kernel)) rfl, mTb_in (List.mem_of_getElem? (i := 930) (by decide +kernel)) rfl, by decide +kernel, by decide +kernel, by decide +kernel⟩
theorem ok_X7_longOf : sMs yX7_longOf cX7_longOf 2 (some .int) 2 := ⟨mTb_in (List.mem_of_getElem? (i := 952) (by decide +kernel)) rfl, mTb_in (List.mem_of_getElem? (i := 70) (by decide +kernel)) rfl, mTb_in (List.mem_of_getElem? (i := 953) (by decide +kernel)) rfl, by decide +kernel, by decide +kernel, by decide +kernel⟩
theorem ok_X7_answers : sMv yX7_answers cX7_answers 8 (some .int) 5 := ⟨mTb_in (List.mem_of_getElem? (i := 964) (by decide +kernel)) rfl, mTb_in (List.mem_of_getElem? (i := 34) (by decide +kernel)) rfl, mTb_in (List.mem_of_getElem? (i := 70) (by decide +kernel)) rfl, mTb_in (List.mem_of_getElem? (i := 965) (by decide +kernel)) rfl, by decide +kernel, by decide +kernel, by decide +kernel⟩
theorem ok_X7_answerAt : sMv yX7_answerAt cX7_answerAt 3 (some .int) 2 := ⟨mTb_in (List.mem_of_getElem? (i := 960) (by decide +kernel)) rfl, mTb_in (List.mem_of_getElem? (i := 33) (by decide +kernel)) rfl, mTb_in (List.mem_of_getElem? (i := 70) (by decide +kernel)) rfl, mTb_in (List.mem_of_getElem? (i := 961) (by decide +kernel)) rfl, by decide +kernel, by decide +kernel, by decide +kernel⟩
theorem ok_X7_longNow : sMv yX7_longNow cX7_longNow 2 (some .int) 1 := ⟨mTb_in (List.mem_of_getElem? (i := 949) (by decide +kernel)) rfl, mTb_in (List.mem_of_getElem? (i := 32) (by decide +kernel)) rfl, mTb_in (List.mem_of_getElem? (i := 70) (by decide +kernel)) rfl, mTb_in (List.mem_of_getElem? (i := 950) (by decide +kernel)) rfl, by decide +kernel, by decide +kernel, by decide +kernel⟩
theorem ok_X7_of : sMv yX7_of cX7_of 3 (some .int) 2 := ⟨mTb_in (List.mem_of_getElem? (i := 940) (by decide +kernel)) rfl, mTb_in (List.mem_of_getElem? (i := 941) (by decide +kernel)) rfl, mTb_in (List.mem_of_getElem? (i := 70) (by decide +kernel)) rfl, mTb_in (List.mem_of_getElem? (i := 942) (by decide +kernel)) rfl, by decide +kernel, by decide +kernel, by decide +kernel⟩
theorem ok_X7_answer : sMv yX7_answer cX7_answer 3 (some .int) 2 := ⟨mTb_in (List.mem_of_getElem? (i := 955) (by decide +kernel)) rfl, mTb_in (List.mem_of_getElem? (i := 956) (by decide +kernel)) rfl, mTb_in (List.mem_of_getElem? (i := 70) (by decide +kernel)) rfl, mTb_in (List.mem_of_getElem? (i := 957) (by decide +kernel)) rfl, by decide +kernel, by decide +kernel, by decide +kernel⟩
theorem ok_X7_set : sMv yX7_set cX7_set 5 (some .int) 3 := ⟨mTb_in (List.mem_of_getElem? (i := 967) (by decide +kernel)) rfl, mTb_in (List.mem_of_getElem? (i := 968) (by decide +kernel)) rfl, mTb_in (List.mem_of_getElem? (i := 70) (by decide +kernel)) rfl, mTb_in (List.mem_of_getElem? (i := 969) (by decide +kernel)) rfl, by decide +kernel, by decide +kernel, by decide +kernel⟩
theorem ok_X7_turn : sMv yX7_turn cX7_turn 3 (some .int) 2 := ⟨mTb_in (List.mem_of_getElem? (i := 971) (by decide +kernel)) rfl, mTb_in (List.mem_of_getElem? (i := 972) (by decide +kernel)) rfl, mTb_in (List.mem_of_getElem? (i := 70) (by decide +kernel)) rfl, mTb_in (List.mem_of_getElem? (i := 973) (by decide +kernel)) rfl, by decide +kernel, by decide +kernel, by decide +kernel⟩
theorem ok_X7_as : sMv yX7_as cX7_as 5 (some .int) 2 := ⟨mTb_in (List.mem_of_getElem? (i := 975) (by decide +kernel)) rfl, mTb_in (List.mem_of_getElem? (i := 976) (by decide +kernel)) rfl, mTb_in (List.mem_of_getElem? (i := 70) (by decide +kernel)) rfl, mTb_in (List.mem_of_getElem? (i := 977) (by decide +kernel)) rfl, by decide +kernel, by decide +kernel, by decide +kernel⟩
theorem ok_X7_whose : sMv yX7_whose cX7_whose 5 (some .int) 0 := ⟨mTb_in (List.mem_of_getElem? (i := 994) (by decide +kernel)) rfl, mTb_in (List.mem_of_getElem? (i := 37) (by decide +kernel)) rfl, mTb_in (List.mem_of_getElem? (i := 70) (by decide +kernel)) rfl, mTb_in (List.mem_of_getElem? (i := 995) (by decide +kernel)) rfl, by decide +kernel, by decide +kernel, by decide +kernel⟩
theorem ok_X7_writes : sMv yX7_writes cX7_writes 5 none 1 := ⟨mTb_in (List.mem_of_getElem? (i := 998) (by decide +kernel)) rfl, mTb_in (List.mem_of_getElem? (i := 38) (by decide +kernel)) rfl, mTb_in (List.mem_of_getElem? (i := 70) (by decide +kernel)) rfl, mTb_in (List.mem_of_getElem? (i := 999) (by decide +kernel)) rfl, by decide +kernel, by decide +kernel, by decide +kernel⟩
theorem ok_X7_day : sMv yX7_day cX7_day 2 none 0 := ⟨mTb_in (List.mem_of_getElem? (i := 990) (by decide +kernel)) rfl, mTb_in (List.mem_of_getElem? (i := 36) (by decide +kernel)) rfl, mTb_in (List.mem_of_getElem? (i := 70) (by decide +kernel)) rfl, mTb_in (List.mem_of_getElem? (i := 991) (by decide +kernel)) rfl, by decide +kernel, by decide +kernel, by decide +kernel⟩
theorem ok_X7_daysGo : sMv yX7_daysGo cX7_daysGo 3 none 1 := ⟨mTb_in (List.mem_of_getElem? (i := 986) (by decide +kernel)) rfl, mTb_in (List.mem_of_getElem? (i := 35) (by decide +kernel)) rfl, mTb_in (List.mem_of_getElem? (i := 70) (by decide +kernel)) rfl, mTb_in (List.mem_of_getElem? (i := 987) (by decide +kernel)) rfl, by decide +kernel, by decide +kernel, by decide +kernel⟩
theorem ok_X7_days : sMv yX7_days cX7_days 2 (some .int) 1 := ⟨mTb_in (List.mem_of_getElem? (i := 980) (by decide +kernel)) rfl, mTb_in (List.mem_of_getElem? (i := 981) (by decide +kernel)) rfl, mTb_in (List.mem_of_getElem? (i := 70) (by decide +kernel)) rfl, mTb_in (List.mem_of_getElem? (i := 982) (by decide +kernel)) rfl, by decide +kernel, by decide +kernel, by decide +kernel⟩
theorem ok_X7_now : sMv yX7_now cX7_now 2 (some .int) 1 := ⟨mTb_in (List.mem_of_getElem? (i := 1001) (by decide +kernel)) rfl, mTb_in (List.mem_of_getElem? (i := 1002) (by decide +kernel)) rfl, mTb_in (List.mem_of_getElem? (i := 70) (by decide +kernel)) rfl, mTb_in (List.mem_of_getElem? (i := 1003) (by decide +kernel)) rfl, by decide +kernel, by decide +kernel, by decide +kernel⟩
theorem ok_X7_isOn : sMs yX7_isOn cX7_isOn 1 (some .boolean) 1 := ⟨mTb_in (List.mem_of_getElem? (i := 1018) (by decide +kernel)) rfl, mTb_in (List.mem_of_getElem? (i := 70) (by decide +kernel)) rfl, mTb_in (List.mem_of_getElem? (i := 1019) (by decide +kernel)) rfl, by decide +kernel, by decide +kernel, by decide +kernel⟩
theorem ok_X7_on : sMv yX7_on cX7_on 4 (some .int) 3 := ⟨mTb_in (List.mem_of_getElem? (i := 1014) (by decide +kernel)) rfl, mTb_in (List.mem_of_getElem? (i := 1015) (by decide +kernel)) rfl, mTb_in (List.mem_of_getElem? (i := 70) (by decide +kernel)) rfl, mTb_in (List.mem_of_getElem? (i := 1016) (by decide +kernel)) rfl, by decide +kernel, by decide +kernel, by decide +kernel⟩
theorem ok_X7_tensionOn : sMv yX7_tensionOn cX7_tensionOn 3 (some .int) 2 := ⟨mTb_in (List.mem_of_getElem? (i := 1037) (by decide +kernel)) rfl, mTb_in (List.mem_of_getElem? (i := 43) (by decide +kernel)) rfl, mTb_in (List.mem_of_getElem? (i := 70) (by decide +kernel)) rfl, mTb_in (List.mem_of_getElem? (i := 1038) (by decide +kernel)) rfl, by decide +kernel, by decide +kernel, by decide +kernel⟩
theorem ok_X7_tension : sMv yX7_tension cX7_tension 3 (some .int) 2 := ⟨mTb_in (List.mem_of_getElem? (i := 1032) (by decide +kernel)) rfl, mTb_in (List.mem_of_getElem? (i := 1033) (by decide +kernel)) rfl, mTb_in (List.mem_of_getElem? (i := 70) (by decide +kernel)) rfl, mTb_in (List.mem_of_getElem? (i := 1034) (by decide +kernel)) rfl, by decide +kernel, by decide +kernel, by decide +kernel⟩
theorem ok_X7_soonest : sMv yX7_soonest cX7_soonest 5 (some .int) 2 := ⟨mTb_in (List.mem_of_getElem? (i := 1045) (by decide +kernel)) rfl, mTb_in (List.mem_of_getElem? (i := 44) (by decide +kernel)) rfl, mTb_in (List.mem_of_getElem? (i := 70) (by decide +kernel)) rfl, mTb_in (List.mem_of_getElem? (i := 1046) (by decide +kernel)) rfl, by decide +kernel, by decide +kernel, by decide +kernel⟩
theorem ok_X7_home : sMv yX7_home cX7_home 2 (some .int) 1 := ⟨mTb_in (List.mem_of_getElem? (i := 1040) (by decide +kernel)) rfl, mTb_in (List.mem_of_getElem? (i := 1041) (by decide +kernel)) rfl, mTb_in (List.mem_of_getElem? (i := 70) (by decide +kernel)) rfl, mTb_in (List.mem_of_getElem? (i := 1042) (by decide +kernel)) rfl, by decide +kernel, by decide +kernel, by decide +kernel⟩
theorem ok_X7_alike : sMv yX7_alike cX7_alike 1 (some .int) 0 := ⟨mTb_in (List.mem_of_getElem? (i := 1048) (by decide +kernel)) rfl, mTb_in (List.mem_of_getElem? (i := 1049) (by decide +kernel)) rfl, mTb_in (List.mem_of_getElem? (i := 70) (by decide +kernel)) rfl, mTb_in (List.mem_of_getElem? (i := 1050) (by decide +kernel)) rfl, by decide +kernel, by decide +kernel, by decide +kernel⟩
theorem ok_X7_isAsAside : sMv yX7_isAsAside cX7_isAsAside 4 (some .boolean) 1 := ⟨mTb_in (List.mem_of_getElem? (i := 1057) (by decide +kernel)) rfl, mTb_in (List.mem_of_getElem? (i := 45) (by decide +kernel)) rfl, mTb_in (List.mem_of_getElem? (i := 70) (by decide +kernel)) rfl, mTb_in (List.mem_of_getElem? (i := 1058) (by decide +kernel)) rfl, by decide +kernel, by decide +kernel, by decide +kernel⟩
theorem ok_X7_again : sMv yX7_again cX7_again 6 (some .int) 1 := ⟨mTb_in (List.mem_of_getElem? (i := 1052) (by decide +kernel)) rfl, mTb_in (List.mem_of_getElem? (i := 1053) (by decide +kernel)) rfl, mTb_in (List.mem_of_getElem? (i := 70) (by decide +kernel)) rfl, mTb_in (List.mem_of_getElem? (i := 1054) (by decide +kernel)) rfl, by decide +kernel, by decide +kernel, by decide +kernel⟩
theorem ok_X7_bestOf : sMv yX7_bestOf cX7_bestOf 11 (some .int) 3 := ⟨mTb_in (List.mem_of_getElem? (i := 1065) (by decide +kernel)) rfl, mTb_in (List.mem_of_getElem? (i := 46) (by decide +kernel)) rfl, mTb_in (List.mem_of_getElem? (i := 70) (by decide +kernel)) rfl, mTb_in (List.mem_of_getElem? (i := 1066) (by decide +kernel)) rfl, by decide +kernel, by decide +kernel, by decide +kernel⟩
theorem ok_X7_key : sMv yX7_key cX7_key 2 (some .int) 1 := ⟨mTb_in (List.mem_of_getElem? (i := 1060) (by decide +kernel)) rfl, mTb_in (List.mem_of_getElem? (i := 1061) (by decide +kernel)) rfl, mTb_in (List.mem_of_getElem? (i := 70) (by decide +kernel)) rfl, mTb_in (List.mem_of_getElem? (i := 1062) (by decide +kernel)) rfl, by decide +kernel, by decide +kernel, by decide +kernel⟩
theorem ok_X7_kind : sMv yX7_kind cX7_kind 2 (some .int) 1 := ⟨mTb_in (List.mem_of_getElem? (i := 1068) (by decide +kernel)) rfl, mTb_in (List.mem_of_getElem? (i := 1069) (by decide +kernel)) rfl, mTb_in (List.mem_of_getElem? (i := 70) (by decide +kernel)) rfl, mTb_in (List.mem_of_getElem? (i := 1070) (by decide +kernel)) rfl, by decide +kernel, by decide +kernel, by decide +kernel⟩
theorem ok_X7_blot : sMv yX7_blot cX7_blot 10 (some .int) 2 := ⟨mTb_in (List.mem_of_getElem? (i := 1072) (by decide +kernel)) rfl, mTb_in (List.mem_of_getElem? (i := 1073) (by decide +kernel)) rfl, mTb_in (List.mem_of_getElem? (i := 70) (by decide +kernel)) rfl, mTb_in (List.mem_of_getElem? (i := 1074) (by decide +kernel)) rfl, by decide +kernel, by decide +kernel, by decide +kernel⟩
theorem ok_X7_calm : sMv yX7_calm cX7_calm 10 (some .int) 3 := ⟨mTb_in (List.mem_of_getElem? (i := 1076) (by decide +kernel)) rfl, mTb_in (List.mem_of_getElem? (i := 1077) (by decide +kernel)) rfl, mTb_in (List.mem_of_getElem? (i := 70) (by decide +kernel)) rfl, mTb_in (List.mem_of_getElem? (i := 1078) (by decide +kernel)) rfl, by decide +kernel, by decide +kernel, by decide +kernel⟩
theorem ok_X7_changeSides : sMv yX7_changeSides cX7_changeSides 3 none 2 := ⟨mTb_in (List.mem_of_getElem? (i := 1085) (by decide +kernel)) rfl, mTb_in (List.mem_of_getElem? (i := 47) (by decide +kernel)) rfl, mTb_in (List.mem_of_getElem? (i := 70) (by decide +kernel)) rfl, mTb_in (List.mem_of_getElem? (i := 1086) (by decide +kernel)) rfl, by decide +kernel, by decide +kernel, by decide +kernel⟩
theorem ok_X7_swap : sMv yX7_swap cX7_swap 7 (some .int) 0 := ⟨mTb_in (List.mem_of_getElem? (i := 1080) (by decide +kernel)) rfl, mTb_in (List.mem_of_getElem? (i := 1081) (by decide +kernel)) rfl, mTb_in (List.mem_of_getElem? (i := 70) (by decide +kernel)) rfl, mTb_in (List.mem_of_getElem? (i := 1082) (by decide +kernel)) rfl, by decide +kernel, by decide +kernel, by decide +kernel⟩
theorem ok_X7_isHomeOn : sMv yX7_isHomeOn cX7_isHomeOn 4 (some .boolean) 2 := ⟨mTb_in (List.mem_of_getElem? (i := 1093) (by decide +kernel)) rfl, mTb_in (List.mem_of_getElem? (i := 48) (by decide +kernel)) rfl, mTb_in (List.mem_of_getElem? (i := 70) (by decide +kernel)) rfl, mTb_in (List.mem_of_getElem? (i := 1094) (by decide +kernel)) rfl, by decide +kernel, by decide +kernel, by decide +kernel⟩
theorem ok_X7_keys : sMv yX7_keys cX7_keys 7 (some .int) 2 := ⟨mTb_in (List.mem_of_getElem? (i := 1088) (by decide +kernel)) rfl, mTb_in (List.mem_of_getElem? (i := 1089) (by decide +kernel)) rfl, mTb_in (List.mem_of_getElem? (i := 70) (by decide +kernel)) rfl, mTb_in (List.mem_of_getElem? (i := 1090) (by decide +kernel)) rfl, by decide +kernel, by decide +kernel, by decide +kernel⟩
theorem ok_X7_feed : sMv yX7_feed cX7_feed 4 (some .int) 2 := ⟨mTb_in (List.mem_of_getElem? (i := 1096) (by decide +kernel)) rfl, mTb_in (List.mem_of_getElem? (i := 1097) (by decide +kernel)) rfl, mTb_in (List.mem_of_getElem? (i := 70) (by decide +kernel)) rfl, mTb_in (List.mem_of_getElem? (i := 1098) (by decide +kernel)) rfl, by decide +kernel, by decide +kernel, by decide +kernel⟩
theorem ok_X7_wipe : sMv yX7_wipe cX7_wipe 2 (some .int) 0 := ⟨mTb_in (List.mem_of_getElem? (i := 1100) (by decide +kernel)) rfl, mTb_in (List.mem_of_getElem? (i := 1101) (by decide +kernel)) rfl, mTb_in (List.mem_of_getElem? (i := 70) (by decide +kernel)) rfl, mTb_in (List.mem_of_getElem? (i := 1102) (by decide +kernel)) rfl, by decide +kernel, by decide +kernel, by decide +kernel⟩
theorem ok_X7_byteAt : sMv yX7_byteAt cX7_byteAt 2 (some .int) 1 := ⟨mTb_in (List.mem_of_getElem? (i := 1113) (by decide +kernel)) rfl, mTb_in (List.mem_of_getElem? (i := 50) (by decide +kernel)) rfl, mTb_in (List.mem_of_getElem? (i := 70) (by decide +kernel)) rfl, mTb_in (List.mem_of_getElem? (i := 1114) (by decide +kernel)) rfl, by decide +kernel, by decide +kernel, by decide +kernel⟩
theorem ok_X7_next : sMv yX7_next cX7_next 2 none 0 := ⟨mTb_in (List.mem_of_getElem? (i := 1109) (by decide +kernel)) rfl, mTb_in (List.mem_of_getElem? (i := 49) (by decide +kernel)) rfl, mTb_in (List.mem_of_getElem? (i := 70) (by decide +kernel)) rfl, mTb_in (List.mem_of_getElem? (i := 1110) (by decide +kernel)) rfl, by decide +kernel, by decide +kernel, by decide +kernel⟩
theorem ok_X7_isWord : sMv yX7_isWord cX7_isWord 4 (some .boolean) 1 := ⟨mTb_in (List.mem_of_getElem? (i := 1121) (by decide +kernel)) rfl, mTb_in (List.mem_of_getElem? (i := 52) (by decide +kernel)) rfl, mTb_in (List.mem_of_getElem? (i := 70) (by decide +kernel)) rfl, mTb_in (List.mem_of_getElem? (i := 1122) (by decide +kernel)) rfl, by decide +kernel, by decide +kernel, by decide +kernel⟩
theorem ok_X7_must : sMv yX7_must cX7_must 2 none 1 := ⟨mTb_in (List.mem_of_getElem? (i := 1131) (by decide +kernel)) rfl, mTb_in (List.mem_of_getElem? (i := 54) (by decide +kernel)) rfl, mTb_in (List.mem_of_getElem? (i := 70) (by decide +kernel)) rfl, mTb_in (List.mem_of_getElem? (i := 1132) (by decide +kernel)) rfl, by decide +kernel, by decide +kernel, by decide +kernel⟩
theorem ok_X7_number : sMv yX7_number cX7_number 4 (some .int) 2 := ⟨mTb_in (List.mem_of_getElem? (i := 1136) (by decide +kernel)) rfl, mTb_in (List.mem_of_getElem? (i := 55) (by decide +kernel)) rfl, mTb_in (List.mem_of_getElem? (i := 70) (by decide +kernel)) rfl, mTb_in (List.mem_of_getElem? (i := 1137) (by decide +kernel)) rfl, by decide +kernel, by decide +kernel, by decide +kernel⟩
theorem ok_X7_addItem : sMv yX7_addItem cX7_addItem 6 none 4 := ⟨mTb_in (List.mem_of_getElem? (i := 1146) (by decide +kernel)) rfl, mTb_in (List.mem_of_getElem? (i := 57) (by decide +kernel)) rfl, mTb_in (List.mem_of_getElem? (i := 70) (by decide +kernel)) rfl, mTb_in (List.mem_of_getElem? (i := 1147) (by decide +kernel)) rfl, by decide +kernel, by decide +kernel, by decide +kernel⟩
theorem ok_X7_perhaps : sMv yX7_perhaps cX7_perhaps 3 (some .int) 2 := ⟨mTb_in (List.mem_of_getElem? (i := 1141) (by decide +kernel)) rfl, mTb_in (List.mem_of_getElem? (i := 56) (by decide +kernel)) rfl, mTb_in (List.mem_of_getElem? (i := 70) (by decide +kernel)) rfl, mTb_in (List.mem_of_getElem? (i := 1142) (by decide +kernel)) rfl, by decide +kernel, by decide +kernel, by decide +kernel⟩
theorem ok_X7_readAttache : sMv yX7_readAttache cX7_readAttache 5 none 1 := ⟨mTb_in (List.mem_of_getElem? (i := 1127) (by decide +kernel)) rfl, mTb_in (List.mem_of_getElem? (i := 53) (by decide +kernel)) rfl, mTb_in (List.mem_of_getElem? (i := 70) (by decide +kernel)) rfl, mTb_in (List.mem_of_getElem? (i := 1128) (by decide +kernel)) rfl, by decide +kernel, by decide +kernel, by decide +kernel⟩
theorem ok_X7_readTune : sMv yX7_readTune cX7_readTune 6 none 0 := ⟨mTb_in (List.mem_of_getElem? (i := 1151) (by decide +kernel)) rfl, mTb_in (List.mem_of_getElem? (i := 58) (by decide +kernel)) rfl, mTb_in (List.mem_of_getElem? (i := 70) (by decide +kernel)) rfl, mTb_in (List.mem_of_getElem? (i := 1152) (by decide +kernel)) rfl, by decide +kernel, by decide +kernel, by decide +kernel⟩
theorem ok_X7_readItem : sMv yX7_readItem cX7_readItem 3 none 0 := ⟨mTb_in (List.mem_of_getElem? (i := 1117) (by decide +kernel)) rfl, mTb_in (List.mem_of_getElem? (i := 51) (by decide +kernel)) rfl, mTb_in (List.mem_of_getElem? (i := 70) (by decide +kernel)) rfl, mTb_in (List.mem_of_getElem? (i := 1118) (by decide +kernel)) rfl, by decide +kernel, by decide +kernel, by decide +kernel⟩
theorem ok_X7_isToldSo : sMv yX7_isToldSo cX7_isToldSo 2 (some .int) 1 := ⟨mTb_in (List.mem_of_getElem? (i := 1159) (by decide +kernel)) rfl, mTb_in (List.mem_of_getElem? (i := 59) (by decide +kernel)) rfl, mTb_in (List.mem_of_getElem? (i := 70) (by decide +kernel)) rfl, mTb_in (List.mem_of_getElem? (i := 1160) (by decide +kernel)) rfl, by decide +kernel, by decide +kernel, by decide +kernel⟩
theorem ok_X7_affair : sMv yX7_affair cX7_affair 3 (some .int) 0 := ⟨mTb_in (List.mem_of_getElem? (i := 1104) (by decide +kernel)) rfl, mTb_in (List.mem_of_getElem? (i := 1105) (by decide +kernel)) rfl, mTb_in (List.mem_of_getElem? (i := 70) (by decide +kernel)) rfl, mTb_in (List.mem_of_getElem? (i := 1106) (by decide +kernel)) rfl, by decide +kernel, by decide +kernel, by decide +kernel⟩
theorem ok_X7_isSheet : sMs yX7_isSheet cX7_isSheet 1 (some .boolean) 1 := ⟨mTb_in (List.mem_of_getElem? (i := 1166) (by decide +kernel)) rfl, mTb_in (List.mem_of_getElem? (i := 70) (by decide +kernel)) rfl, mTb_in (List.mem_of_getElem? (i := 1167) (by decide +kernel)) rfl, by decide +kernel, by decide +kernel, by decide +kernel⟩
theorem ok_X7_cutTo : sMs yX7_cutTo cX7_cutTo 3 (some .long) 2 := ⟨mTb_in (List.mem_of_getElem? (i := 1175) (by decide +kernel)) rfl, mTb_in (List.mem_of_getElem? (i := 70) (by decide +kernel)) rfl, mTb_in (List.mem_of_getElem? (i := 1176) (by decide +kernel)) rfl, by decide +kernel, by decide +kernel, by decide +kernel⟩
theorem ok_X7_sheet : sMv yX7_sheet cX7_sheet 5 (some .int) 3 := ⟨mTb_in (List.mem_of_getElem? (i := 1162) (by decide +kernel)) rfl, mTb_in (List.mem_of_getElem? (i := 1163) (by decide +kernel)) rfl, mTb_in (List.mem_of_getElem? (i := 70) (by decide +kernel)) rfl, mTb_in (List.mem_of_getElem? (i := 1164) (by decide +kernel)) rfl, by decide +kernel, by decide +kernel, by decide +kernel⟩
theorem ok_X7_write : sMv yX7_write cX7_write 7 (some .long) 3 := ⟨mTb_in (List.mem_of_getElem? (i := 1170) (by decide +kernel)) rfl, mTb_in (List.mem_of_getElem? (i := 1171) (by decide +kernel)) rfl, mTb_in (List.mem_of_getElem? (i := 70) (by decide +kernel)) rfl, mTb_in (List.mem_of_getElem? (i := 1172) (by decide +kernel)) rfl, by decide +kernel, by decide +kernel, by decide +kernel⟩
theorem ok_X7_copy : sMv yX7_copy cX7_copy 7 (some .int) 5 := ⟨mTb_in (List.mem_of_getElem? (i := 1178) (by decide +kernel)) rfl, mTb_in (List.mem_of_getElem? (i := 1179) (by decide +kernel)) rfl, mTb_in (List.mem_of_getElem? (i := 70) (by decide +kernel)) rfl, mTb_in (List.mem_of_getElem? (i := 1180) (by decide +kernel)) rfl, by decide +kernel, by decide +kernel, by decide +kernel⟩
theorem ok_X7_lacks : sMv yX7_lacks cX7_lacks 3 (some .int) 2 := ⟨mTb_in (List.mem_of_getElem? (i := 1187) (by decide +kernel)) rfl, mTb_in (List.mem_of_getElem? (i := 60) (by decide +kernel)) rfl, mTb_in (List.mem_of_getElem? (i := 70) (by decide +kernel)) rfl, mTb_in (List.mem_of_getElem? (i := 1188) (by decide +kernel)) rfl, by decide +kernel, by decide +kernel, by decide +kernel⟩
theorem ok_X7_lays : sMv yX7_lays cX7_lays 5 (some .int) 2 := ⟨mTb_in (List.mem_of_getElem? (i := 1182) (by decide +kernel)) rfl, mTb_in (List.mem_of_getElem? (i := 1183) (by decide +kernel)) rfl, mTb_in (List.mem_of_getElem? (i := 70) (by decide +kernel)) rfl, mTb_in (List.mem_of_getElem? (i := 1184) (by decide +kernel)) rfl, by decide +kernel, by decide +kernel, by decide +kernel⟩
theorem ok_X7_book : sMv yX7_book cX7_book 5 (some .int) 2 := ⟨mTb_in (List.mem_of_getElem? (i := 1190) (by decide +kernel)) rfl, mTb_in (List.mem_of_getElem? (i := 1191) (by decide +kernel)) rfl, mTb_in (List.mem_of_getElem? (i := 70) (by decide +kernel)) rfl, mTb_in (List.mem_of_getElem? (i := 1192) (by decide +kernel)) rfl, by decide +kernel, by decide +kernel, by decide +kernel⟩
theorem ok_X7_isAnswerOf : sMv yX7_isAnswerOf cX7_isAnswerOf 8 (some .boolean) 5 := ⟨mTb_in (List.mem_of_getElem? (i := 1199) (by decide +kernel)) rfl, mTb_in (List.mem_of_getElem? (i := 61) (by decide +kernel)) rfl, mTb_in (List.mem_of_getElem? (i := 70) (by decide +kernel)) rfl, mTb_in (List.mem_of_getElem? (i := 1200) (by decide +kernel)) rfl, by decide +kernel, by decide +kernel, by decide +kernel⟩
theorem ok_X7_read : sMv yX7_read cX7_read 7 (some .int) 2 := ⟨mTb_in (List.mem_of_getElem? (i := 1194) (by decide +kernel)) rfl, mTb_in (List.mem_of_getElem? (i := 1195) (by decide +kernel)) rfl, mTb_in (List.mem_of_getElem? (i := 70) (by decide +kernel)) rfl, mTb_in (List.mem_of_getElem? (i := 1196) (by decide +kernel)) rfl, by decide +kernel, by decide +kernel, by decide +kernel⟩
theorem ok_X7_image : sMv yX7_image cX7_image 1 (some .int) 0 := ⟨mTb_in (List.mem_of_getElem? (i := 1202) (by decide +kernel)) rfl, mTb_in (List.mem_of_getElem? (i := 1203) (by decide +kernel)) rfl, mTb_in (List.mem_of_getElem? (i := 70) (by decide +kernel)) rfl, mTb_in (List.mem_of_getElem? (i := 1204) (by decide +kernel)) rfl, by decide +kernel, by decide +kernel, by decide +kernel⟩
theorem ok_X7_undo : sMv yX7_undo cX7_undo 1 (some .int) 0 := ⟨mTb_in (List.mem_of_getElem? (i := 1206) (by decide +kernel)) rfl, mTb_in (List.mem_of_getElem? (i := 1207) (by decide +kernel)) rfl, mTb_in (List.mem_of_getElem? (i := 70) (by decide +kernel)) rfl, mTb_in (List.mem_of_getElem? (i := 1208) (by decide +kernel)) rfl, by decide +kernel, by decide +kernel, by decide +kernel⟩
theorem ok_X7_tear : sMv yX7_tear cX7_tear 2 (some .int) 0 := ⟨mTb_in (List.mem_of_getElem? (i := 1210) (by decide +kernel)) rfl, mTb_in (List.mem_of_getElem? (i := 1211) (by decide +kernel)) rfl, mTb_in (List.mem_of_getElem? (i := 70) (by decide +kernel)) rfl, mTb_in (List.mem_of_getElem? (i := 1212) (by decide +kernel)) rfl, by decide +kernel, by decide +kernel, by decide +kernel⟩
theorem ok_X7_count : sMv yX7_count cX7_count 5 (some .int) 1 := ⟨mTb_in (List.mem_of_getElem? (i := 1214) (by decide +kernel)) rfl, mTb_in (List.mem_of_getElem? (i := 1215) (by decide +kernel)) rfl, mTb_in (List.mem_of_getElem? (i := 70) (by decide +kernel)) rfl, mTb_in (List.mem_of_getElem? (i := 1216) (by decide +kernel)) rfl, by decide +kernel, by decide +kernel, by decide +kernel⟩
theorem ok_X7_status : sMv yX7_status cX7_status 2 (some .int) 1 := ⟨mTb_in (List.mem_of_getElem? (i := 1221) (by decide +kernel)) rfl, mTb_in (List.mem_of_getElem? (i := 1222) (by decide +kernel)) rfl, mTb_in (List.mem_of_getElem? (i := 70) (by decide +kernel)) rfl, mTb_in (List.mem_of_getElem? (i := 1223) (by decide +kernel)) rfl, by decide +kernel, by decide +kernel, by decide +kernel⟩
end
section
theorem mst_h {i : Nat} {lv : List (Option Value)} {a : Option Value} (h : lv[i]? = some a) (hc : mC1 a = true) : ∀ j o, j + 1 = i + 1 → lv[j]? = some o → mC1 o = true := by
  intro j o h1 h2
  have e : j = i := by omega
  subst e
  rw [h] at h2
  cases h2
  exact hc
theorem mst_0 {lv : List (Option Value)} : ∀ j o, j + 1 = 0 → lv[j]? = some o → mC1 o = true := fun j o h => by omega
section STORES
variable {X : mX} {cc : ByteArray} {nL : Nat} {rt : Option FieldType} {own : String} {d : Nat} {G : mG} {Q : Option Value → mMem → Prop} {pc : Nat} {st : List Value} {μ : mMem}
theorem mw_is0 {x : Int32} {a0 : Option Value} {t : List (Option Value)} (hd : decode cc pc = .ok (.istore_n 0, 1)) (hn : 0 < nL) (kk : mW X cc nL rt own d G Q (pc + 1) (some (.int x) :: t) st μ) : mW X cc nL rt own d G Q pc (a0 :: t) (.int x :: st) μ := mw_istore_n (k := 0) hd hn mst_0 kk
theorem mw_as0 {x : Nat} {a0 : Option Value} {t : List (Option Value)} (hd : decode cc pc = .ok (.astore_n 0, 1)) (hn : 0 < nL) (kk : mW X cc nL rt own d G Q (pc + 1) (some (.ref x) :: t) st μ) : mW X cc nL rt own d G Q pc (a0 :: t) (.ref x :: st) μ := mw_astore_n (k := 0) hd hn mst_0 kk
theorem mw_ii0 {z n : Int} {t : List (Option Value)} (hd : decode cc pc = .ok (.iinc 0 n, 3)) (hn : 0 < nL) (kk : mW X cc nL rt own d G Q (pc + 3) (some (.int (iV (z + n))) :: t) st μ) : mW X cc nL rt own d G Q pc (some (.int (iV z)) :: t) st μ := mw_iinc (z := z) hd rfl hn mst_0 kk
theorem mw_ls0 {x : Int64} {a0 : Option Value} {t : List (Option Value)} {b : Option Value} (hd : decode cc pc = .ok (.lstore_n 0, 1)) (hn : 0 + 1 < nL) (kk : mW X cc nL rt own d G Q (pc + 1) (some (.long x) :: none :: t) st μ) : mW X cc nL rt own d G Q pc (a0 :: b :: t) (.long x :: st) μ := mw_lstore_n (k := 0) hd hn mst_0 kk
theorem mw_is1 {x : Int32} {a0 a1 : Option Value} {t : List (Option Value)} (hd : decode cc pc = .ok (.istore_n 1, 1)) (hn : 1 < nL) (hc : mC1 a0 = true) (kk : mW X cc nL rt own d G Q (pc + 1) (a0 :: some (.int x) :: t) st μ) : mW X cc nL rt own d G Q pc (a0 :: a1 :: t) (.int x :: st) μ := mw_istore_n (k := 1) hd hn (mst_h (i := 0) rfl hc) kk
theorem mw_as1 {x : Nat} {a0 a1 : Option Value} {t : List (Option Value)} (hd : decode cc pc = .ok (.astore_n 1, 1)) (hn : 1 < nL) (hc : mC1 a0 = true) (kk : mW X cc nL rt own d G Q (pc + 1) (a0 :: some (.ref x) :: t) st μ) : mW X cc nL rt own d G Q pc (a0 :: a1 :: t) (.ref x :: st) μ := mw_astore_n (k := 1) hd hn (mst_h (i := 0) rfl hc) kk
theorem mw_ii1 {z n : Int} {a0 : Option Value} {t : List (Option Value)} (hd : decode cc pc = .ok (.iinc 1 n, 3)) (hn : 1 < nL) (hc : mC1 a0 = true) (kk : mW X cc nL rt own d G Q (pc + 3) (a0 :: some (.int (iV (z + n))) :: t) st μ) : mW X cc nL rt own d G Q pc (a0 :: some (.int (iV z)) :: t) st μ := mw_iinc (z := z) hd rfl hn (mst_h (i := 0) rfl hc) kk
theorem mw_ls1 {x : Int64} {a0 a1 : Option Value} {t : List (Option Value)} {b : Option Value} (hd : decode cc pc = .ok (.lstore_n 1, 1)) (hn : 1 + 1 < nL) (hc : mC1 a0 = true) (kk : mW X cc nL rt own d G Q (pc + 1) (a0 :: some (.long x) :: none :: t) st μ) : mW X cc nL rt own d G Q pc (a0 :: a1 :: b :: t) (.long x :: st) μ := mw_lstore_n (k := 1) hd hn (mst_h (i := 0) rfl hc) kk
theorem mw_is2 {x : Int32} {a0 a1 a2 : Option Value} {t : List (Option Value)} (hd : decode cc pc = .ok (.istore_n 2, 1)) (hn : 2 < nL) (hc : mC1 a1 = true) (kk : mW X cc nL rt own d G Q (pc + 1) (a0 :: a1 :: some (.int x) :: t) st μ) : mW X cc nL rt own d G Q pc (a0 :: a1 :: a2 :: t) (.int x :: st) μ := mw_istore_n (k := 2) hd hn (mst_h (i := 1) rfl hc) kk
theorem mw_as2 {x : Nat} {a0 a1 a2 : Option Value} {t : List (Option Value)} (hd : decode cc pc = .ok (.astore_n 2, 1)) (hn : 2 < nL) (hc : mC1 a1 = true) (kk : mW X cc nL rt own d G Q (pc + 1) (a0 :: a1 :: some (.ref x) :: t) st μ) : mW X cc nL rt own d G Q pc (a0 :: a1 :: a2 :: t) (.ref x :: st) μ := mw_astore_n (k := 2) hd hn (mst_h (i := 1) rfl hc) kk
theorem mw_ii2 {z n : Int} {a0 a1 : Option Value} {t : List (Option Value)} (hd : decode cc pc = .ok (.iinc 2 n, 3)) (hn : 2 < nL) (hc : mC1 a1 = true) (kk : mW X cc nL rt own d G Q (pc + 3) (a0 :: a1 :: some (.int (iV (z + n))) :: t) st μ) : mW X cc nL rt own d G Q pc (a0 :: a1 :: some (.int (iV z)) :: t) st μ := mw_iinc (z := z) hd rfl hn (mst_h (i := 1) rfl hc) kk
theorem mw_ls2 {x : Int64} {a0 a1 a2 : Option Value} {t : List (Option Value)} {b : Option Value} (hd : decode cc pc = .ok (.lstore_n 2, 1)) (hn : 2 + 1 < nL) (hc : mC1 a1 = true) (kk : mW X cc nL rt own d G Q (pc + 1) (a0 :: a1 :: some (.long x) :: none :: t) st μ) : mW X cc nL rt own d G Q pc (a0 :: a1 :: a2 :: b :: t) (.long x :: st) μ := mw_lstore_n (k := 2) hd hn (mst_h (i := 1) rfl hc) kk
theorem mw_is3 {x : Int32} {a0 a1 a2 a3 : Option Value} {t : List (Option Value)} (hd : decode cc pc = .ok (.istore_n 3, 1)) (hn : 3 < nL) (hc : mC1 a2 = true) (kk : mW X cc nL rt own d G Q (pc + 1) (a0 :: a1 :: a2 :: some (.int x) :: t) st μ) : mW X cc nL rt own d G Q pc (a0 :: a1 :: a2 :: a3 :: t) (.int x :: st) μ := mw_istore_n (k := 3) hd hn (mst_h (i := 2) rfl hc) kk
theorem mw_as3 {x : Nat} {a0 a1 a2 a3 : Option Value} {t : List (Option Value)} (hd : decode cc pc = .ok (.astore_n 3, 1)) (hn : 3 < nL) (hc : mC1 a2 = true) (kk : mW X cc nL rt own d G Q (pc + 1) (a0 :: a1 :: a2 :: some (.ref x) :: t) st μ) : mW X cc nL rt own d G Q pc (a0 :: a1 :: a2 :: a3 :: t) (.ref x :: st) μ := mw_astore_n (k := 3) hd hn (mst_h (i := 2) rfl hc) kk
theorem mw_ii3 {z n : Int} {a0 a1 a2 : Option Value} {t : List (Option Value)} (hd : decode cc pc = .ok (.iinc 3 n, 3)) (hn : 3 < nL) (hc : mC1 a2 = true) (kk : mW X cc nL rt own d G Q (pc + 3) (a0 :: a1 :: a2 :: some (.int (iV (z + n))) :: t) st μ) : mW X cc nL rt own d G Q pc (a0 :: a1 :: a2 :: some (.int (iV z)) :: t) st μ := mw_iinc (z := z) hd rfl hn (mst_h (i := 2) rfl hc) kk
theorem mw_ls3 {x : Int64} {a0 a1 a2 a3 : Option Value} {t : List (Option Value)} {b : Option Value} (hd : decode cc pc = .ok (.lstore_n 3, 1)) (hn : 3 + 1 < nL) (hc : mC1 a2 = true) (kk : mW X cc nL rt own d G Q (pc + 1) (a0 :: a1 :: a2 :: some (.long x) :: none :: t) st μ) : mW X cc nL rt own d G Q pc (a0 :: a1 :: a2 :: a3 :: b :: t) (.long x :: st) μ := mw_lstore_n (k := 3) hd hn (mst_h (i := 2) rfl hc) kk
theorem mw_is4 {x : Int32} {a0 a1 a2 a3 a4 : Option Value} {t : List (Option Value)} (hd : decode cc pc = .ok (.istore 4, 2)) (hn : 4 < nL) (hc : mC1 a3 = true) (kk : mW X cc nL rt own d G Q (pc + 2) (a0 :: a1 :: a2 :: a3 :: some (.int x) :: t) st μ) : mW X cc nL rt own d G Q pc (a0 :: a1 :: a2 :: a3 :: a4 :: t) (.int x :: st) μ := mw_istore hd hn (mst_h (i := 3) rfl hc) kk
theorem mw_as4 {x : Nat} {a0 a1 a2 a3 a4 : Option Value} {t : List (Option Value)} (hd : decode cc pc = .ok (.astore 4, 2)) (hn : 4 < nL) (hc : mC1 a3 = true) (kk : mW X cc nL rt own d G Q (pc + 2) (a0 :: a1 :: a2 :: a3 :: some (.ref x) :: t) st μ) : mW X cc nL rt own d G Q pc (a0 :: a1 :: a2 :: a3 :: a4 :: t) (.ref x :: st) μ := mw_astore hd hn (mst_h (i := 3) rfl hc) kk
theorem mw_ii4 {z n : Int} {a0 a1 a2 a3 : Option Value} {t : List (Option Value)} (hd : decode cc pc = .ok (.iinc 4 n, 3)) (hn : 4 < nL) (hc : mC1 a3 = true) (kk : mW X cc nL rt own d G Q (pc + 3) (a0 :: a1 :: a2 :: a3 :: some (.int (iV (z + n))) :: t) st μ) : mW X cc nL rt own d G Q pc (a0 :: a1 :: a2 :: a3 :: some (.int (iV z)) :: t) st μ := mw_iinc (z := z) hd rfl hn (mst_h (i := 3) rfl hc) kk
theorem mw_ls4 {x : Int64} {a0 a1 a2 a3 a4 : Option Value} {t : List (Option Value)} {b : Option Value} (hd : decode cc pc = .ok (.lstore 4, 2)) (hn : 4 + 1 < nL) (hc : mC1 a3 = true) (kk : mW X cc nL rt own d G Q (pc + 2) (a0 :: a1 :: a2 :: a3 :: some (.long x) :: none :: t) st μ) : mW X cc nL rt own d G Q pc (a0 :: a1 :: a2 :: a3 :: a4 :: b :: t) (.long x :: st) μ := mw_lstore hd hn (mst_h (i := 3) rfl hc) kk
theorem mw_is5 {x : Int32} {a0 a1 a2 a3 a4 a5 : Option Value} {t : List (Option Value)} (hd : decode cc pc = .ok (.istore 5, 2)) (hn : 5 < nL) (hc : mC1 a4 = true) (kk : mW X cc nL rt own d G Q (pc + 2) (a0 :: a1 :: a2 :: a3 :: a4 :: some (.int x) :: t) st μ) : mW X cc nL rt own d G Q pc (a0 :: a1 :: a2 :: a3 :: a4 :: a5 :: t) (.int x :: st) μ := mw_istore hd hn (mst_h (i := 4) rfl hc) kk
theorem mw_as5 {x : Nat} {a0 a1 a2 a3 a4 a5 : Option Value} {t : List (Option Value)} (hd : decode cc pc = .ok (.astore 5, 2)) (hn : 5 < nL) (hc : mC1 a4 = true) (kk : mW X cc nL rt own d G Q (pc + 2) (a0 :: a1 :: a2 :: a3 :: a4 :: some (.ref x) :: t) st μ) : mW X cc nL rt own d G Q pc (a0 :: a1 :: a2 :: a3 :: a4 :: a5 :: t) (.ref x :: st) μ := mw_astore hd hn (mst_h (i := 4) rfl hc) kk
theorem mw_ii5 {z n : Int} {a0 a1 a2 a3 a4 : Option Value} {t : List (Option Value)} (hd : decode cc pc = .ok (.iinc 5 n, 3)) (hn : 5 < nL) (hc : mC1 a4 = true) (kk : mW X cc nL rt own d G Q (pc + 3) (a0 :: a1 :: a2 :: a3 :: a4 :: some (.int (iV (z + n))) :: t) st μ) : mW X cc nL rt own d G Q pc (a0 :: a1 :: a2 :: a3 :: a4 :: some (.int (iV z)) :: t) st μ := mw_iinc (z := z) hd rfl hn (mst_h (i := 4) rfl hc) kk
theorem mw_ls5 {x : Int64} {a0 a1 a2 a3 a4 a5 : Option Value} {t : List (Option Value)} {b : Option Value} (hd : decode cc pc = .ok (.lstore 5, 2)) (hn : 5 + 1 < nL) (hc : mC1 a4 = true) (kk : mW X cc nL rt own d G Q (pc + 2) (a0 :: a1 :: a2 :: a3 :: a4 :: some (.long x) :: none :: t) st μ) : mW X cc nL rt own d G Q pc (a0 :: a1 :: a2 :: a3 :: a4 :: a5 :: b :: t) (.long x :: st) μ := mw_lstore hd hn (mst_h (i := 4) rfl hc) kk
theorem mw_is6 {x : Int32} {a0 a1 a2 a3 a4 a5 a6 : Option Value} {t : List (Option Value)} (hd : decode cc pc = .ok (.istore 6, 2)) (hn : 6 < nL) (hc : mC1 a5 = true) (kk : mW X cc nL rt own d G Q (pc + 2) (a0 :: a1 :: a2 :: a3 :: a4 :: a5 :: some (.int x) :: t) st μ) : mW X cc nL rt own d G Q pc (a0 :: a1 :: a2 :: a3 :: a4 :: a5 :: a6 :: t) (.int x :: st) μ := mw_istore hd hn (mst_h (i := 5) rfl hc) kk
theorem mw_as6 {x : Nat} {a0 a1 a2 a3 a4 a5 a6 : Option Value} {t : List (Option Value)} (hd : decode cc pc = .ok (.astore 6, 2)) (hn : 6 < nL) (hc : mC1 a5 = true) (kk : mW X cc nL rt own d G Q (pc + 2) (a0 :: a1 :: a2 :: a3 :: a4 :: a5 :: some (.ref x) :: t) st μ) : mW X cc nL rt own d G Q pc (a0 :: a1 :: a2 :: a3 :: a4 :: a5 :: a6 :: t) (.ref x :: st) μ := mw_astore hd hn (mst_h (i := 5) rfl hc) kk
theorem mw_ii6 {z n : Int} {a0 a1 a2 a3 a4 a5 : Option Value} {t : List (Option Value)} (hd : decode cc pc = .ok (.iinc 6 n, 3)) (hn : 6 < nL) (hc : mC1 a5 = true) (kk : mW X cc nL rt own d G Q (pc + 3) (a0 :: a1 :: a2 :: a3 :: a4 :: a5 :: some (.int (iV (z + n))) :: t) st μ) : mW X cc nL rt own d G Q pc (a0 :: a1 :: a2 :: a3 :: a4 :: a5 :: some (.int (iV z)) :: t) st μ := mw_iinc (z := z) hd rfl hn (mst_h (i := 5) rfl hc) kk
theorem mw_ls6 {x : Int64} {a0 a1 a2 a3 a4 a5 a6 : Option Value} {t : List (Option Value)} {b : Option Value} (hd : decode cc pc = .ok (.lstore 6, 2)) (hn : 6 + 1 < nL) (hc : mC1 a5 = true) (kk : mW X cc nL rt own d G Q (pc + 2) (a0 :: a1 :: a2 :: a3 :: a4 :: a5 :: some (.long x) :: none :: t) st μ) : mW X cc nL rt own d G Q pc (a0 :: a1 :: a2 :: a3 :: a4 :: a5 :: a6 :: b :: t) (.long x :: st) μ := mw_lstore hd hn (mst_h (i := 5) rfl hc) kk
theorem mw_is7 {x : Int32} {a0 a1 a2 a3 a4 a5 a6 a7 : Option Value} {t : List (Option Value)} (hd : decode cc pc = .ok (.istore 7, 2)) (hn : 7 < nL) (hc : mC1 a6 = true) (kk : mW X cc nL rt own d G Q (pc + 2) (a0 :: a1 :: a2 :: a3 :: a4 :: a5 :: a6 :: some (.int x) :: t) st μ) : mW X cc nL rt own d G Q pc (a0 :: a1 :: a2 :: a3 :: a4 :: a5 :: a6 :: a7 :: t) (.int x :: st) μ := mw_istore hd hn (mst_h (i := 6) rfl hc) kk
theorem mw_as7 {x : Nat} {a0 a1 a2 a3 a4 a5 a6 a7 : Option Value} {t : List (Option Value)} (hd : decode cc pc = .ok (.astore 7, 2)) (hn : 7 < nL) (hc : mC1 a6 = true) (kk : mW X cc nL rt own d G Q (pc + 2) (a0 :: a1 :: a2 :: a3 :: a4 :: a5 :: a6 :: some (.ref x) :: t) st μ) : mW X cc nL rt own d G Q pc (a0 :: a1 :: a2 :: a3 :: a4 :: a5 :: a6 :: a7 :: t) (.ref x :: st) μ := mw_astore hd hn (mst_h (i := 6) rfl hc) kk
theorem mw_ii7 {z n : Int} {a0 a1 a2 a3 a4 a5 a6 : Option Value} {t : List (Option Value)} (hd : decode cc pc = .ok (.iinc 7 n, 3)) (hn : 7 < nL) (hc : mC1 a6 = true) (kk : mW X cc nL rt own d G Q (pc + 3) (a0 :: a1 :: a2 :: a3 :: a4 :: a5 :: a6 :: some (.int (iV (z + n))) :: t) st μ) : mW X cc nL rt own d G Q pc (a0 :: a1 :: a2 :: a3 :: a4 :: a5 :: a6 :: some (.int (iV z)) :: t) st μ := mw_iinc (z := z) hd rfl hn (mst_h (i := 6) rfl hc) kk
theorem mw_ls7 {x : Int64} {a0 a1 a2 a3 a4 a5 a6 a7 : Option Value} {t : List (Option Value)} {b : Option Value} (hd : decode cc pc = .ok (.lstore 7, 2)) (hn : 7 + 1 < nL) (hc : mC1 a6 = true) (kk : mW X cc nL rt own d G Q (pc + 2) (a0 :: a1 :: a2 :: a3 :: a4 :: a5 :: a6 :: some (.long x) :: none :: t) st μ) : mW X cc nL rt own d G Q pc (a0 :: a1 :: a2 :: a3 :: a4 :: a5 :: a6 :: a7 :: b :: t) (.long x :: st) μ := mw_lstore hd hn (mst_h (i := 6) rfl hc) kk
theorem mw_is8 {x : Int32} {a0 a1 a2 a3 a4 a5 a6 a7 a8 : Option Value} {t : List (Option Value)} (hd : decode cc pc = .ok (.istore 8, 2)) (hn : 8 < nL) (hc : mC1 a7 = true) (kk : mW X cc nL rt own d G Q (pc + 2) (a0 :: a1 :: a2 :: a3 :: a4 :: a5 :: a6 :: a7 :: some (.int x) :: t) st μ) : mW X cc nL rt own d G Q pc (a0 :: a1 :: a2 :: a3 :: a4 :: a5 :: a6 :: a7 :: a8 :: t) (.int x :: st) μ := mw_istore hd hn (mst_h (i := 7) rfl hc) kk
theorem mw_as8 {x : Nat} {a0 a1 a2 a3 a4 a5 a6 a7 a8 : Option Value} {t : List (Option Value)} (hd : decode cc pc = .ok (.astore 8, 2)) (hn : 8 < nL) (hc : mC1 a7 = true) (kk : mW X cc nL rt own d G Q (pc + 2) (a0 :: a1 :: a2 :: a3 :: a4 :: a5 :: a6 :: a7 :: some (.ref x) :: t) st μ) : mW X cc nL rt own d G Q pc (a0 :: a1 :: a2 :: a3 :: a4 :: a5 :: a6 :: a7 :: a8 :: t) (.ref x :: st) μ := mw_astore hd hn (mst_h (i := 7) rfl hc) kk
theorem mw_ii8 {z n : Int} {a0 a1 a2 a3 a4 a5 a6 a7 : Option Value} {t : List (Option Value)} (hd : decode cc pc = .ok (.iinc 8 n, 3)) (hn : 8 < nL) (hc : mC1 a7 = true) (kk : mW X cc nL rt own d G Q (pc + 3) (a0 :: a1 :: a2 :: a3 :: a4 :: a5 :: a6 :: a7 :: some (.int (iV (z + n))) :: t) st μ) : mW X cc nL rt own d G Q pc (a0 :: a1 :: a2 :: a3 :: a4 :: a5 :: a6 :: a7 :: some (.int (iV z)) :: t) st μ := mw_iinc (z := z) hd rfl hn (mst_h (i := 7) rfl hc) kk
theorem mw_ls8 {x : Int64} {a0 a1 a2 a3 a4 a5 a6 a7 a8 : Option Value} {t : List (Option Value)} {b : Option Value} (hd : decode cc pc = .ok (.lstore 8, 2)) (hn : 8 + 1 < nL) (hc : mC1 a7 = true) (kk : mW X cc nL rt own d G Q (pc + 2) (a0 :: a1 :: a2 :: a3 :: a4 :: a5 :: a6 :: a7 :: some (.long x) :: none :: t) st μ) : mW X cc nL rt own d G Q pc (a0 :: a1 :: a2 :: a3 :: a4 :: a5 :: a6 :: a7 :: a8 :: b :: t) (.long x :: st) μ := mw_lstore hd hn (mst_h (i := 7) rfl hc) kk
theorem mw_is9 {x : Int32} {a0 a1 a2 a3 a4 a5 a6 a7 a8 a9 : Option Value} {t : List (Option Value)} (hd : decode cc pc = .ok (.istore 9, 2)) (hn : 9 < nL) (hc : mC1 a8 = true) (kk : mW X cc nL rt own d G Q (pc + 2) (a0 :: a1 :: a2 :: a3 :: a4 :: a5 :: a6 :: a7 :: a8 :: some (.int x) :: t) st μ) : mW X cc nL rt own d G Q pc (a0 :: a1 :: a2 :: a3 :: a4 :: a5 :: a6 :: a7 :: a8 :: a9 :: t) (.int x :: st) μ := mw_istore hd hn (mst_h (i := 8) rfl hc) kk
theorem mw_as9 {x : Nat} {a0 a1 a2 a3 a4 a5 a6 a7 a8 a9 : Option Value} {t : List (Option Value)} (hd : decode cc pc = .ok (.astore 9, 2)) (hn : 9 < nL) (hc : mC1 a8 = true) (kk : mW X cc nL rt own d G Q (pc + 2) (a0 :: a1 :: a2 :: a3 :: a4 :: a5 :: a6 :: a7 :: a8 :: some (.ref x) :: t) st μ) : mW X cc nL rt own d G Q pc (a0 :: a1 :: a2 :: a3 :: a4 :: a5 :: a6 :: a7 :: a8 :: a9 :: t) (.ref x :: st) μ := mw_astore hd hn (mst_h (i := 8) rfl hc) kk
theorem mw_ii9 {z n : Int} {a0 a1 a2 a3 a4 a5 a6 a7 a8 : Option Value} {t : List (Option Value)} (hd : decode cc pc = .ok (.iinc 9 n, 3)) (hn : 9 < nL) (hc : mC1 a8 = true) (kk : mW X cc nL rt own d G Q (pc + 3) (a0 :: a1 :: a2 :: a3 :: a4 :: a5 :: a6 :: a7 :: a8 :: some (.int (iV (z + n))) :: t) st μ) : mW X cc nL rt own d G Q pc (a0 :: a1 :: a2 :: a3 :: a4 :: a5 :: a6 :: a7 :: a8 :: some (.int (iV z)) :: t) st μ := mw_iinc (z := z) hd rfl hn (mst_h (i := 8) rfl hc) kk
theorem mw_ls9 {x : Int64} {a0 a1 a2 a3 a4 a5 a6 a7 a8 a9 : Option Value} {t : List (Option Value)} {b : Option Value} (hd : decode cc pc = .ok (.lstore 9, 2)) (hn : 9 + 1 < nL) (hc : mC1 a8 = true) (kk : mW X cc nL rt own d G Q (pc + 2) (a0 :: a1 :: a2 :: a3 :: a4 :: a5 :: a6 :: a7 :: a8 :: some (.long x) :: none :: t) st μ) : mW X cc nL rt own d G Q pc (a0 :: a1 :: a2 :: a3 :: a4 :: a5 :: a6 :: a7 :: a8 :: a9 :: b :: t) (.long x :: st) μ := mw_lstore hd hn (mst_h (i := 8) rfl hc) kk
theorem mw_is10 {x : Int32} {a0 a1 a2 a3 a4 a5 a6 a7 a8 a9 a10 : Option Value} {t : List (Option Value)} (hd : decode cc pc = .ok (.istore 10, 2)) (hn : 10 < nL) (hc : mC1 a9 = true) (kk : mW X cc nL rt own d G Q (pc + 2) (a0 :: a1 :: a2 :: a3 :: a4 :: a5 :: a6 :: a7 :: a8 :: a9 :: some (.int x) :: t) st μ) : mW X cc nL rt own d G Q pc (a0 :: a1 :: a2 :: a3 :: a4 :: a5 :: a6 :: a7 :: a8 :: a9 :: a10 :: t) (.int x :: st) μ := mw_istore hd hn (mst_h (i := 9) rfl hc) kk
theorem mw_as10 {x : Nat} {a0 a1 a2 a3 a4 a5 a6 a7 a8 a9 a10 : Option Value} {t : List (Option Value)} (hd : decode cc pc = .ok (.astore 10, 2)) (hn : 10 < nL) (hc : mC1 a9 = true) (kk : mW X cc nL rt own d G Q (pc + 2) (a0 :: a1 :: a2 :: a3 :: a4 :: a5 :: a6 :: a7 :: a8 :: a9 :: some (.ref x) :: t) st μ) : mW X cc nL rt own d G Q pc (a0 :: a1 :: a2 :: a3 :: a4 :: a5 :: a6 :: a7 :: a8 :: a9 :: a10 :: t) (.ref x :: st) μ := mw_astore hd hn (mst_h (i := 9) rfl hc) kk
theorem mw_ii10 {z n : Int} {a0 a1 a2 a3 a4 a5 a6 a7 a8 a9 : Option Value} {t : List (Option Value)} (hd : decode cc pc = .ok (.iinc 10 n, 3)) (hn : 10 < nL) (hc : mC1 a9 = true) (kk : mW X cc nL rt own d G Q (pc + 3) (a0 :: a1 :: a2 :: a3 :: a4 :: a5 :: a6 :: a7 :: a8 :: a9 :: some (.int (iV (z + n))) :: t) st μ) : mW X cc nL rt own d G Q pc (a0 :: a1 :: a2 :: a3 :: a4 :: a5 :: a6 :: a7 :: a8 :: a9 :: some (.int (iV z)) :: t) st μ := mw_iinc (z := z) hd rfl hn (mst_h (i := 9) rfl hc) kk
theorem mw_ls10 {x : Int64} {a0 a1 a2 a3 a4 a5 a6 a7 a8 a9 a10 : Option Value} {t : List (Option Value)} {b : Option Value} (hd : decode cc pc = .ok (.lstore 10, 2)) (hn : 10 + 1 < nL) (hc : mC1 a9 = true) (kk : mW X cc nL rt own d G Q (pc + 2) (a0 :: a1 :: a2 :: a3 :: a4 :: a5 :: a6 :: a7 :: a8 :: a9 :: some (.long x) :: none :: t) st μ) : mW X cc nL rt own d G Q pc (a0 :: a1 :: a2 :: a3 :: a4 :: a5 :: a6 :: a7 :: a8 :: a9 :: a10 :: b :: t) (.long x :: st) μ := mw_lstore hd hn (mst_h (i := 9) rfl hc) kk
theorem mw_is11 {x : Int32} {a0 a1 a2 a3 a4 a5 a6 a7 a8 a9 a10 a11 : Option Value} {t : List (Option Value)} (hd : decode cc pc = .ok (.istore 11, 2)) (hn : 11 < nL) (hc : mC1 a10 = true) (kk : mW X cc nL rt own d G Q (pc + 2) (a0 :: a1 :: a2 :: a3 :: a4 :: a5 :: a6 :: a7 :: a8 :: a9 :: a10 :: some (.int x) :: t) st μ) : mW X cc nL rt own d G Q pc (a0 :: a1 :: a2 :: a3 :: a4 :: a5 :: a6 :: a7 :: a8 :: a9 :: a10 :: a11 :: t) (.int x :: st) μ := mw_istore hd hn (mst_h (i := 10) rfl hc) kk
theorem mw_as11 {x : Nat} {a0 a1 a2 a3 a4 a5 a6 a7 a8 a9 a10 a11 : Option Value} {t : List (Option Value)} (hd : decode cc pc = .ok (.astore 11, 2)) (hn : 11 < nL) (hc : mC1 a10 = true) (kk : mW X cc nL rt own d G Q (pc + 2) (a0 :: a1 :: a2 :: a3 :: a4 :: a5 :: a6 :: a7 :: a8 :: a9 :: a10 :: some (.ref x) :: t) st μ) : mW X cc nL rt own d G Q pc (a0 :: a1 :: a2 :: a3 :: a4 :: a5 :: a6 :: a7 :: a8 :: a9 :: a10 :: a11 :: t) (.ref x :: st) μ := mw_astore hd hn (mst_h (i := 10) rfl hc) kk
theorem mw_ii11 {z n : Int} {a0 a1 a2 a3 a4 a5 a6 a7 a8 a9 a10 : Option Value} {t : List (Option Value)} (hd : decode cc pc = .ok (.iinc 11 n, 3)) (hn : 11 < nL) (hc : mC1 a10 = true) (kk : mW X cc nL rt own d G Q (pc + 3) (a0 :: a1 :: a2 :: a3 :: a4 :: a5 :: a6 :: a7 :: a8 :: a9 :: a10 :: some (.int (iV (z + n))) :: t) st μ) : mW X cc nL rt own d G Q pc (a0 :: a1 :: a2 :: a3 :: a4 :: a5 :: a6 :: a7 :: a8 :: a9 :: a10 :: some (.int (iV z)) :: t) st μ := mw_iinc (z := z) hd rfl hn (mst_h (i := 10) rfl hc) kk
theorem mw_ls11 {x : Int64} {a0 a1 a2 a3 a4 a5 a6 a7 a8 a9 a10 a11 : Option Value} {t : List (Option Value)} {b : Option Value} (hd : decode cc pc = .ok (.lstore 11, 2)) (hn : 11 + 1 < nL) (hc : mC1 a10 = true) (kk : mW X cc nL rt own d G Q (pc + 2) (a0 :: a1 :: a2 :: a3 :: a4 :: a5 :: a6 :: a7 :: a8 :: a9 :: a10 :: some (.long x) :: none :: t) st μ) : mW X cc nL rt own d G Q pc (a0 :: a1 :: a2 :: a3 :: a4 :: a5 :: a6 :: a7 :: a8 :: a9 :: a10 :: a11 :: b :: t) (.long x :: st) μ := mw_lstore hd hn (mst_h (i := 10) rfl hc) kk
theorem mw_is12 {x : Int32} {a0 a1 a2 a3 a4 a5 a6 a7 a8 a9 a10 a11 a12 : Option Value} {t : List (Option Value)} (hd : decode cc pc = .ok (.istore 12, 2)) (hn : 12 < nL) (hc : mC1 a11 = true) (kk : mW X cc nL rt own d G Q (pc + 2) (a0 :: a1 :: a2 :: a3 :: a4 :: a5 :: a6 :: a7 :: a8 :: a9 :: a10 :: a11 :: some (.int x) :: t) st μ) : mW X cc nL rt own d G Q pc (a0 :: a1 :: a2 :: a3 :: a4 :: a5 :: a6 :: a7 :: a8 :: a9 :: a10 :: a11 :: a12 :: t) (.int x :: st) μ := mw_istore hd hn (mst_h (i := 11) rfl hc) kk
theorem mw_as12 {x : Nat} {a0 a1 a2 a3 a4 a5 a6 a7 a8 a9 a10 a11 a12 : Option Value} {t : List (Option Value)} (hd : decode cc pc = .ok (.astore 12, 2)) (hn : 12 < nL) (hc : mC1 a11 = true) (kk : mW X cc nL rt own d G Q (pc + 2) (a0 :: a1 :: a2 :: a3 :: a4 :: a5 :: a6 :: a7 :: a8 :: a9 :: a10 :: a11 :: some (.ref x) :: t) st μ) : mW X cc nL rt own d G Q pc (a0 :: a1 :: a2 :: a3 :: a4 :: a5 :: a6 :: a7 :: a8 :: a9 :: a10 :: a11 :: a12 :: t) (.ref x :: st) μ := mw_astore hd hn (mst_h (i := 11) rfl hc) kk
theorem mw_ii12 {z n : Int} {a0 a1 a2 a3 a4 a5 a6 a7 a8 a9 a10 a11 : Option Value} {t : List (Option Value)} (hd : decode cc pc = .ok (.iinc 12 n, 3)) (hn : 12 < nL) (hc : mC1 a11 = true) (kk : mW X cc nL rt own d G Q (pc + 3) (a0 :: a1 :: a2 :: a3 :: a4 :: a5 :: a6 :: a7 :: a8 :: a9 :: a10 :: a11 :: some (.int (iV (z + n))) :: t) st μ) : mW X cc nL rt own d G Q pc (a0 :: a1 :: a2 :: a3 :: a4 :: a5 :: a6 :: a7 :: a8 :: a9 :: a10 :: a11 :: some (.int (iV z)) :: t) st μ := mw_iinc (z := z) hd rfl hn (mst_h (i := 11) rfl hc) kk
theorem mw_ls12 {x : Int64} {a0 a1 a2 a3 a4 a5 a6 a7 a8 a9 a10 a11 a12 : Option Value} {t : List (Option Value)} {b : Option Value} (hd : decode cc pc = .ok (.lstore 12, 2)) (hn : 12 + 1 < nL) (hc : mC1 a11 = true) (kk : mW X cc nL rt own d G Q (pc + 2) (a0 :: a1 :: a2 :: a3 :: a4 :: a5 :: a6 :: a7 :: a8 :: a9 :: a10 :: a11 :: some (.long x) :: none :: t) st μ) : mW X cc nL rt own d G Q pc (a0 :: a1 :: a2 :: a3 :: a4 :: a5 :: a6 :: a7 :: a8 :: a9 :: a10 :: a11 :: a12 :: b :: t) (.long x :: st) μ := mw_lstore hd hn (mst_h (i := 11) rfl hc) kk
theorem mw_is13 {x : Int32} {a0 a1 a2 a3 a4 a5 a6 a7 a8 a9 a10 a11 a12 a13 : Option Value} {t : List (Option Value)} (hd : decode cc pc = .ok (.istore 13, 2)) (hn : 13 < nL) (hc : mC1 a12 = true) (kk : mW X cc nL rt own d G Q (pc + 2) (a0 :: a1 :: a2 :: a3 :: a4 :: a5 :: a6 :: a7 :: a8 :: a9 :: a10 :: a11 :: a12 :: some (.int x) :: t) st μ) : mW X cc nL rt own d G Q pc (a0 :: a1 :: a2 :: a3 :: a4 :: a5 :: a6 :: a7 :: a8 :: a9 :: a10 :: a11 :: a12 :: a13 :: t) (.int x :: st) μ := mw_istore hd hn (mst_h (i := 12) rfl hc) kk
theorem mw_as13 {x : Nat} {a0 a1 a2 a3 a4 a5 a6 a7 a8 a9 a10 a11 a12 a13 : Option Value} {t : List (Option Value)} (hd : decode cc pc = .ok (.astore 13, 2)) (hn : 13 < nL) (hc : mC1 a12 = true) (kk : mW X cc nL rt own d G Q (pc + 2) (a0 :: a1 :: a2 :: a3 :: a4 :: a5 :: a6 :: a7 :: a8 :: a9 :: a10 :: a11 :: a12 :: some (.ref x) :: t) st μ) : mW X cc nL rt own d G Q pc (a0 :: a1 :: a2 :: a3 :: a4 :: a5 :: a6 :: a7 :: a8 :: a9 :: a10 :: a11 :: a12 :: a13 :: t) (.ref x :: st) μ := mw_astore hd hn (mst_h (i := 12) rfl hc) kk
theorem mw_ii13 {z n : Int} {a0 a1 a2 a3 a4 a5 a6 a7 a8 a9 a10 a11 a12 : Option Value} {t : List (Option Value)} (hd : decode cc pc = .ok (.iinc 13 n, 3)) (hn : 13 < nL) (hc : mC1 a12 = true) (kk : mW X cc nL rt own d G Q (pc + 3) (a0 :: a1 :: a2 :: a3 :: a4 :: a5 :: a6 :: a7 :: a8 :: a9 :: a10 :: a11 :: a12 :: some (.int (iV (z + n))) :: t) st μ) : mW X cc nL rt own d G Q pc (a0 :: a1 :: a2 :: a3 :: a4 :: a5 :: a6 :: a7 :: a8 :: a9 :: a10 :: a11 :: a12 :: some (.int (iV z)) :: t) st μ := mw_iinc (z := z) hd rfl hn (mst_h (i := 12) rfl hc) kk
theorem mw_ls13 {x : Int64} {a0 a1 a2 a3 a4 a5 a6 a7 a8 a9 a10 a11 a12 a13 : Option Value} {t : List (Option Value)} {b : Option Value} (hd : decode cc pc = .ok (.lstore 13, 2)) (hn : 13 + 1 < nL) (hc : mC1 a12 = true) (kk : mW X cc nL rt own d G Q (pc + 2) (a0 :: a1 :: a2 :: a3 :: a4 :: a5 :: a6 :: a7 :: a8 :: a9 :: a10 :: a11 :: a12 :: some (.long x) :: none :: t) st μ) : mW X cc nL rt own d G Q pc (a0 :: a1 :: a2 :: a3 :: a4 :: a5 :: a6 :: a7 :: a8 :: a9 :: a10 :: a11 :: a12 :: a13 :: b :: t) (.long x :: st) μ := mw_lstore hd hn (mst_h (i := 12) rfl hc) kk
theorem mw_is14 {x : Int32} {a0 a1 a2 a3 a4 a5 a6 a7 a8 a9 a10 a11 a12 a13 a14 : Option Value} {t : List (Option Value)} (hd : decode cc pc = .ok (.istore 14, 2)) (hn : 14 < nL) (hc : mC1 a13 = true) (kk : mW X cc nL rt own d G Q (pc + 2) (a0 :: a1 :: a2 :: a3 :: a4 :: a5 :: a6 :: a7 :: a8 :: a9 :: a10 :: a11 :: a12 :: a13 :: some (.int x) :: t) st μ) : mW X cc nL rt own d G Q pc (a0 :: a1 :: a2 :: a3 :: a4 :: a5 :: a6 :: a7 :: a8 :: a9 :: a10 :: a11 :: a12 :: a13 :: a14 :: t) (.int x :: st) μ := mw_istore hd hn (mst_h (i := 13) rfl hc) kk
theorem mw_as14 {x : Nat} {a0 a1 a2 a3 a4 a5 a6 a7 a8 a9 a10 a11 a12 a13 a14 : Option Value} {t : List (Option Value)} (hd : decode cc pc = .ok (.astore 14, 2)) (hn : 14 < nL) (hc : mC1 a13 = true) (kk : mW X cc nL rt own d G Q (pc + 2) (a0 :: a1 :: a2 :: a3 :: a4 :: a5 :: a6 :: a7 :: a8 :: a9 :: a10 :: a11 :: a12 :: a13 :: some (.ref x) :: t) st μ) : mW X cc nL rt own d G Q pc (a0 :: a1 :: a2 :: a3 :: a4 :: a5 :: a6 :: a7 :: a8 :: a9 :: a10 :: a11 :: a12 :: a13 :: a14 :: t) (.ref x :: st) μ := mw_astore hd hn (mst_h (i := 13) rfl hc) kk
theorem mw_ii14 {z n : Int} {a0 a1 a2 a3 a4 a5 a6 a7 a8 a9 a10 a11 a12 a13 : Option Value} {t : List (Option Value)} (hd : decode cc pc = .ok (.iinc 14 n, 3)) (hn : 14 < nL) (hc : mC1 a13 = true) (kk : mW X cc nL rt own d G Q (pc + 3) (a0 :: a1 :: a2 :: a3 :: a4 :: a5 :: a6 :: a7 :: a8 :: a9 :: a10 :: a11 :: a12 :: a13 :: some (.int (iV (z + n))) :: t) st μ) : mW X cc nL rt own d G Q pc (a0 :: a1 :: a2 :: a3 :: a4 :: a5 :: a6 :: a7 :: a8 :: a9 :: a10 :: a11 :: a12 :: a13 :: some (.int (iV z)) :: t) st μ := mw_iinc (z := z) hd rfl hn (mst_h (i := 13) rfl hc) kk
theorem mw_ls14 {x : Int64} {a0 a1 a2 a3 a4 a5 a6 a7 a8 a9 a10 a11 a12 a13 a14 : Option Value} {t : List (Option Value)} {b : Option Value} (hd : decode cc pc = .ok (.lstore 14, 2)) (hn : 14 + 1 < nL) (hc : mC1 a13 = true) (kk : mW X cc nL rt own d G Q (pc + 2) (a0 :: a1 :: a2 :: a3 :: a4 :: a5 :: a6 :: a7 :: a8 :: a9 :: a10 :: a11 :: a12 :: a13 :: some (.long x) :: none :: t) st μ) : mW X cc nL rt own d G Q pc (a0 :: a1 :: a2 :: a3 :: a4 :: a5 :: a6 :: a7 :: a8 :: a9 :: a10 :: a11 :: a12 :: a13 :: a14 :: b :: t) (.long x :: st) μ := mw_lstore hd hn (mst_h (i := 13) rfl hc) kk
theorem mw_is15 {x : Int32} {a0 a1 a2 a3 a4 a5 a6 a7 a8 a9 a10 a11 a12 a13 a14 a15 : Option Value} {t : List (Option Value)} (hd : decode cc pc = .ok (.istore 15, 2)) (hn : 15 < nL) (hc : mC1 a14 = true) (kk : mW X cc nL rt own d G Q (pc + 2) (a0 :: a1 :: a2 :: a3 :: a4 :: a5 :: a6 :: a7 :: a8 :: a9 :: a10 :: a11 :: a12 :: a13 :: a14 :: some (.int x) :: t) st μ) : mW X cc nL rt own d G Q pc (a0 :: a1 :: a2 :: a3 :: a4 :: a5 :: a6 :: a7 :: a8 :: a9 :: a10 :: a11 :: a12 :: a13 :: a14 :: a15 :: t) (.int x :: st) μ := mw_istore hd hn (mst_h (i := 14) rfl hc) kk
theorem mw_as15 {x : Nat} {a0 a1 a2 a3 a4 a5 a6 a7 a8 a9 a10 a11 a12 a13 a14 a15 : Option Value} {t : List (Option Value)} (hd : decode cc pc = .ok (.astore 15, 2)) (hn : 15 < nL) (hc : mC1 a14 = true) (kk : mW X cc nL rt own d G Q (pc + 2) (a0 :: a1 :: a2 :: a3 :: a4 :: a5 :: a6 :: a7 :: a8 :: a9 :: a10 :: a11 :: a12 :: a13 :: a14 :: some (.ref x) :: t) st μ) : mW X cc nL rt own d G Q pc (a0 :: a1 :: a2 :: a3 :: a4 :: a5 :: a6 :: a7 :: a8 :: a9 :: a10 :: a11 :: a12 :: a13 :: a14 :: a15 :: t) (.ref x :: st) μ := mw_astore hd hn (mst_h (i := 14) rfl hc) kk
theorem mw_ii15 {z n : Int} {a0 a1 a2 a3 a4 a5 a6 a7 a8 a9 a10 a11 a12 a13 a14 : Option Value} {t : List (Option Value)} (hd : decode cc pc = .ok (.iinc 15 n, 3)) (hn : 15 < nL) (hc : mC1 a14 = true) (kk : mW X cc nL rt own d G Q (pc + 3) (a0 :: a1 :: a2 :: a3 :: a4 :: a5 :: a6 :: a7 :: a8 :: a9 :: a10 :: a11 :: a12 :: a13 :: a14 :: some (.int (iV (z + n))) :: t) st μ) : mW X cc nL rt own d G Q pc (a0 :: a1 :: a2 :: a3 :: a4 :: a5 :: a6 :: a7 :: a8 :: a9 :: a10 :: a11 :: a12 :: a13 :: a14 :: some (.int (iV z)) :: t) st μ := mw_iinc (z := z) hd rfl hn (mst_h (i := 14) rfl hc) kk
theorem mw_ls15 {x : Int64} {a0 a1 a2 a3 a4 a5 a6 a7 a8 a9 a10 a11 a12 a13 a14 a15 : Option Value} {t : List (Option Value)} {b : Option Value} (hd : decode cc pc = .ok (.lstore 15, 2)) (hn : 15 + 1 < nL) (hc : mC1 a14 = true) (kk : mW X cc nL rt own d G Q (pc + 2) (a0 :: a1 :: a2 :: a3 :: a4 :: a5 :: a6 :: a7 :: a8 :: a9 :: a10 :: a11 :: a12 :: a13 :: a14 :: some (.long x) :: none :: t) st μ) : mW X cc nL rt own d G Q pc (a0 :: a1 :: a2 :: a3 :: a4 :: a5 :: a6 :: a7 :: a8 :: a9 :: a10 :: a11 :: a12 :: a13 :: a14 :: a15 :: b :: t) (.long x :: st) μ := mw_lstore hd hn (mst_h (i := 14) rfl hc) kk
end STORES
/-! answers that are exact: the value, and the memory behind -/
def pI (v : Int) (μ : mMem) : Option Value → mMem → Prop := fun r m => r = some (.int (iV v)) ∧ m = μ
def pR (k : Nat) (μ : mMem) : Option Value → mMem → Prop := fun r m => r = some (.ref k) ∧ m = μ
def pV (μ : mMem) : Option Value → mMem → Prop := fun r m => r = none ∧ m = μ
def pL (x : Int64) (μ : mMem) : Option Value → mMem → Prop := fun r m => r = some (.long x) ∧ m = μ
section CALLS
variable {X : mX} {cc : ByteArray} {nL : Nat} {rt : Option FieldType} {own : String} {d : Nat} {G : mG} {Q : Option Value → mMem → Prop} {pc : Nat} {lv : List (Option Value)} {st : List Value} {μ : mMem}
variable {idx : Nat} {y : MethodName} {cc' : ByteArray} {nL' : Nat} {rt' : Option FieldType} {d' n : Nat} {k : Nat} {as rest : List Value} {ci : Nat} {T : u_T} {N : Nat}
theorem mw_Vi {P : Int → mMem → Prop} (hd : decode cc pc = .ok (.invokevirtual idx, 3)) (hw : Cond.methodLink own idx y ∈ mTb) (hs : sMv y cc' nL' rt' n) (hD : d' + 1 ≤ d ∧ 8 + (nL' + 11) + 37 * d' ≤ 37 * d) (hk : mCls k = ci) (hci : ci < 8) (hc : vwCl[ci]? = some (y.cls, T, N)) (hn : as.length = n) (hst : as.reverse ++ .ref k :: rest = st) (hr : (rest.map fun v => v.category).sum ≤ 8) (hM : mM G y cc' nL' rt' d' (.ref k :: as) μ (qI P))
    (kk : ∀ (z : Int) (μ' : mMem), P z μ' → mW X cc nL rt own d G Q (pc + 3) lv (.int (iV z) :: rest) μ') : mW X cc nL rt own d G Q pc lv st μ := mw_callV hd hw hs hD hM hk hci hc hn hst hr (fun r μ' h => by obtain ⟨z, rfl, h⟩ := h; exact kk z μ' h)
theorem mw_Si {P : Int → mMem → Prop} (hd : decode cc pc = .ok (.invokestatic idx, 3)) (hw : Cond.methodLink own idx y ∈ mTb) (hs : sMs y cc' nL' rt' n) (hD : d' + 1 ≤ d ∧ 8 + (nL' + 11) + 37 * d' ≤ 37 * d) (hn : as.length = n) (hst : as.reverse ++ rest = st) (hr : (rest.map fun v => v.category).sum ≤ 8) (hM : mM G y cc' nL' rt' d' as μ (qI P))
    (kk : ∀ (z : Int) (μ' : mMem), P z μ' → mW X cc nL rt own d G Q (pc + 3) lv (.int (iV z) :: rest) μ') : mW X cc nL rt own d G Q pc lv st μ := mw_callS hd hw hs hD hM hn hst hr (fun r μ' h => by obtain ⟨z, rfl, h⟩ := h; exact kk z μ' h)
theorem mw_Vl {P : Int64 → mMem → Prop} (hd : decode cc pc = .ok (.invokevirtual idx, 3)) (hw : Cond.methodLink own idx y ∈ mTb) (hs : sMv y cc' nL' rt' n) (hD : d' + 1 ≤ d ∧ 8 + (nL' + 11) + 37 * d' ≤ 37 * d) (hk : mCls k = ci) (hci : ci < 8) (hc : vwCl[ci]? = some (y.cls, T, N)) (hn : as.length = n) (hst : as.reverse ++ .ref k :: rest = st) (hr : (rest.map fun v => v.category).sum ≤ 8) (hM : mM G y cc' nL' rt' d' (.ref k :: as) μ (qL P))
    (kk : ∀ (z : Int64) (μ' : mMem), P z μ' → mW X cc nL rt own d G Q (pc + 3) lv (.long z :: rest) μ') : mW X cc nL rt own d G Q pc lv st μ := mw_callV hd hw hs hD hM hk hci hc hn hst hr (fun r μ' h => by obtain ⟨z, rfl, h⟩ := h; exact kk z μ' h)
theorem mw_Sl {P : Int64 → mMem → Prop} (hd : decode cc pc = .ok (.invokestatic idx, 3)) (hw : Cond.methodLink own idx y ∈ mTb) (hs : sMs y cc' nL' rt' n) (hD : d' + 1 ≤ d ∧ 8 + (nL' + 11) + 37 * d' ≤ 37 * d) (hn : as.length = n) (hst : as.reverse ++ rest = st) (hr : (rest.map fun v => v.category).sum ≤ 8) (hM : mM G y cc' nL' rt' d' as μ (qL P))
    (kk : ∀ (z : Int64) (μ' : mMem), P z μ' → mW X cc nL rt own d G Q (pc + 3) lv (.long z :: rest) μ') : mW X cc nL rt own d G Q pc lv st μ := mw_callS hd hw hs hD hM hn hst hr (fun r μ' h => by obtain ⟨z, rfl, h⟩ := h; exact kk z μ' h)
theorem mw_Vr {P : Nat → mMem → Prop} (hd : decode cc pc = .ok (.invokevirtual idx, 3)) (hw : Cond.methodLink own idx y ∈ mTb) (hs : sMv y cc' nL' rt' n) (hD : d' + 1 ≤ d ∧ 8 + (nL' + 11) + 37 * d' ≤ 37 * d) (hk : mCls k = ci) (hci : ci < 8) (hc : vwCl[ci]? = some (y.cls, T, N)) (hn : as.length = n) (hst : as.reverse ++ .ref k :: rest = st) (hr : (rest.map fun v => v.category).sum ≤ 8) (hM : mM G y cc' nL' rt' d' (.ref k :: as) μ (qR P))
    (kk : ∀ (z : Nat) (μ' : mMem), P z μ' → mW X cc nL rt own d G Q (pc + 3) lv (.ref z :: rest) μ') : mW X cc nL rt own d G Q pc lv st μ := mw_callV hd hw hs hD hM hk hci hc hn hst hr (fun r μ' h => by obtain ⟨z, rfl, h⟩ := h; exact kk z μ' h)
theorem mw_Sr {P : Nat → mMem → Prop} (hd : decode cc pc = .ok (.invokestatic idx, 3)) (hw : Cond.methodLink own idx y ∈ mTb) (hs : sMs y cc' nL' rt' n) (hD : d' + 1 ≤ d ∧ 8 + (nL' + 11) + 37 * d' ≤ 37 * d) (hn : as.length = n) (hst : as.reverse ++ rest = st) (hr : (rest.map fun v => v.category).sum ≤ 8) (hM : mM G y cc' nL' rt' d' as μ (qR P))
    (kk : ∀ (z : Nat) (μ' : mMem), P z μ' → mW X cc nL rt own d G Q (pc + 3) lv (.ref z :: rest) μ') : mW X cc nL rt own d G Q pc lv st μ := mw_callS hd hw hs hD hM hn hst hr (fun r μ' h => by obtain ⟨z, rfl, h⟩ := h; exact kk z μ' h)
theorem mw_Vv {P : mMem → Prop} (hd : decode cc pc = .ok (.invokevirtual idx, 3)) (hw : Cond.methodLink own idx y ∈ mTb) (hs : sMv y cc' nL' rt' n) (hD : d' + 1 ≤ d ∧ 8 + (nL' + 11) + 37 * d' ≤ 37 * d) (hk : mCls k = ci) (hci : ci < 8) (hc : vwCl[ci]? = some (y.cls, T, N)) (hn : as.length = n) (hst : as.reverse ++ .ref k :: rest = st) (hr : (rest.map fun v => v.category).sum ≤ 8) (hM : mM G y cc' nL' rt' d' (.ref k :: as) μ (qV P))
    (kk : ∀ (μ' : mMem), P μ' → mW X cc nL rt own d G Q (pc + 3) lv rest μ') : mW X cc nL rt own d G Q pc lv st μ := mw_callV hd hw hs hD hM hk hci hc hn hst hr (fun r μ' h => by obtain ⟨rfl, h⟩ := h; exact kk μ' h)
theorem mw_Sv {P : mMem → Prop} (hd : decode cc pc = .ok (.invokestatic idx, 3)) (hw : Cond.methodLink own idx y ∈ mTb) (hs : sMs y cc' nL' rt' n) (hD : d' + 1 ≤ d ∧ 8 + (nL' + 11) + 37 * d' ≤ 37 * d) (hn : as.length = n) (hst : as.reverse ++ rest = st) (hr : (rest.map fun v => v.category).sum ≤ 8) (hM : mM G y cc' nL' rt' d' as μ (qV P))
    (kk : ∀ (μ' : mMem), P μ' → mW X cc nL rt own d G Q (pc + 3) lv rest μ') : mW X cc nL rt own d G Q pc lv st μ := mw_callS hd hw hs hD hM hn hst hr (fun r μ' h => by obtain ⟨rfl, h⟩ := h; exact kk μ' h)
theorem mw_Vpi {v : Int} {μ2 : mMem} (hd : decode cc pc = .ok (.invokevirtual idx, 3)) (hw : Cond.methodLink own idx y ∈ mTb) (hs : sMv y cc' nL' rt' n) (hD : d' + 1 ≤ d ∧ 8 + (nL' + 11) + 37 * d' ≤ 37 * d) (hk : mCls k = ci) (hci : ci < 8) (hc : vwCl[ci]? = some (y.cls, T, N)) (hn : as.length = n) (hst : as.reverse ++ .ref k :: rest = st) (hr : (rest.map fun v => v.category).sum ≤ 8) (hM : mM G y cc' nL' rt' d' (.ref k :: as) μ (pI v μ2))
    (kk : mW X cc nL rt own d G Q (pc + 3) lv (.int (iV v) :: rest) μ2) : mW X cc nL rt own d G Q pc lv st μ := mw_callV hd hw hs hD hM hk hci hc hn hst hr (fun r μ' h => by obtain ⟨rfl, rfl⟩ := h; exact kk)
theorem mw_Spi {v : Int} {μ2 : mMem} (hd : decode cc pc = .ok (.invokestatic idx, 3)) (hw : Cond.methodLink own idx y ∈ mTb) (hs : sMs y cc' nL' rt' n) (hD : d' + 1 ≤ d ∧ 8 + (nL' + 11) + 37 * d' ≤ 37 * d) (hn : as.length = n) (hst : as.reverse ++ rest = st) (hr : (rest.map fun v => v.category).sum ≤ 8) (hM : mM G y cc' nL' rt' d' as μ (pI v μ2))
    (kk : mW X cc nL rt own d G Q (pc + 3) lv (.int (iV v) :: rest) μ2) : mW X cc nL rt own d G Q pc lv st μ := mw_callS hd hw hs hD hM hn hst hr (fun r μ' h => by obtain ⟨rfl, rfl⟩ := h; exact kk)
theorem mw_Vpl {v : Int64} {μ2 : mMem} (hd : decode cc pc = .ok (.invokevirtual idx, 3)) (hw : Cond.methodLink own idx y ∈ mTb) (hs : sMv y cc' nL' rt' n) (hD : d' + 1 ≤ d ∧ 8 + (nL' + 11) + 37 * d' ≤ 37 * d) (hk : mCls k = ci) (hci : ci < 8) (hc : vwCl[ci]? = some (y.cls, T, N)) (hn : as.length = n) (hst : as.reverse ++ .ref k :: rest = st) (hr : (rest.map fun v => v.category).sum ≤ 8) (hM : mM G y cc' nL' rt' d' (.ref k :: as) μ (pL v μ2))
    (kk : mW X cc nL rt own d G Q (pc + 3) lv (.long v :: rest) μ2) : mW X cc nL rt own d G Q pc lv st μ := mw_callV hd hw hs hD hM hk hci hc hn hst hr (fun r μ' h => by obtain ⟨rfl, rfl⟩ := h; exact kk)
theorem mw_Spl {v : Int64} {μ2 : mMem} (hd : decode cc pc = .ok (.invokestatic idx, 3)) (hw : Cond.methodLink own idx y ∈ mTb) (hs : sMs y cc' nL' rt' n) (hD : d' + 1 ≤ d ∧ 8 + (nL' + 11) + 37 * d' ≤ 37 * d) (hn : as.length = n) (hst : as.reverse ++ rest = st) (hr : (rest.map fun v => v.category).sum ≤ 8) (hM : mM G y cc' nL' rt' d' as μ (pL v μ2))
    (kk : mW X cc nL rt own d G Q (pc + 3) lv (.long v :: rest) μ2) : mW X cc nL rt own d G Q pc lv st μ := mw_callS hd hw hs hD hM hn hst hr (fun r μ' h => by obtain ⟨rfl, rfl⟩ := h; exact kk)
theorem mw_Vpr {v : Nat} {μ2 : mMem} (hd : decode cc pc = .ok (.invokevirtual idx, 3)) (hw : Cond.methodLink own idx y ∈ mTb) (hs : sMv y cc' nL' rt' n) (hD : d' + 1 ≤ d ∧ 8 + (nL' + 11) + 37 * d' ≤ 37 * d) (hk : mCls k = ci) (hci : ci < 8) (hc : vwCl[ci]? = some (y.cls, T, N)) (hn : as.length = n) (hst : as.reverse ++ .ref k :: rest = st) (hr : (rest.map fun v => v.category).sum ≤ 8) (hM : mM G y cc' nL' rt' d' (.ref k :: as) μ (pR v μ2))
    (kk : mW X cc nL rt own d G Q (pc + 3) lv (.ref v :: rest) μ2) : mW X cc nL rt own d G Q pc lv st μ := mw_callV hd hw hs hD hM hk hci hc hn hst hr (fun r μ' h => by obtain ⟨rfl, rfl⟩ := h; exact kk)
theorem mw_Spr {v : Nat} {μ2 : mMem} (hd : decode cc pc = .ok (.invokestatic idx, 3)) (hw : Cond.methodLink own idx y ∈ mTb) (hs : sMs y cc' nL' rt' n) (hD : d' + 1 ≤ d ∧ 8 + (nL' + 11) + 37 * d' ≤ 37 * d) (hn : as.length = n) (hst : as.reverse ++ rest = st) (hr : (rest.map fun v => v.category).sum ≤ 8) (hM : mM G y cc' nL' rt' d' as μ (pR v μ2))
    (kk : mW X cc nL rt own d G Q (pc + 3) lv (.ref v :: rest) μ2) : mW X cc nL rt own d G Q pc lv st μ := mw_callS hd hw hs hD hM hn hst hr (fun r μ' h => by obtain ⟨rfl, rfl⟩ := h; exact kk)
theorem mw_Vpv {μ2 : mMem} (hd : decode cc pc = .ok (.invokevirtual idx, 3)) (hw : Cond.methodLink own idx y ∈ mTb) (hs : sMv y cc' nL' rt' n) (hD : d' + 1 ≤ d ∧ 8 + (nL' + 11) + 37 * d' ≤ 37 * d) (hk : mCls k = ci) (hci : ci < 8) (hc : vwCl[ci]? = some (y.cls, T, N)) (hn : as.length = n) (hst : as.reverse ++ .ref k :: rest = st) (hr : (rest.map fun v => v.category).sum ≤ 8) (hM : mM G y cc' nL' rt' d' (.ref k :: as) μ (pV μ2))
    (kk : mW X cc nL rt own d G Q (pc + 3) lv rest μ2) : mW X cc nL rt own d G Q pc lv st μ := mw_callV hd hw hs hD hM hk hci hc hn hst hr (fun r μ' h => by obtain ⟨rfl, rfl⟩ := h; exact kk)
theorem mw_Spv {μ2 : mMem} (hd : decode cc pc = .ok (.invokestatic idx, 3)) (hw : Cond.methodLink own idx y ∈ mTb) (hs : sMs y cc' nL' rt' n) (hD : d' + 1 ≤ d ∧ 8 + (nL' + 11) + 37 * d' ≤ 37 * d) (hn : as.length = n) (hst : as.reverse ++ rest = st) (hr : (rest.map fun v => v.category).sum ≤ 8) (hM : mM G y cc' nL' rt' d' as μ (pV μ2))
    (kk : mW X cc nL rt own d G Q (pc + 3) lv rest μ2) : mW X cc nL rt own d G Q pc lv st μ := mw_callS hd hw hs hD hM hn hst hr (fun r μ' h => by obtain ⟨rfl, rfl⟩ := h; exact kk)
end CALLS
end
section
section GR
variable {X : mX} {cc : ByteArray} {nL : Nat} {rt : Option FieldType} {own : String} {d : Nat} {G : mG} {Q : Option Value → mMem → Prop} {pc : Nat} {lv : List (Option Value)} {st : List Value} {μ : mMem} {idx k : Nat} {z : Int}
theorem mw_gr_1_0 (hd : decode cc pc = .ok (.getfield idx, 3)) (hs : sG own idx 1 0) (hk : mCls k = 1) (kk : mW X cc nL rt own d G Q (pc + 3) lv (.ref (k + 1) :: st) μ) : mW X cc nL rt own d G Q pc lv (.ref k :: st) μ := mw_getR (k + 1) hd hs hk (by decide) (by unfold mRf; rw [hk]; rfl) kk
theorem mw_gr_1_1 (hd : decode cc pc = .ok (.getfield idx, 3)) (hs : sG own idx 1 1) (hk : mCls k = 1) (kk : mW X cc nL rt own d G Q (pc + 3) lv (.ref (k + 3) :: st) μ) : mW X cc nL rt own d G Q pc lv (.ref k :: st) μ := mw_getR (k + 3) hd hs hk (by decide) (by unfold mRf; rw [hk]; rfl) kk
theorem mw_gr_1_2 (hd : decode cc pc = .ok (.getfield idx, 3)) (hs : sG own idx 1 2) (hk : mCls k = 1) (kk : mW X cc nL rt own d G Q (pc + 3) lv (.ref (k + 5) :: st) μ) : mW X cc nL rt own d G Q pc lv (.ref k :: st) μ := mw_getR (k + 5) hd hs hk (by decide) (by unfold mRf; rw [hk]; rfl) kk
theorem mw_gr_2_0 (hd : decode cc pc = .ok (.getfield idx, 3)) (hs : sG own idx 2 0) (hk : mCls k = 2) (kk : mW X cc nL rt own d G Q (pc + 3) lv (.ref (43) :: st) μ) : mW X cc nL rt own d G Q pc lv (.ref k :: st) μ := mw_getR (43) hd hs hk (by decide) (by unfold mRf; rw [hk]; rfl) kk
theorem mw_gr_3_0 (hd : decode cc pc = .ok (.getfield idx, 3)) (hs : sG own idx 3 0) (hk : mCls k = 3) (kk : mW X cc nL rt own d G Q (pc + 3) lv (.ref (k + 1) :: st) μ) : mW X cc nL rt own d G Q pc lv (.ref k :: st) μ := mw_getR (k + 1) hd hs hk (by decide) (by unfold mRf; rw [hk]; rfl) kk
theorem mw_gr_4_0 (hd : decode cc pc = .ok (.getfield idx, 3)) (hs : sG own idx 4 0) (hk : mCls k = 4) (kk : mW X cc nL rt own d G Q (pc + 3) lv (.ref (k + 1) :: st) μ) : mW X cc nL rt own d G Q pc lv (.ref k :: st) μ := mw_getR (k + 1) hd hs hk (by decide) (by unfold mRf; rw [hk]; rfl) kk
theorem mw_gr_5_0 (hd : decode cc pc = .ok (.getfield idx, 3)) (hs : sG own idx 5 0) (hk : mCls k = 5) (kk : mW X cc nL rt own d G Q (pc + 3) lv (.ref (k + 1) :: st) μ) : mW X cc nL rt own d G Q pc lv (.ref k :: st) μ := mw_getR (k + 1) hd hs hk (by decide) (by unfold mRf; rw [hk]; rfl) kk
theorem mw_gr_6_0 (hd : decode cc pc = .ok (.getfield idx, 3)) (hs : sG own idx 6 0) (hk : mCls k = 6) (kk : mW X cc nL rt own d G Q (pc + 3) lv (.ref (1) :: st) μ) : mW X cc nL rt own d G Q pc lv (.ref k :: st) μ := mw_getR (1) hd hs hk (by decide) (by unfold mRf; rw [hk]; rfl) kk
theorem mw_gr_6_1 (hd : decode cc pc = .ok (.getfield idx, 3)) (hs : sG own idx 6 1) (hk : mCls k = 6) (kk : mW X cc nL rt own d G Q (pc + 3) lv (.ref (15) :: st) μ) : mW X cc nL rt own d G Q pc lv (.ref k :: st) μ := mw_getR (15) hd hs hk (by decide) (by unfold mRf; rw [hk]; rfl) kk
theorem mw_gr_6_3 (hd : decode cc pc = .ok (.getfield idx, 3)) (hs : sG own idx 6 3) (hk : mCls k = 6) (kk : mW X cc nL rt own d G Q (pc + 3) lv (.ref (29) :: st) μ) : mW X cc nL rt own d G Q pc lv (.ref k :: st) μ := mw_getR (29) hd hs hk (by decide) (by unfold mRf; rw [hk]; rfl) kk
theorem mw_gr_6_4 (hd : decode cc pc = .ok (.getfield idx, 3)) (hs : sG own idx 6 4) (hk : mCls k = 6) (kk : mW X cc nL rt own d G Q (pc + 3) lv (.ref (43) :: st) μ) : mW X cc nL rt own d G Q pc lv (.ref k :: st) μ := mw_getR (43) hd hs hk (by decide) (by unfold mRf; rw [hk]; rfl) kk
theorem mw_gr_6_5 (hd : decode cc pc = .ok (.getfield idx, 3)) (hs : sG own idx 6 5) (hk : mCls k = 6) (kk : mW X cc nL rt own d G Q (pc + 3) lv (.ref (45) :: st) μ) : mW X cc nL rt own d G Q pc lv (.ref k :: st) μ := mw_getR (45) hd hs hk (by decide) (by unfold mRf; rw [hk]; rfl) kk
theorem mw_gr_6_6 (hd : decode cc pc = .ok (.getfield idx, 3)) (hs : sG own idx 6 6) (hk : mCls k = 6) (kk : mW X cc nL rt own d G Q (pc + 3) lv (.ref (46) :: st) μ) : mW X cc nL rt own d G Q pc lv (.ref k :: st) μ := mw_getR (46) hd hs hk (by decide) (by unfold mRf; rw [hk]; rfl) kk
theorem mw_gr_6_7 (hd : decode cc pc = .ok (.getfield idx, 3)) (hs : sG own idx 6 7) (hk : mCls k = 6) (kk : mW X cc nL rt own d G Q (pc + 3) lv (.ref (55) :: st) μ) : mW X cc nL rt own d G Q pc lv (.ref k :: st) μ := mw_getR (55) hd hs hk (by decide) (by unfold mRf; rw [hk]; rfl) kk
theorem mw_gr_7_0 (hd : decode cc pc = .ok (.getfield idx, 3)) (hs : sG own idx 7 0) (hk : mCls k = 7) (kk : mW X cc nL rt own d G Q (pc + 3) lv (.ref (57) :: st) μ) : mW X cc nL rt own d G Q pc lv (.ref k :: st) μ := mw_getR (57) hd hs hk (by decide) (by unfold mRf; rw [hk]; rfl) kk
theorem mw_gr_7_1 (hd : decode cc pc = .ok (.getfield idx, 3)) (hs : sG own idx 7 1) (hk : mCls k = 7) (kk : mW X cc nL rt own d G Q (pc + 3) lv (.ref (58) :: st) μ) : mW X cc nL rt own d G Q pc lv (.ref k :: st) μ := mw_getR (58) hd hs hk (by decide) (by unfold mRf; rw [hk]; rfl) kk
theorem mw_gr_7_2 (hd : decode cc pc = .ok (.getfield idx, 3)) (hs : sG own idx 7 2) (hk : mCls k = 7) (kk : mW X cc nL rt own d G Q (pc + 3) lv (.ref (59) :: st) μ) : mW X cc nL rt own d G Q pc lv (.ref k :: st) μ := mw_getR (59) hd hs hk (by decide) (by unfold mRf; rw [hk]; rfl) kk
theorem mw_gr_7_4 (hd : decode cc pc = .ok (.getfield idx, 3)) (hs : sG own idx 7 4) (hk : mCls k = 7) (kk : mW X cc nL rt own d G Q (pc + 3) lv (.ref (60) :: st) μ) : mW X cc nL rt own d G Q pc lv (.ref k :: st) μ := mw_getR (60) hd hs hk (by decide) (by unfold mRf; rw [hk]; rfl) kk
theorem mw_gr_7_5 (hd : decode cc pc = .ok (.getfield idx, 3)) (hs : sG own idx 7 5) (hk : mCls k = 7) (kk : mW X cc nL rt own d G Q (pc + 3) lv (.ref (61) :: st) μ) : mW X cc nL rt own d G Q pc lv (.ref k :: st) μ := mw_getR (61) hd hs hk (by decide) (by unfold mRf; rw [hk]; rfl) kk
theorem mw_gr_7_6 (hd : decode cc pc = .ok (.getfield idx, 3)) (hs : sG own idx 7 6) (hk : mCls k = 7) (kk : mW X cc nL rt own d G Q (pc + 3) lv (.ref (62) :: st) μ) : mW X cc nL rt own d G Q pc lv (.ref k :: st) μ := mw_getR (62) hd hs hk (by decide) (by unfold mRf; rw [hk]; rfl) kk
theorem mw_gr_7_13 (hd : decode cc pc = .ok (.getfield idx, 3)) (hs : sG own idx 7 13) (hk : mCls k = 7) (kk : mW X cc nL rt own d G Q (pc + 3) lv (.ref (63) :: st) μ) : mW X cc nL rt own d G Q pc lv (.ref k :: st) μ := mw_getR (63) hd hs hk (by decide) (by unfold mRf; rw [hk]; rfl) kk
theorem mw_gr_7_14 (hd : decode cc pc = .ok (.getfield idx, 3)) (hs : sG own idx 7 14) (hk : mCls k = 7) (kk : mW X cc nL rt own d G Q (pc + 3) lv (.ref (64) :: st) μ) : mW X cc nL rt own d G Q pc lv (.ref k :: st) μ := mw_getR (64) hd hs hk (by decide) (by unfold mRf; rw [hk]; rfl) kk
theorem mw_gr_7_15 (hd : decode cc pc = .ok (.getfield idx, 3)) (hs : sG own idx 7 15) (hk : mCls k = 7) (kk : mW X cc nL rt own d G Q (pc + 3) lv (.ref (65) :: st) μ) : mW X cc nL rt own d G Q pc lv (.ref k :: st) μ := mw_getR (65) hd hs hk (by decide) (by unfold mRf; rw [hk]; rfl) kk
theorem mw_gr_7_16 (hd : decode cc pc = .ok (.getfield idx, 3)) (hs : sG own idx 7 16) (hk : mCls k = 7) (kk : mW X cc nL rt own d G Q (pc + 3) lv (.ref (66) :: st) μ) : mW X cc nL rt own d G Q pc lv (.ref k :: st) μ := mw_getR (66) hd hs hk (by decide) (by unfold mRf; rw [hk]; rfl) kk
theorem mw_gr_7_17 (hd : decode cc pc = .ok (.getfield idx, 3)) (hs : sG own idx 7 17) (hk : mCls k = 7) (kk : mW X cc nL rt own d G Q (pc + 3) lv (.ref (67) :: st) μ) : mW X cc nL rt own d G Q pc lv (.ref k :: st) μ := mw_getR (67) hd hs hk (by decide) (by unfold mRf; rw [hk]; rfl) kk
theorem mw_gr_7_20 (hd : decode cc pc = .ok (.getfield idx, 3)) (hs : sG own idx 7 20) (hk : mCls k = 7) (kk : mW X cc nL rt own d G Q (pc + 3) lv (.ref (68) :: st) μ) : mW X cc nL rt own d G Q pc lv (.ref k :: st) μ := mw_getR (68) hd hs hk (by decide) (by unfold mRf; rw [hk]; rfl) kk
theorem mw_gr_7_21 (hd : decode cc pc = .ok (.getfield idx, 3)) (hs : sG own idx 7 21) (hk : mCls k = 7) (kk : mW X cc nL rt own d G Q (pc + 3) lv (.ref (69) :: st) μ) : mW X cc nL rt own d G Q pc lv (.ref k :: st) μ := mw_getR (69) hd hs hk (by decide) (by unfold mRf; rw [hk]; rfl) kk
theorem mw_gr_7_22 (hd : decode cc pc = .ok (.getfield idx, 3)) (hs : sG own idx 7 22) (hk : mCls k = 7) (kk : mW X cc nL rt own d G Q (pc + 3) lv (.ref (70) :: st) μ) : mW X cc nL rt own d G Q pc lv (.ref k :: st) μ := mw_getR (70) hd hs hk (by decide) (by unfold mRf; rw [hk]; rfl) kk
theorem mw_gr_7_23 (hd : decode cc pc = .ok (.getfield idx, 3)) (hs : sG own idx 7 23) (hk : mCls k = 7) (kk : mW X cc nL rt own d G Q (pc + 3) lv (.ref (71) :: st) μ) : mW X cc nL rt own d G Q pc lv (.ref k :: st) μ := mw_getR (71) hd hs hk (by decide) (by unfold mRf; rw [hk]; rfl) kk
theorem mw_aa10 (hd : decode cc pc = .ok (.aaload, 1)) (hk : mCls k = 10) (hn : mLen k = 8) (hb : 0 ≤ z ∧ z < 8) (kk : mW X cc nL rt own d G Q (pc + 1) lv (.ref (k + 1 + z.toNat) :: st) μ) : mW X cc nL rt own d G Q pc lv (.int (iV z) :: .ref k :: st) μ := mw_aald 10 8 (k + 1 + z.toNat) hd hk (by decide) hn (by omega) (by unfold mRf; rw [hk]; rfl) kk
theorem mw_aa11 (hd : decode cc pc = .ok (.aaload, 1)) (hk : mCls k = 11) (hn : mLen k = 4) (hb : 0 ≤ z ∧ z < 4) (kk : mW X cc nL rt own d G Q (pc + 1) lv (.ref (47 + 2 * z.toNat) :: st) μ) : mW X cc nL rt own d G Q pc lv (.int (iV z) :: .ref k :: st) μ := mw_aald 11 4 (47 + 2 * z.toNat) hd hk (by decide) hn (by omega) (by unfold mRf; rw [hk]; rfl) kk
theorem mw_aa12 (hd : decode cc pc = .ok (.aaload, 1)) (hk : mCls k = 12) (hn : mLen k = 6) (hb : 0 ≤ z ∧ z < 6) (kk : mW X cc nL rt own d G Q (pc + 1) lv (.ref (100 + z.toNat) :: st) μ) : mW X cc nL rt own d G Q pc lv (.int (iV z) :: .ref k :: st) μ := mw_aald 12 6 (100 + z.toNat) hd hk (by decide) hn (by omega) (by unfold mRf; rw [hk]; rfl) kk
end GR
set_option maxHeartbeats 4000000 in
set_option maxRecDepth 100000 in
theorem c_min {G : mG} {μ : mMem} {a b : Int} (ha : -2147483648 ≤ a ∧ a ≤ 2147483647) (hb : -2147483648 ≤ b ∧ b ≤ 2147483647) : mM G yJ9_min_7cf53 cJ9_min_7cf53 2 (some .int) 0 [.int (iV a), .int (iV b)] μ (pI (min a b) μ) := by
  refine mM.of (lv := [some (.int (iV a)), some (.int (iV b))]) 0 (by decide +kernel) (Nat.le_of_ble_eq_true rfl) rfl ?_
  intro X
  refine mw_iload_n dJ9_min_7cf53_0 rfl ?_
  refine mw_iload_n dJ9_min_7cf53_1 rfl ?_
  refine mw_icmp_gt (tgt := 9) dJ9_min_7cf53_2 (by decide) (by omega) (by omega) (fun c_2 => ?_) (fun c_2 => ?_)
  · refine mw_iload_n dJ9_min_7cf53_9 rfl ?_
    refine mw_iret dJ9_min_7cf53_10 rfl ?_
    exact ⟨by congr; omega, rfl⟩
  · refine mw_iload_n dJ9_min_7cf53_5 rfl ?_
    refine mw_goto (tgt := 10) dJ9_min_7cf53_6 (by decide) ?_
    refine mw_iret dJ9_min_7cf53_10 rfl ?_
    exact ⟨by congr; omega, rfl⟩
set_option maxHeartbeats 4000000 in
set_option maxRecDepth 100000 in
theorem c_max {G : mG} {μ : mMem} {a b : Int} (ha : -2147483648 ≤ a ∧ a ≤ 2147483647) (hb : -2147483648 ≤ b ∧ b ≤ 2147483647) : mM G yJ9_max_7cf53 cJ9_max_7cf53 2 (some .int) 0 [.int (iV a), .int (iV b)] μ (pI (max a b) μ) := by
  refine mM.of (lv := [some (.int (iV a)), some (.int (iV b))]) 0 (by decide +kernel) (Nat.le_of_ble_eq_true rfl) rfl ?_
  intro X
  refine mw_iload_n dJ9_max_7cf53_0 rfl ?_
  refine mw_iload_n dJ9_max_7cf53_1 rfl ?_
  refine mw_icmp_lt (tgt := 9) dJ9_max_7cf53_2 (by decide) (by omega) (by omega) (fun c_2 => ?_) (fun c_2 => ?_)
  · refine mw_iload_n dJ9_max_7cf53_9 rfl ?_
    refine mw_iret dJ9_max_7cf53_10 rfl ?_
    exact ⟨by congr; omega, rfl⟩
  · refine mw_iload_n dJ9_max_7cf53_5 rfl ?_
    refine mw_goto (tgt := 10) dJ9_max_7cf53_6 (by decide) ?_
    refine mw_iret dJ9_max_7cf53_10 rfl ?_
    exact ⟨by congr; omega, rfl⟩
set_option maxHeartbeats 4000000 in
set_option maxRecDepth 100000 in
theorem c_abs {G : mG} {μ : mMem} {a : Int} (ha : -2147483647 ≤ a ∧ a ≤ 2147483647) : mM G yJ9_abs_0f7a4 cJ9_abs_0f7a4 1 (some .int) 0 [.int (iV a)] μ (pI (max a (-a)) μ) := by
  refine mM.of (lv := [some (.int (iV a))]) 0 (by decide +kernel) (Nat.le_of_ble_eq_true rfl) rfl ?_
  intro X
  refine mw_iload_n dJ9_abs_0f7a4_0 rfl ?_
  refine mw_if_ge (tgt := 9) dJ9_abs_0f7a4_1 (by decide) (by omega) (fun c_1 => ?_) (fun c_1 => ?_)
  · refine mw_iload_n dJ9_abs_0f7a4_9 rfl ?_
    refine mw_iret dJ9_abs_0f7a4_10 rfl ?_
    exact ⟨by congr; omega, rfl⟩
  · refine mw_iload_n dJ9_abs_0f7a4_4 rfl ?_
    refine mw_ineg dJ9_abs_0f7a4_5 ?_
    refine mw_goto (tgt := 10) dJ9_abs_0f7a4_6 (by decide) ?_
    refine mw_iret dJ9_abs_0f7a4_10 rfl ?_
    exact ⟨by congr; omega, rfl⟩
end
section
theorem fm_tab : ∀ n : Nat, n < 60 → (-2147483648 ≤ bRem ((n : Int) - 11) 12 ∧ bRem ((n : Int) - 11) 12 ≤ 2147483647) ∧ (-2147483648 ≤ bXor ((n : Int) - 11) 12 ∧ bXor ((n : Int) - 11) 12 ≤ 2147483647) ∧ (0 ≤ bXor ((n : Int) - 11) 12 → bRem ((n : Int) - 11) 12 = ((n : Int) - 11) % 12) ∧ (bXor ((n : Int) - 11) 12 < 0 → bRem ((n : Int) - 11) 12 = 0 → bRem ((n : Int) - 11) 12 = ((n : Int) - 11) % 12) ∧ (bXor ((n : Int) - 11) 12 < 0 → ¬ bRem ((n : Int) - 11) 12 = 0 → bRem ((n : Int) - 11) 12 + 12 = ((n : Int) - 11) % 12) := by decide +kernel
set_option maxHeartbeats 4000000 in
set_option maxRecDepth 100000 in
theorem c_floorMod {G : mG} {μ : mMem} {a : Int} (ha : -11 ≤ a ∧ a < 49) : mM G yJ9_floorMod_7cf53 cJ9_floorMod_7cf53 3 (some .int) 0 [.int (iV a), .int (iV 12)] μ (pI (a % 12) μ) := by
  obtain ⟨h1, h2, h3, h4, h5⟩ := fm_tab (a + 11).toNat (by omega)
  rw [show (((a + 11).toNat : Nat) : Int) - 11 = a by omega] at h1 h2 h3 h4 h5
  refine mM.of (lv := [some (.int (iV a)), some (.int (iV 12)), none]) 1 (by decide +kernel) (Nat.le_of_ble_eq_true rfl) rfl ?_
  intro X
  refine mw_iload_n dJ9_floorMod_7cf53_0 rfl ?_
  refine mw_iload_n dJ9_floorMod_7cf53_1 rfl ?_
  refine mw_irem dJ9_floorMod_7cf53_2 (by omega) (by omega) ?_
  refine mw_is2 dJ9_floorMod_7cf53_3 (by decide) rfl ?_
  refine mw_iload_n dJ9_floorMod_7cf53_4 rfl ?_
  refine mw_iload_n dJ9_floorMod_7cf53_5 rfl ?_
  refine mw_ixor dJ9_floorMod_7cf53_6 ?_
  refine mw_if_ge (tgt := 18) dJ9_floorMod_7cf53_7 (by decide) (by omega) (fun c_7 => ?_) (fun c_7 => ?_)
  · refine mw_iload_n dJ9_floorMod_7cf53_18 rfl ?_
    refine mw_iret dJ9_floorMod_7cf53_19 rfl ?_
    exact ⟨by congr; exact h3 c_7, rfl⟩
  · refine mw_iload_n dJ9_floorMod_7cf53_10 rfl ?_
    refine mw_if_eq (tgt := 18) dJ9_floorMod_7cf53_11 (by decide) (by omega) (fun c_11 => ?_) (fun c_11 => ?_)
    · refine mw_iload_n dJ9_floorMod_7cf53_18 rfl ?_
      refine mw_iret dJ9_floorMod_7cf53_19 rfl ?_
      exact ⟨by congr; exact h4 c_7 c_11, rfl⟩
    · refine mw_iload_n dJ9_floorMod_7cf53_14 rfl ?_
      refine mw_iload_n dJ9_floorMod_7cf53_15 rfl ?_
      refine mw_iadd dJ9_floorMod_7cf53_16 ?_
      refine mw_iret dJ9_floorMod_7cf53_17 rfl ?_
      exact ⟨by congr; exact h5 c_7 c_11, rfl⟩
/-- how many of the twelve bits -/
def pop (a : Int) : Int := ((List.range 12).map (fun i => a / 2 ^ i % 2)).sum
def pcE (a : Int) : Int :=
  let b := a - bAnd (bUshr a 1) 1431655765
  let c := bAnd b 858993459 + bAnd (bUshr b 2) 858993459
  let e := bAnd (c + bUshr c 4) 252645135
  let f := e + bUshr e 8
  let g := f + bUshr f 16
  bAnd g 63
theorem pcE_64 : ∀ i : Nat, i < 64 → ∀ j : Nat, j < 64 → pcE ((64 * i + j : Nat) : Int) = pop ((64 * i + j : Nat) : Int) := by decide +kernel
theorem pcE_tab (n : Nat) (h : n < 4096) : pcE (n : Int) = pop (n : Int) := by
  have := pcE_64 (n / 64) (by omega) (n % 64) (by omega)
  rwa [show 64 * (n / 64) + n % 64 = n by omega] at this
theorem pop_64 : ∀ i : Nat, i < 64 → ∀ j : Nat, j < 64 → ¬ (64 * i + j) = 0 → 0 ≤ bAnd ((64 * i + j : Nat) : Int) (((64 * i + j : Nat) : Int) - 1) ∧ bAnd ((64 * i + j : Nat) : Int) (((64 * i + j : Nat) : Int) - 1) < ((64 * i + j : Nat) : Int) ∧ pop (bAnd ((64 * i + j : Nat) : Int) (((64 * i + j : Nat) : Int) - 1)) + 1 = pop ((64 * i + j : Nat) : Int) := by decide +kernel
theorem pop_tab (n : Nat) (h : n < 4096) (h0 : ¬ n = 0) : 0 ≤ bAnd (n : Int) ((n : Int) - 1) ∧ bAnd (n : Int) ((n : Int) - 1) < (n : Int) ∧ pop (bAnd (n : Int) ((n : Int) - 1)) + 1 = pop (n : Int) := by
  have := pop_64 (n / 64) (by omega) (n % 64) (by omega) (by omega)
  rwa [show 64 * (n / 64) + n % 64 = n by omega] at this
theorem pop_0 : pop 0 = 0 := by decide +kernel
set_option maxHeartbeats 4000000 in
set_option maxRecDepth 100000 in
theorem c_bitCount {G : mG} {μ : mMem} {a : Int} (ha : 0 ≤ a ∧ a < 4096) : mM G yJ6_bitCount_0f7a4 cJ6_bitCount_0f7a4 1 (some .int) 0 [.int (iV a)] μ (pI (pop a) μ) := by
  have h1 := pcE_tab a.toNat (by omega)
  rw [show ((a.toNat : Nat) : Int) = a by omega] at h1
  refine mM.of (lv := [some (.int (iV a))]) 0 (by decide +kernel) (Nat.le_of_ble_eq_true rfl) rfl ?_
  intro X
  refine mw_iload_n dJ6_bitCount_0f7a4_0 rfl ?_
  refine mw_iload_n dJ6_bitCount_0f7a4_1 rfl ?_
  refine mw_iconst dJ6_bitCount_0f7a4_2 ?_
  refine mw_iushr dJ6_bitCount_0f7a4_3 ?_
  refine mw_ldcw dJ6_bitCount_0f7a4_4 ct_J6_265 ?_
  refine mw_iand dJ6_bitCount_0f7a4_7 ?_
  refine mw_isub dJ6_bitCount_0f7a4_8 ?_
  refine mw_is0 dJ6_bitCount_0f7a4_9 (by decide) ?_
  refine mw_iload_n dJ6_bitCount_0f7a4_10 rfl ?_
  refine mw_ldcw dJ6_bitCount_0f7a4_11 ct_J6_266 ?_
  refine mw_iand dJ6_bitCount_0f7a4_14 ?_
  refine mw_iload_n dJ6_bitCount_0f7a4_15 rfl ?_
  refine mw_iconst dJ6_bitCount_0f7a4_16 ?_
  refine mw_iushr dJ6_bitCount_0f7a4_17 ?_
  refine mw_ldcw dJ6_bitCount_0f7a4_18 ct_J6_266 ?_
  refine mw_iand dJ6_bitCount_0f7a4_21 ?_
  refine mw_iadd dJ6_bitCount_0f7a4_22 ?_
  refine mw_is0 dJ6_bitCount_0f7a4_23 (by decide) ?_
  refine mw_iload_n dJ6_bitCount_0f7a4_24 rfl ?_
  refine mw_iload_n dJ6_bitCount_0f7a4_25 rfl ?_
  refine mw_iconst dJ6_bitCount_0f7a4_26 ?_
  refine mw_iushr dJ6_bitCount_0f7a4_27 ?_
  refine mw_iadd dJ6_bitCount_0f7a4_28 ?_
  refine mw_ldcw dJ6_bitCount_0f7a4_29 ct_J6_267 ?_
  refine mw_iand dJ6_bitCount_0f7a4_32 ?_
  refine mw_is0 dJ6_bitCount_0f7a4_33 (by decide) ?_
  refine mw_iload_n dJ6_bitCount_0f7a4_34 rfl ?_
  refine mw_iload_n dJ6_bitCount_0f7a4_35 rfl ?_
  refine mw_bipush dJ6_bitCount_0f7a4_36 (by decide +kernel) ?_
  refine mw_iushr dJ6_bitCount_0f7a4_38 ?_
  refine mw_iadd dJ6_bitCount_0f7a4_39 ?_
  refine mw_is0 dJ6_bitCount_0f7a4_40 (by decide) ?_
  refine mw_iload_n dJ6_bitCount_0f7a4_41 rfl ?_
  refine mw_iload_n dJ6_bitCount_0f7a4_42 rfl ?_
  refine mw_bipush dJ6_bitCount_0f7a4_43 (by decide +kernel) ?_
  refine mw_iushr dJ6_bitCount_0f7a4_45 ?_
  refine mw_iadd dJ6_bitCount_0f7a4_46 ?_
  refine mw_is0 dJ6_bitCount_0f7a4_47 (by decide) ?_
  refine mw_iload_n dJ6_bitCount_0f7a4_48 rfl ?_
  refine mw_bipush dJ6_bitCount_0f7a4_49 (by decide +kernel) ?_
  refine mw_iand dJ6_bitCount_0f7a4_51 ?_
  refine mw_iret dJ6_bitCount_0f7a4_52 rfl ?_
  exact ⟨by rw [← h1]; rfl, rfl⟩
end
section
theorem ac_nat : Cond.native arraycopyName ∈ mTb := mTb_in (List.mem_of_getElem? (i := 468) (by decide +kernel)) rfl
theorem ac_sta : Cond.static arraycopyName ∈ mTb := mTb_in (List.mem_of_getElem? (i := 467) (by decide +kernel)) rfl
theorem ac_ini : Cond.initialized "java/lang/System" ∈ mTb := mTb_in (List.mem_of_getElem? (i := 72) (by decide +kernel)) rfl
theorem ac_X5_19 : Cond.methodLink RX5 19 arraycopyName ∈ mTb := mTb_in (List.mem_of_getElem? (i := 466) (by decide +kernel)) rfl
theorem ac_X6_253 : Cond.methodLink RX6 253 arraycopyName ∈ mTb := mTb_in (List.mem_of_getElem? (i := 718) (by decide +kernel)) rfl
def cpm (μ : mMem) (k0 : Nat) (sp : Int) (k1 : Nat) (dp n : Int) : mMem := (fun c j => if c = k1 ∧ dp ≤ j ∧ j < dp + n then μ.1 k0 (sp + (j - dp)) else μ.1 c j, μ.2)
def cpm2 (μ : mMem) (k0 : Nat) (sp : Int) (k1 : Nat) (dp n : Int) : mMem := (μ.1, fun c j => if c = k1 ∧ dp ≤ j ∧ j < dp + n then μ.2 k0 (sp + (j - dp)) else μ.2 c j)
theorem mE_cpo {G : mG} {μ : mMem} {k0 k1 k' : Nat} {sp dp n : Int} (h : k' ≠ k1) : mE G (cpm μ k0 sp k1 dp n) k' = mE G μ k' := by
  have e0 : (cpm μ k0 sp k1 dp n).1 k' = μ.1 k' := by
    funext j
    simp [cpm, h]
  unfold mE mFs
  rw [e0]
  rfl
theorem mE_cpo2 {G : mG} {μ : mMem} {k0 k1 k' : Nat} {sp dp n : Int} (h : k' ≠ k1) : mE G (cpm2 μ k0 sp k1 dp n) k' = mE G μ k' := by
  have e0 : (cpm2 μ k0 sp k1 dp n).2 k' = μ.2 k' := by
    funext j
    simp [cpm2, h]
  unfold mE
  rw [e0]
  rfl
section COPY
variable {X : mX} {cc : ByteArray} {nL : Nat} {rt : Option FieldType} {own : String} {d : Nat} {G : mG} {Q : Option Value → mMem → Prop} {pc : Nat} {lv : List (Option Value)} {st : List Value} {μ : mMem}
theorem nlt0 {z : Int} (h : 0 ≤ z ∧ z ≤ 2147483647) : ¬ iV z < 0 := by
  rw [← iV_0, iV_lt (by omega) (by omega)]
  omega
theorem mw_copyi {idx k0 k1 : Nat} {sp dp n : Int} (n0 n1 : Nat) (hd : decode cc pc = .ok (.invokestatic idx, 3)) (hw : Cond.methodLink own idx arraycopyName ∈ mTb) (h0 : mCls k0 = 8) (h1 : mCls k1 = 8) (e0 : mLen k0 = n0) (e1 : mLen k1 = n1) (hb : 0 ≤ sp ∧ 0 ≤ dp ∧ 0 ≤ n ∧ sp + n ≤ n0 ∧ dp + n ≤ n1) (hf : 1 ≤ d) (hL : (st.map fun v => v.category).sum + (nativeFrameWords "java/lang/System" "arraycopy" 5 + 11) ≤ 37 * d)
    (kk : mW X cc nL rt own d G Q (pc + 3) lv st (cpm μ k0 sp k1 dp n)) : mW X cc nL rt own d G Q pc lv (.int (iV n) :: .int (iV dp) :: .ref k1 :: .int (iV sp) :: .ref k0 :: st) μ := by
  obtain ⟨p, e, R, s, m, args, below, meth, c⟩ := X
  intro hC H locs ls hP hS hl
  obtain ⟨hx, hb', hml, hrt, hown, hlocks, rfl, hts, hE⟩ := id hC
  have l0 := mLen_le k0
  have l1 := mLen_le k1
  have k072 := mCls_lt h0 (by omega)
  have k172 := mCls_lt h1 (by omega)
  have a0 : (mWs G μ)[k0]? = some (G.1 k0, .inl (G.2.2.1 0, mLen k0, .inl (fun j => iV (μ.1 k0 (j : Int))))) := by rw [mWs_get G μ k072, mE_int h0]
  have a1 : (mWs G μ)[k1]? = some (G.1 k1, .inl (G.2.2.1 0, mLen k1, .inl (fun j => iV (μ.1 k1 (j : Int))))) := by rw [mWs_get G μ k172, mE_int h1]
  refine va_copyi hx hb' (hml.trans hl.1.symm) hown (hts _ hw) (hts _ ac_nat) (hts _ ac_sta) (hts _ ac_ini) hE.1 hP (mD μ hE.2.1) hS k0 k1 0 0 a0 a1 rfl rfl rfl (nlt0 (by omega)) (nlt0 (by omega)) (nlt0 (by omega)) ?_ ?_ (fun i _ => rfl) hf ?_ hd (fun H1 locs1 q1 _ q3 => kk hC H1 locs1 ls ?_ q3 hl)
  · rw [iV_clamp (by omega), iV_clamp (by omega)]; omega
  · rw [iV_clamp (by omega), iV_clamp (by omega)]; omega
  · have e := mw_cat G st
    show (((List.map (cv G) st).map fun v => v.category).sum + _) ≤ 37 * d
    rw [e]
    exact hL
  · rw [mWs_set (μ' := cpm μ k0 sp k1 dp n) k172 _ (fun j hj => mE_cpo hj)] at q1
    · exact q1
    · rw [mE_int h1]
      congr 4
      funext j
      rw [iV_clamp (by omega), iV_clamp (by omega), iV_clamp (by omega)]
      show iV (if k1 = k1 ∧ dp ≤ (j : Int) ∧ (j : Int) < dp + n then μ.1 k0 (sp + ((j : Int) - dp)) else μ.1 k1 (j : Int)) = if dp.toNat ≤ j ∧ j < dp.toNat + n.toNat then iV (μ.1 k0 ((sp.toNat + (j - dp.toNat) : Nat) : Int)) else iV (μ.1 k1 (j : Int))
      by_cases hj : dp ≤ (j : Int) ∧ (j : Int) < dp + n
      · rw [if_pos ⟨rfl, hj⟩, if_pos (by omega)]
        rw [show ((sp.toNat + (j - dp.toNat) : Nat) : Int) = sp + ((j : Int) - dp) by omega]
      · rw [if_neg (fun q => hj q.2), if_neg (by omega)]
theorem mw_copyl {idx k0 k1 : Nat} {sp dp n : Int} (n0 n1 : Nat) (hd : decode cc pc = .ok (.invokestatic idx, 3)) (hw : Cond.methodLink own idx arraycopyName ∈ mTb) (h0 : mCls k0 = 9) (h1 : mCls k1 = 9) (e0 : mLen k0 = n0) (e1 : mLen k1 = n1) (hb : 0 ≤ sp ∧ 0 ≤ dp ∧ 0 ≤ n ∧ sp + n ≤ n0 ∧ dp + n ≤ n1) (hf : 1 ≤ d) (hL : (st.map fun v => v.category).sum + (nativeFrameWords "java/lang/System" "arraycopy" 5 + 11) ≤ 37 * d)
    (kk : mW X cc nL rt own d G Q (pc + 3) lv st (cpm2 μ k0 sp k1 dp n)) : mW X cc nL rt own d G Q pc lv (.int (iV n) :: .int (iV dp) :: .ref k1 :: .int (iV sp) :: .ref k0 :: st) μ := by
  obtain ⟨p, e, R, s, m, args, below, meth, c⟩ := X
  intro hC H locs ls hP hS hl
  obtain ⟨hx, hb', hml, hrt, hown, hlocks, rfl, hts, hE⟩ := id hC
  have l0 := mLen_le k0
  have l1 := mLen_le k1
  have k072 := mCls_lt h0 (by omega)
  have k172 := mCls_lt h1 (by omega)
  have a0 : (mWs G μ)[k0]? = some (G.1 k0, .inl (G.2.2.1 1, mLen k0, .inr (.inl (fun j => μ.2 k0 (j : Int))))) := by rw [mWs_get G μ k072, mE_lng h0]
  have a1 : (mWs G μ)[k1]? = some (G.1 k1, .inl (G.2.2.1 1, mLen k1, .inr (.inl (fun j => μ.2 k1 (j : Int))))) := by rw [mWs_get G μ k172, mE_lng h1]
  refine va_copyl hx hb' (hml.trans hl.1.symm) hown (hts _ hw) (hts _ ac_nat) (hts _ ac_sta) (hts _ ac_ini) hE.1 hP (mD μ hE.2.1) hS k0 k1 1 1 a0 a1 rfl rfl rfl (nlt0 (by omega)) (nlt0 (by omega)) (nlt0 (by omega)) ?_ ?_ (fun i _ => rfl) hf ?_ hd (fun H1 locs1 q1 _ q3 => kk hC H1 locs1 ls ?_ q3 hl)
  · rw [iV_clamp (by omega), iV_clamp (by omega)]; omega
  · rw [iV_clamp (by omega), iV_clamp (by omega)]; omega
  · have e := mw_cat G st
    show (((List.map (cv G) st).map fun v => v.category).sum + _) ≤ 37 * d
    rw [e]
    exact hL
  · rw [mWs_set (μ' := cpm2 μ k0 sp k1 dp n) k172 _ (fun j hj => mE_cpo2 hj)] at q1
    · exact q1
    · rw [mE_lng h1]
      congr 5
      funext j
      rw [iV_clamp (by omega), iV_clamp (by omega), iV_clamp (by omega)]
      show (if k1 = k1 ∧ dp ≤ (j : Int) ∧ (j : Int) < dp + n then μ.2 k0 (sp + ((j : Int) - dp)) else μ.2 k1 (j : Int)) = if dp.toNat ≤ j ∧ j < dp.toNat + n.toNat then μ.2 k0 ((sp.toNat + (j - dp.toNat) : Nat) : Int) else μ.2 k1 (j : Int)
      by_cases hj : dp ≤ (j : Int) ∧ (j : Int) < dp + n
      · rw [if_pos ⟨rfl, hj⟩, if_pos (by omega)]
        rw [show ((sp.toNat + (j - dp.toNat) : Nat) : Int) = sp + ((j : Int) - dp) by omega]
      · rw [if_neg (fun q => hj q.2), if_neg (by omega)]
end COPY
/-! ===== the words of the document, over rows of numbers ===== -/
def leap (a b : Int) : Int := min (max (a - b) (-(a - b))) (12 - max (a - b) (-(a - b)))
/-- leaps of 4 or more among the first n tones -/
def tens (t : Int → Int) : Nat → Int
  | 0 => 0
  | n + 1 => tens t n + (if 1 ≤ n ∧ 4 ≤ leap (t ((n : Int) - 1)) (t (n : Int)) then 1 else 0)
theorem tens_bd (t : Int → Int) : ∀ n : Nat, 0 ≤ tens t n ∧ tens t n ≤ n
  | 0 => ⟨Int.le_refl 0, Int.le_refl 0⟩
  | n + 1 => by
    have h := tens_bd t n
    rw [tens]
    split <;> omega
theorem tens_congr {t u : Int → Int} : ∀ n : Nat, (∀ i : Int, 0 ≤ i → i < n → t i = u i) → tens t n = tens u n
  | 0, _ => rfl
  | n + 1, h => by
    rw [tens, tens, tens_congr n (fun i h1 h2 => h i h1 (by omega))]
    by_cases hn : 1 ≤ n
    · rw [h ((n : Int) - 1) (by omega) (by omega), h (n : Int) (by omega) (by omega)]
    · rw [if_neg (fun q => hn q.1), if_neg (fun q => hn q.1)]
def tset (t : Int → Int) : Nat → Int
  | 0 => 0
  | n + 1 => bOr (tset t n) (bShl 1 (t (n : Int)))
theorem tset_congr {t u : Int → Int} : ∀ n : Nat, (∀ i : Int, 0 ≤ i → i < n → t i = u i) → tset t n = tset u n
  | 0, _ => rfl
  | n + 1, h => by rw [tset, tset, tset_congr n (fun i h1 h2 => h i h1 (by omega)), h (n : Int) (by omega) (by omega)]
/-- places at which two rows are unlike, among the first n -/
def unlk (t u : Int → Int) (a b : Int) : Nat → Int
  | 0 => 0
  | n + 1 => unlk t u a b n + (if ((n : Int) < a ∧ (n : Int) < b) ∧ t (n : Int) = u (n : Int) then 0 else 1)
theorem unlk_bd (t u : Int → Int) (a b : Int) : ∀ n : Nat, 0 ≤ unlk t u a b n ∧ unlk t u a b n ≤ n
  | 0 => ⟨Int.le_refl 0, Int.le_refl 0⟩
  | n + 1 => by
    have h := unlk_bd t u a b n
    rw [unlk]
    split <;> omega
theorem unlk_congr {t u t' u' : Int → Int} {a b : Int} : ∀ n : Nat, (∀ i : Int, 0 ≤ i → i < n → i < a → i < b → t i = t' i ∧ u i = u' i) → unlk t u a b n = unlk t' u' a b n
  | 0, _ => rfl
  | n + 1, h => by
    rw [unlk, unlk, unlk_congr n (fun i h1 h2 h3 h4 => h i h1 (by omega) h3 h4)]
    by_cases hn : (n : Int) < a ∧ (n : Int) < b
    · obtain ⟨e1, e2⟩ := h (n : Int) (by omega) (by omega) hn.1 hn.2
      rw [e1, e2]
    · rw [if_neg (fun q => hn q.1), if_neg (fun q => hn q.1)]
theorem unlk_far {t u : Int → Int} {a b : Int} {n : Nat} (hn : min a b ≤ n) : ∀ k : Nat, unlk t u a b (n + k) = unlk t u a b n + k
  | 0 => (Int.add_zero _).symm
  | k + 1 => by
    rw [show n + (k + 1) = (n + k) + 1 from rfl, unlk, unlk_far hn k, if_neg (by omega)]
    omega
theorem unlk_sym {t u : Int → Int} {a b : Int} : ∀ n : Nat, unlk t u a b n = unlk u t b a n
  | 0 => rfl
  | n + 1 => by
    rw [unlk, unlk, unlk_sym n]
    congr 1
    by_cases h : ((n : Int) < a ∧ (n : Int) < b) ∧ t (n : Int) = u (n : Int)
    · rw [if_pos h, if_pos ⟨⟨h.1.2, h.1.1⟩, h.2.symm⟩]
    · rw [if_neg h, if_neg (fun q => h ⟨⟨q.1.2, q.1.1⟩, q.2.symm⟩)]
end
section
set_option maxHeartbeats 4000000 in
set_option maxRecDepth 100000 in
theorem c_T_clear {G : mG} {μ : mMem} {k : Nat} (hk : mCls k = 5) : mM G yX5_clear cX5_clear 1 none 0 [.ref k] μ (pV (u1 μ k 1 0)) := by
  refine mM.of (lv := [some (.ref k)]) 0 (by decide +kernel) (Nat.le_of_ble_eq_true rfl) rfl ?_
  intro X
  refine mw_aload_n dX5_clear_0 rfl ?_
  refine mw_iconst dX5_clear_1 ?_
  refine mw_putI 1 dX5_clear_2 ps_X5_15 (by first | rfl | assumption) rfl rfl ?_
  refine mw_vret dX5_clear_5 rfl ?_
  exact ⟨rfl, rfl⟩
set_option maxHeartbeats 4000000 in
set_option maxRecDepth 100000 in
theorem c_T_append {G : mG} {μ : mMem} {k : Nat} (hk : mCls k = 5) (hk1 : mCls (k + 1) = 8) (hl1 : mLen (k + 1) = 12) {x : Int} (hn : 0 ≤ μ.1 k 1 ∧ μ.1 k 1 < 12) : mM G yX5_append cX5_append 2 none 0 [.ref k, .int (iV x)] μ (pV (u1 (u1 μ (k + 1) (μ.1 k 1) x) k 1 (μ.1 k 1 + 1))) := by
  refine mM.of (lv := [some (.ref k), some (.int (iV x))]) 0 (by decide +kernel) (Nat.le_of_ble_eq_true rfl) rfl ?_
  intro X
  refine mw_aload_n dX5_append_0 rfl ?_
  refine mw_getI 1 dX5_append_1 gs_X5_15 (by first | rfl | assumption) rfl rfl ?_
  refine mw_bipush dX5_append_4 (by decide +kernel) ?_
  refine mw_icmp_ge (tgt := 29) dX5_append_6 (by decide) (by omega) (by omega) (fun c_6 => ?_) (fun c_6 => ?_)
  · exact absurd c_6 (by omega)
  · refine mw_aload_n dX5_append_9 rfl ?_
    refine mw_gr_5_0 dX5_append_10 gs_X5_9 (by first | rfl | assumption) ?_
    refine mw_aload_n dX5_append_13 rfl ?_
    refine mw_getI 1 dX5_append_14 gs_X5_15 (by first | rfl | assumption) rfl rfl ?_
    refine mw_iload_n dX5_append_17 rfl ?_
    refine mw_iast 12 dX5_append_18 (by first | rfl | assumption) (by first | rfl | assumption) (by omega) ?_
    refine mw_aload_n dX5_append_19 rfl ?_
    refine mw_dup dX5_append_20 rfl ?_
    refine mw_getI 1 dX5_append_21 gs_X5_15 (by first | rfl | assumption) rfl rfl ?_
    rw [u1_o (by omega)]
    refine mw_iconst dX5_append_24 ?_
    refine mw_iadd dX5_append_25 ?_
    refine mw_putI 1 dX5_append_26 ps_X5_15 (by first | rfl | assumption) rfl rfl ?_
    refine mw_vret dX5_append_29 rfl ?_
    exact ⟨rfl, rfl⟩
set_option maxHeartbeats 4000000 in
set_option maxRecDepth 100000 in
theorem c_T_become {G : mG} {μ : mMem} {k k2 : Nat} (hk : mCls k = 5) (hk1 : mCls (k + 1) = 8) (hl1 : mLen (k + 1) = 12) (hk2 : mCls k2 = 5) (hk21 : mCls (k2 + 1) = 8) (hl2 : mLen (k2 + 1) = 12) (hne : k2 ≠ k ∧ k2 ≠ k + 1) : mM G yX5_become cX5_become 2 none 1 [.ref k, .ref k2] μ (qV (fun m => (∀ c : Nat, c ≠ k → c ≠ k + 1 → m.1 c = μ.1 c) ∧ m.2 = μ.2 ∧ m.1 k 1 = μ.1 k2 1 ∧ ∀ i : Int, 0 ≤ i → i < 12 → m.1 (k + 1) i = μ.1 (k2 + 1) i)) := by
  refine mM.of (lv := [some (.ref k), some (.ref k2)]) 0 (by decide +kernel) (Nat.le_of_ble_eq_true rfl) rfl ?_
  intro X
  refine mw_aload_n dX5_become_0 rfl ?_
  refine mw_gr_5_0 dX5_become_1 gs_X5_9 (by first | rfl | assumption) ?_
  refine mw_iconst dX5_become_4 ?_
  refine mw_aload_n dX5_become_5 rfl ?_
  refine mw_gr_5_0 dX5_become_6 gs_X5_9 (by first | rfl | assumption) ?_
  refine mw_iconst dX5_become_9 ?_
  refine mw_bipush dX5_become_10 (by decide +kernel) ?_
  refine mw_copyi 12 12 dX5_become_12 ac_X5_19 hk21 hk1 hl2 hl1 (by omega) (by decide) (by decide +kernel) ?_
  refine mw_aload_n dX5_become_15 rfl ?_
  refine mw_aload_n dX5_become_16 rfl ?_
  refine mw_getI 1 dX5_become_17 gs_X5_15 (by first | rfl | assumption) rfl rfl ?_
  refine mw_putI 1 dX5_become_20 ps_X5_15 (by first | rfl | assumption) rfl rfl ?_
  refine mw_vret dX5_become_23 rfl ?_
  refine ⟨rfl, fun c h1 h2 => ?_, rfl, ?_, fun i h1 h2 => ?_⟩
  · funext j
    rw [u1_o (by omega)]
    simp [cpm, h2]
  · rw [u1_s]
    simp [cpm, hne.2]
  · rw [u1_o (by omega)]
    simp [cpm, h1, h2]
set_option maxHeartbeats 4000000 in
set_option maxRecDepth 100000 in
theorem c_T_toneAt {G : mG} {μ : mMem} {k : Nat} (hk : mCls k = 5) (hk1 : mCls (k + 1) = 8) (hl1 : mLen (k + 1) = 12) {i : Int} (hi : 0 ≤ i ∧ i < μ.1 k 1) (hn : μ.1 k 1 ≤ 12) : mM G yX5_toneAt cX5_toneAt 2 (some .int) 0 [.ref k, .int (iV i)] μ (pI (μ.1 (k + 1) i) μ) := by
  refine mM.of (lv := [some (.ref k), some (.int (iV i))]) 0 (by decide +kernel) (Nat.le_of_ble_eq_true rfl) rfl ?_
  intro X
  refine mw_iload_n dX5_toneAt_0 rfl ?_
  refine mw_if_lt (tgt := 21) dX5_toneAt_1 (by decide) (by omega) (fun c_1 => ?_) (fun c_1 => ?_)
  · exact absurd c_1 (by omega)
  · refine mw_iload_n dX5_toneAt_4 rfl ?_
    refine mw_aload_n dX5_toneAt_5 rfl ?_
    refine mw_getI 1 dX5_toneAt_6 gs_X5_15 (by first | rfl | assumption) rfl rfl ?_
    refine mw_icmp_ge (tgt := 21) dX5_toneAt_9 (by decide) (by omega) (by omega) (fun c_9 => ?_) (fun c_9 => ?_)
    · exact absurd c_9 (by omega)
    · refine mw_aload_n dX5_toneAt_12 rfl ?_
      refine mw_gr_5_0 dX5_toneAt_13 gs_X5_9 (by first | rfl | assumption) ?_
      refine mw_iload_n dX5_toneAt_16 rfl ?_
      refine mw_iald 12 dX5_toneAt_17 (by first | rfl | assumption) (by first | rfl | assumption) (by omega) ?_
      refine mw_goto (tgt := 22) dX5_toneAt_18 (by decide) ?_
      refine mw_iret dX5_toneAt_22 rfl ?_
      exact ⟨rfl, rfl⟩
def homeI (n : Int) (t : Int → Int) : Int := if 0 < n ∧ t (n - 1) = 0 then 1 else 0
theorem homeI_c (n : Int) (t : Int → Int) : homeI n t = 0 ∨ homeI n t = 1 := by unfold homeI; split <;> simp
set_option maxHeartbeats 4000000 in
set_option maxRecDepth 100000 in
theorem c_T_isHome {G : mG} {μ : mMem} {k : Nat} (hk : mCls k = 5) (hk1 : mCls (k + 1) = 8) (hl1 : mLen (k + 1) = 12) (hn : 0 ≤ μ.1 k 1 ∧ μ.1 k 1 ≤ 12) (ht : 0 < μ.1 k 1 → 0 ≤ μ.1 (k + 1) (μ.1 k 1 - 1) ∧ μ.1 (k + 1) (μ.1 k 1 - 1) < 12) : mM G yX5_isHome cX5_isHome 1 (some .boolean) 0 [.ref k] μ (pI (homeI (μ.1 k 1) (μ.1 (k + 1))) μ) := by
  refine mM.of (lv := [some (.ref k)]) 0 (by decide +kernel) (Nat.le_of_ble_eq_true rfl) rfl ?_
  intro X
  refine mw_aload_n dX5_isHome_0 rfl ?_
  refine mw_getI 1 dX5_isHome_1 gs_X5_15 (by first | rfl | assumption) rfl rfl ?_
  refine mw_if_le (tgt := 25) dX5_isHome_4 (by decide) (by omega) (fun c_4 => ?_) (fun c_4 => ?_)
  · refine mw_iconst dX5_isHome_25 ?_
    refine mw_zret dX5_isHome_26 rfl (by decide +kernel) ?_
    exact ⟨by unfold homeI; rw [if_neg (by omega)], rfl⟩
  · refine mw_aload_n dX5_isHome_7 rfl ?_
    refine mw_gr_5_0 dX5_isHome_8 gs_X5_9 (by first | rfl | assumption) ?_
    refine mw_aload_n dX5_isHome_11 rfl ?_
    refine mw_getI 1 dX5_isHome_12 gs_X5_15 (by first | rfl | assumption) rfl rfl ?_
    refine mw_iconst dX5_isHome_15 ?_
    refine mw_isub dX5_isHome_16 ?_
    refine mw_iald 12 dX5_isHome_17 (by first | rfl | assumption) (by first | rfl | assumption) (by omega) ?_
    refine mw_if_ne (tgt := 25) dX5_isHome_18 (by decide) (by have := ht c_4; omega) (fun c_18 => ?_) (fun c_18 => ?_)
    · refine mw_iconst dX5_isHome_25 ?_
      refine mw_zret dX5_isHome_26 rfl (by decide +kernel) ?_
      exact ⟨by unfold homeI; rw [if_neg (fun q => c_18 q.2)], rfl⟩
    · refine mw_iconst dX5_isHome_21 ?_
      refine mw_goto (tgt := 26) dX5_isHome_22 (by decide) ?_
      refine mw_zret dX5_isHome_26 rfl (by decide +kernel) ?_
      exact ⟨by unfold homeI; rw [if_pos ⟨c_4, c_18⟩], rfl⟩
set_option maxHeartbeats 4000000 in
set_option maxRecDepth 100000 in
theorem c_T_leap {G : mG} {μ : mMem} {a b : Int} (ha : 0 ≤ a ∧ a < 12) (hb : 0 ≤ b ∧ b < 12) : mM G yX5_leapBetween cX5_leapBetween 3 (some .int) 1 [.int (iV a), .int (iV b)] μ (pI (leap a b) μ) := by
  refine mM.of (lv := [some (.int (iV a)), some (.int (iV b)), none]) 1 (by decide +kernel) (Nat.le_of_ble_eq_true rfl) rfl ?_
  intro X
  refine mw_iload_n dX5_leapBetween_0 rfl ?_
  refine mw_iload_n dX5_leapBetween_1 rfl ?_
  refine mw_isub dX5_leapBetween_2 ?_
  refine mw_Spi dX5_leapBetween_3 ml_X5_41 ok_J9_abs_0f7a4 (by decide) rfl rfl (Nat.le_of_ble_eq_true rfl) (c_abs (by omega)) ?_
  refine mw_is2 dX5_leapBetween_6 (by decide) rfl ?_
  refine mw_iload_n dX5_leapBetween_7 rfl ?_
  refine mw_bipush dX5_leapBetween_8 (by decide +kernel) ?_
  refine mw_iload_n dX5_leapBetween_10 rfl ?_
  refine mw_isub dX5_leapBetween_11 ?_
  refine mw_Spi dX5_leapBetween_12 ml_X5_29 ok_J9_min_7cf53 (by decide) rfl rfl (Nat.le_of_ble_eq_true rfl) (c_min (by omega) (by omega)) ?_
  refine mw_iret dX5_leapBetween_15 rfl ?_
  exact ⟨rfl, rfl⟩
theorem leap_bd {a b : Int} (ha : 0 ≤ a ∧ a < 12) (hb : 0 ≤ b ∧ b < 12) : 0 ≤ leap a b ∧ leap a b ≤ 12 := by unfold leap; omega
set_option maxHeartbeats 4000000 in
set_option maxRecDepth 100000 in
theorem c_T_wide {G : mG} {μ : mMem} {k : Nat} (hk : mCls k = 5) (hk1 : mCls (k + 1) = 8) (hl1 : mLen (k + 1) = 12) (hn : 0 ≤ μ.1 k 1 ∧ μ.1 k 1 ≤ 12) (ht : ∀ i : Int, 0 ≤ i → i < μ.1 k 1 → 0 ≤ μ.1 (k + 1) i ∧ μ.1 (k + 1) i < 12) : mM G yX5_wideLeaps cX5_wideLeaps 3 (some .int) 2 [.ref k] μ (pI (tens (μ.1 (k + 1)) (μ.1 k 1).toNat) μ) := by
  refine mM.of (lv := [some (.ref k), none, none]) 2 (by decide +kernel) (Nat.le_of_ble_eq_true rfl) rfl ?_
  intro X
  have lp : ∀ (n_ : Nat) (i v : Int), 1 ≤ i → i ≤ 12 → 13 ≤ i + n_ → i ≤ max 1 (μ.1 k 1) → v = tens (μ.1 (k + 1)) i.toNat → mW X cX5_wideLeaps 3 (some .int) yX5_wideLeaps.cls 2 G (pI (tens (μ.1 (k + 1)) (μ.1 k 1).toNat) μ) 4 [some (.ref k), some (.int (iV v)), some (.int (iV i))] [] μ := by
    intro n_
    induction n_ with
    | zero =>
      intro i v h1 h2 h3 h4 h5
      omega
    | succ n_ ih =>
      intro i v h1 h2 h3 h4 h5
      refine mw_iload_n dX5_wideLeaps_4 rfl ?_
      refine mw_aload_n dX5_wideLeaps_5 rfl ?_
      refine mw_getI 1 dX5_wideLeaps_6 gs_X5_15 (by first | rfl | assumption) rfl rfl ?_
      refine mw_icmp_ge (tgt := 42) dX5_wideLeaps_9 (by decide) (by omega) (by omega) (fun c_9 => ?_) (fun c_9 => ?_)
      · refine mw_iload_n dX5_wideLeaps_42 rfl ?_
        refine mw_iret dX5_wideLeaps_43 rfl ?_
        refine ⟨?_, rfl⟩
        rw [h5]
        by_cases hq : μ.1 k 1 ≤ 0
        · rw [show i.toNat = 1 by omega, show (μ.1 k 1).toNat = 0 by omega]
          rfl
        · rw [show (μ.1 k 1).toNat = i.toNat by omega]
      · have hle := leap_bd (ht (i - 1) (by omega) (by omega)) (ht i (by omega) (by omega))
        have hst : tens (μ.1 (k + 1)) (i + 1).toNat = tens (μ.1 (k + 1)) i.toNat + (if 4 ≤ leap (μ.1 (k + 1) (i - 1)) (μ.1 (k + 1) i) then 1 else 0) := by
          rw [show (i + 1).toNat = i.toNat + 1 by omega, tens, show ((i.toNat : Nat) : Int) = i by omega]
          congr 1
          by_cases hq : 4 ≤ leap (μ.1 (k + 1) (i - 1)) (μ.1 (k + 1) i)
          · rw [if_pos ⟨by omega, hq⟩, if_pos hq]
          · rw [if_neg (fun q => hq q.2), if_neg hq]
        refine mw_aload_n dX5_wideLeaps_12 rfl ?_
        refine mw_gr_5_0 dX5_wideLeaps_13 gs_X5_9 (by first | rfl | assumption) ?_
        refine mw_iload_n dX5_wideLeaps_16 rfl ?_
        refine mw_iconst dX5_wideLeaps_17 ?_
        refine mw_isub dX5_wideLeaps_18 ?_
        refine mw_iald 12 dX5_wideLeaps_19 (by first | rfl | assumption) (by first | rfl | assumption) (by omega) ?_
        refine mw_aload_n dX5_wideLeaps_20 rfl ?_
        refine mw_gr_5_0 dX5_wideLeaps_21 gs_X5_9 (by first | rfl | assumption) ?_
        refine mw_iload_n dX5_wideLeaps_24 rfl ?_
        refine mw_iald 12 dX5_wideLeaps_25 (by first | rfl | assumption) (by first | rfl | assumption) (by omega) ?_
        refine mw_Spi dX5_wideLeaps_26 ml_X5_38 ok_X5_leapBetween (by decide) rfl rfl (Nat.le_of_ble_eq_true rfl) (c_T_leap (ht _ (by omega) (by omega)) (ht _ (by omega) (by omega))) ?_
        refine mw_iconst dX5_wideLeaps_29 ?_
        refine mw_icmp_lt (tgt := 36) dX5_wideLeaps_30 (by decide) (by omega) (by omega) (fun c_30 => ?_) (fun c_30 => ?_)
        · refine mw_ii2 dX5_wideLeaps_36 (by decide) rfl ?_
          refine mw_goto (tgt := 4) dX5_wideLeaps_39 (by decide) ?_
          exact ih _ _ (by omega) (by omega) (by omega) (by omega) (by rw [hst, if_neg (by omega), h5]; omega)
        · refine mw_ii1 dX5_wideLeaps_33 (by decide) rfl ?_
          refine mw_ii2 dX5_wideLeaps_36 (by decide) rfl ?_
          refine mw_goto (tgt := 4) dX5_wideLeaps_39 (by decide) ?_
          exact ih _ _ (by omega) (by omega) (by omega) (by omega) (by rw [hst, if_pos (by omega), h5])
  refine mw_iconst dX5_wideLeaps_0 ?_
  refine mw_is1 dX5_wideLeaps_1 (by decide) rfl ?_
  refine mw_iconst dX5_wideLeaps_2 ?_
  refine mw_is2 dX5_wideLeaps_3 (by decide) rfl ?_
  exact lp 12 _ _ (by omega) (by omega) (by omega) (by omega) rfl
set_option maxHeartbeats 4000000 in
set_option maxRecDepth 100000 in
theorem c_T_set {G : mG} {μ : mMem} {k : Nat} (hk : mCls k = 5) (hk1 : mCls (k + 1) = 8) (hl1 : mLen (k + 1) = 12) (hn : 0 ≤ μ.1 k 1 ∧ μ.1 k 1 ≤ 12) : mM G yX5_toneSet cX5_toneSet 3 (some .int) 0 [.ref k] μ (pI (tset (μ.1 (k + 1)) (μ.1 k 1).toNat) μ) := by
  refine mM.of (lv := [some (.ref k), none, none]) 2 (by decide +kernel) (Nat.le_of_ble_eq_true rfl) rfl ?_
  intro X
  have lp : ∀ (n_ : Nat) (i v : Int), 0 ≤ i → i ≤ μ.1 k 1 → 13 ≤ i + n_ → v = tset (μ.1 (k + 1)) i.toNat → mW X cX5_toneSet 3 (some .int) yX5_toneSet.cls 0 G (pI (tset (μ.1 (k + 1)) (μ.1 k 1).toNat) μ) 4 [some (.ref k), some (.int (iV v)), some (.int (iV i))] [] μ := by
    intro n_
    induction n_ with
    | zero =>
      intro i v h1 h2 h3 h5
      omega
    | succ n_ ih =>
      intro i v h1 h2 h3 h5
      refine mw_iload_n dX5_toneSet_4 rfl ?_
      refine mw_aload_n dX5_toneSet_5 rfl ?_
      refine mw_getI 1 dX5_toneSet_6 gs_X5_15 (by first | rfl | assumption) rfl rfl ?_
      refine mw_icmp_ge (tgt := 29) dX5_toneSet_9 (by decide) (by omega) (by omega) (fun c_9 => ?_) (fun c_9 => ?_)
      · refine mw_iload_n dX5_toneSet_29 rfl ?_
        refine mw_iret dX5_toneSet_30 rfl ?_
        exact ⟨by rw [h5, show (μ.1 k 1).toNat = i.toNat by omega], rfl⟩
      · refine mw_iload_n dX5_toneSet_12 rfl ?_
        refine mw_iconst dX5_toneSet_13 ?_
        refine mw_aload_n dX5_toneSet_14 rfl ?_
        refine mw_gr_5_0 dX5_toneSet_15 gs_X5_9 (by first | rfl | assumption) ?_
        refine mw_iload_n dX5_toneSet_18 rfl ?_
        refine mw_iald 12 dX5_toneSet_19 (by first | rfl | assumption) (by first | rfl | assumption) (by omega) ?_
        refine mw_ishl dX5_toneSet_20 ?_
        refine mw_ior dX5_toneSet_21 ?_
        refine mw_is1 dX5_toneSet_22 (by decide) rfl ?_
        refine mw_ii2 dX5_toneSet_23 (by decide) rfl ?_
        refine mw_goto (tgt := 4) dX5_toneSet_26 (by decide) ?_
        exact ih _ _ (by omega) (by omega) (by omega) (by rw [show (i + 1).toNat = i.toNat + 1 by omega, tset, h5, show ((i.toNat : Nat) : Int) = i by omega])
  refine mw_iconst dX5_toneSet_0 ?_
  refine mw_is1 dX5_toneSet_1 (by decide) rfl ?_
  refine mw_iconst dX5_toneSet_2 ?_
  refine mw_is2 dX5_toneSet_3 (by decide) rfl ?_
  exact lp 13 _ _ (by omega) (by omega) (by omega) rfl
set_option maxHeartbeats 4000000 in
set_option maxRecDepth 100000 in
theorem c_T_unlike {G : mG} {μ : mMem} {k : Nat} (hk : mCls k = 5) (hk1 : mCls (k + 1) = 8) (hl1 : mLen (k + 1) = 12) (hn : 0 ≤ μ.1 k 1 ∧ μ.1 k 1 ≤ 12) (ht : ∀ i : Int, 0 ≤ i → i < μ.1 k 1 → 0 ≤ μ.1 (k + 1) i ∧ μ.1 (k + 1) i < 12) {k2 : Nat} (hk2 : mCls k2 = 5) (hk21 : mCls (k2 + 1) = 8) (hl2 : mLen (k2 + 1) = 12) (hn2 : 0 ≤ μ.1 k2 1 ∧ μ.1 k2 1 ≤ 12) (ht2 : ∀ i : Int, 0 ≤ i → i < μ.1 k2 1 → 0 ≤ μ.1 (k2 + 1) i ∧ μ.1 (k2 + 1) i < 12) : mM G yX5_placesUnlike cX5_placesUnlike 5 (some .int) 1 [.ref k, .ref k2] μ (pI (unlk (μ.1 (k + 1)) (μ.1 (k2 + 1)) (μ.1 k 1) (μ.1 k2 1) (max (μ.1 k 1) (μ.1 k2 1)).toNat) μ) := by
  refine mM.of (lv := [some (.ref k), some (.ref k2), none, none, none]) 3 (by decide +kernel) (Nat.le_of_ble_eq_true rfl) rfl ?_
  intro X
  have lp : ∀ (n_ : Nat) (i v : Int), 0 ≤ i → i ≤ min (μ.1 k 1) (μ.1 k2 1) → 13 ≤ i + n_ → v = max (μ.1 k 1) (μ.1 k2 1) - min (μ.1 k 1) (μ.1 k2 1) + unlk (μ.1 (k + 1)) (μ.1 (k2 + 1)) (μ.1 k 1) (μ.1 k2 1) i.toNat → mW X cX5_placesUnlike 5 (some .int) yX5_placesUnlike.cls 1 G (pI (unlk (μ.1 (k + 1)) (μ.1 (k2 + 1)) (μ.1 k 1) (μ.1 k2 1) (max (μ.1 k 1) (μ.1 k2 1)).toNat) μ) 29 [some (.ref k), some (.ref k2), some (.int (iV (min (μ.1 k 1) (μ.1 k2 1)))), some (.int (iV v)), some (.int (iV i))] [] μ := by
    intro n_
    induction n_ with
    | zero =>
      intro i v h1 h2 h3 h5
      omega
    | succ n_ ih =>
      intro i v h1 h2 h3 h5
      refine mw_iload dX5_placesUnlike_29 rfl ?_
      refine mw_iload_n dX5_placesUnlike_31 rfl ?_
      refine mw_icmp_ge (tgt := 61) dX5_placesUnlike_32 (by decide) (by omega) (by omega) (fun c_32 => ?_) (fun c_32 => ?_)
      · refine mw_iload_n dX5_placesUnlike_61 rfl ?_
        refine mw_iret dX5_placesUnlike_62 rfl ?_
        refine ⟨?_, rfl⟩
        have hf := unlk_far (t := μ.1 (k + 1)) (u := μ.1 (k2 + 1)) (a := μ.1 k 1) (b := μ.1 k2 1) (n := i.toNat) (by omega) ((max (μ.1 k 1) (μ.1 k2 1)).toNat - i.toNat)
        rw [show i.toNat + ((max (μ.1 k 1) (μ.1 k2 1)).toNat - i.toNat) = (max (μ.1 k 1) (μ.1 k2 1)).toNat by omega] at hf
        rw [show v = unlk (μ.1 (k + 1)) (μ.1 (k2 + 1)) (μ.1 k 1) (μ.1 k2 1) (max (μ.1 k 1) (μ.1 k2 1)).toNat by rw [hf, h5]; omega]
      · have hst : unlk (μ.1 (k + 1)) (μ.1 (k2 + 1)) (μ.1 k 1) (μ.1 k2 1) (i + 1).toNat = unlk (μ.1 (k + 1)) (μ.1 (k2 + 1)) (μ.1 k 1) (μ.1 k2 1) i.toNat + (if μ.1 (k + 1) i = μ.1 (k2 + 1) i then 0 else 1) := by
          rw [show (i + 1).toNat = i.toNat + 1 by omega, unlk, show ((i.toNat : Nat) : Int) = i by omega]
          congr 1
          by_cases hq : μ.1 (k + 1) i = μ.1 (k2 + 1) i
          · rw [if_pos ⟨by omega, hq⟩, if_pos hq]
          · rw [if_neg (fun q => hq q.2), if_neg hq]
        refine mw_aload_n dX5_placesUnlike_35 rfl ?_
        refine mw_gr_5_0 dX5_placesUnlike_36 gs_X5_9 (by first | rfl | assumption) ?_
        refine mw_iload dX5_placesUnlike_39 rfl ?_
        refine mw_iald 12 dX5_placesUnlike_41 (by first | rfl | assumption) (by first | rfl | assumption) (by omega) ?_
        refine mw_aload_n dX5_placesUnlike_42 rfl ?_
        refine mw_gr_5_0 dX5_placesUnlike_43 gs_X5_9 (by first | rfl | assumption) ?_
        refine mw_iload dX5_placesUnlike_46 rfl ?_
        refine mw_iald 12 dX5_placesUnlike_48 (by first | rfl | assumption) (by first | rfl | assumption) (by omega) ?_
        refine mw_icmp_eq (tgt := 55) dX5_placesUnlike_49 (by decide) (by have := ht i (by omega) (by omega); have := ht2 i (by omega) (by omega); omega) (by have := ht i (by omega) (by omega); have := ht2 i (by omega) (by omega); omega) (fun c_49 => ?_) (fun c_49 => ?_)
        · refine mw_ii4 dX5_placesUnlike_55 (by decide) rfl ?_
          refine mw_goto (tgt := 29) dX5_placesUnlike_58 (by decide) ?_
          exact ih _ _ (by omega) (by omega) (by omega) (by rw [hst, if_pos c_49, h5]; omega)
        · refine mw_ii3 dX5_placesUnlike_52 (by decide) rfl ?_
          refine mw_ii4 dX5_placesUnlike_55 (by decide) rfl ?_
          refine mw_goto (tgt := 29) dX5_placesUnlike_58 (by decide) ?_
          exact ih _ _ (by omega) (by omega) (by omega) (by rw [hst, if_neg c_49, h5]; omega)
  refine mw_aload_n dX5_placesUnlike_0 rfl ?_
  refine mw_getI 1 dX5_placesUnlike_1 gs_X5_15 (by first | rfl | assumption) rfl rfl ?_
  refine mw_aload_n dX5_placesUnlike_4 rfl ?_
  refine mw_getI 1 dX5_placesUnlike_5 gs_X5_15 (by first | rfl | assumption) rfl rfl ?_
  refine mw_Spi dX5_placesUnlike_8 ml_X5_29 ok_J9_min_7cf53 (by decide) rfl rfl (Nat.le_of_ble_eq_true rfl) (c_min (by omega) (by omega)) ?_
  refine mw_is2 dX5_placesUnlike_11 (by decide) rfl ?_
  refine mw_aload_n dX5_placesUnlike_12 rfl ?_
  refine mw_getI 1 dX5_placesUnlike_13 gs_X5_15 (by first | rfl | assumption) rfl rfl ?_
  refine mw_aload_n dX5_placesUnlike_16 rfl ?_
  refine mw_getI 1 dX5_placesUnlike_17 gs_X5_15 (by first | rfl | assumption) rfl rfl ?_
  refine mw_Spi dX5_placesUnlike_20 ml_X5_35 ok_J9_max_7cf53 (by decide) rfl rfl (Nat.le_of_ble_eq_true rfl) (c_max (by omega) (by omega)) ?_
  refine mw_iload_n dX5_placesUnlike_23 rfl ?_
  refine mw_isub dX5_placesUnlike_24 ?_
  refine mw_is3 dX5_placesUnlike_25 (by decide) rfl ?_
  refine mw_iconst dX5_placesUnlike_26 ?_
  refine mw_is4 dX5_placesUnlike_27 (by decide) rfl ?_
  exact lp 13 _ _ (by omega) (by omega) (by omega) (by show _ = _ + 0; omega)
def sameI (z : Int) : Int := if z = 0 then 1 else 0
set_option maxHeartbeats 4000000 in
set_option maxRecDepth 100000 in
theorem c_T_same {G : mG} {μ : mMem} {k : Nat} (hk : mCls k = 5) (hk1 : mCls (k + 1) = 8) (hl1 : mLen (k + 1) = 12) (hn : 0 ≤ μ.1 k 1 ∧ μ.1 k 1 ≤ 12) (ht : ∀ i : Int, 0 ≤ i → i < μ.1 k 1 → 0 ≤ μ.1 (k + 1) i ∧ μ.1 (k + 1) i < 12) {k2 : Nat} (hk2 : mCls k2 = 5) (hk21 : mCls (k2 + 1) = 8) (hl2 : mLen (k2 + 1) = 12) (hn2 : 0 ≤ μ.1 k2 1 ∧ μ.1 k2 1 ≤ 12) (ht2 : ∀ i : Int, 0 ≤ i → i < μ.1 k2 1 → 0 ≤ μ.1 (k2 + 1) i ∧ μ.1 (k2 + 1) i < 12) : mM G yX5_isSameAs cX5_isSameAs 2 (some .boolean) 2 [.ref k, .ref k2] μ (pI (sameI (unlk (μ.1 (k + 1)) (μ.1 (k2 + 1)) (μ.1 k 1) (μ.1 k2 1) (max (μ.1 k 1) (μ.1 k2 1)).toNat)) μ) := by
  have hb := unlk_bd (μ.1 (k + 1)) (μ.1 (k2 + 1)) (μ.1 k 1) (μ.1 k2 1) (max (μ.1 k 1) (μ.1 k2 1)).toNat
  refine mM.of (lv := [some (.ref k), some (.ref k2)]) 0 (by decide +kernel) (Nat.le_of_ble_eq_true rfl) rfl ?_
  intro X
  refine mw_aload_n dX5_isSameAs_0 rfl ?_
  refine mw_aload_n dX5_isSameAs_1 rfl ?_
  refine mw_Vpi (ci := 5) dX5_isSameAs_2 ml_X5_25 ok_X5_placesUnlike (by decide) (by first | rfl | assumption) (by decide) rfl rfl rfl (Nat.le_of_ble_eq_true rfl) (c_T_unlike hk hk1 hl1 hn ht hk2 hk21 hl2 hn2 ht2) ?_
  refine mw_if_ne (tgt := 12) dX5_isSameAs_5 (by decide) (by omega) (fun c_5 => ?_) (fun c_5 => ?_)
  · refine mw_iconst dX5_isSameAs_12 ?_
    refine mw_zret dX5_isSameAs_13 rfl (by decide +kernel) ?_
    exact ⟨by unfold sameI; rw [if_neg c_5], rfl⟩
  · refine mw_iconst dX5_isSameAs_8 ?_
    refine mw_goto (tgt := 13) dX5_isSameAs_9 (by decide) ?_
    refine mw_zret dX5_isSameAs_13 rfl (by decide +kernel) ?_
    exact ⟨by unfold sameI; rw [if_pos c_5], rfl⟩
end
section
def tb (kind n : Int) (t : Int → Int) (i : Int) : Int := if kind = 1 then 2 * t 0 - t i else if kind = 2 then t (n - 1 - i) else if kind = 3 then t 0 else if kind = 4 then 2 * t (n - 1) - t (n - 1 - i) else if kind = 5 then t (n - 1 - i) + i % 2 else t i
def blB (blots i : Int) : Int := bAnd (bShr blots i) 1
def lng (kind n : Int) : Int := if kind = 3 ∧ 6 < n then n - 1 else n
def ansI (kind key blots n : Int) (t : Int → Int) (i : Int) : Int := (tb kind n t i + key + 6 * blB blots i) % 12
theorem and1 (a : Int) : bAnd a 1 = 0 ∨ bAnd a 1 = 1 := by
  have h := pk_and (iV a) (m := iV 1) 1 (by decide +kernel)
  unfold bAnd
  rw [h, nI_toInt (by omega)]
  omega
theorem blB_c (b i : Int) : blB b i = 0 ∨ blB b i = 1 := and1 _
theorem par_tab : ∀ n : Nat, n < 12 → bAnd (n : Int) 1 = (n : Int) % 2 := by decide +kernel
theorem par {i : Int} (h : 0 ≤ i ∧ i < 12) : bAnd i 1 = i % 2 := by
  have := par_tab i.toNat (by omega)
  rwa [show ((i.toNat : Nat) : Int) = i by omega] at this
theorem tb_bd {kind n i : Int} {t : Int → Int} (hi : 0 ≤ i ∧ i < n) (ht : ∀ j : Int, 0 ≤ j → j < n → 0 ≤ t j ∧ t j < 12) : -11 ≤ tb kind n t i ∧ tb kind n t i ≤ 22 := by
  have h0 := ht 0 (by omega) (by omega)
  have h1 := ht i (by omega) (by omega)
  have h2 := ht (n - 1) (by omega) (by omega)
  have h3 := ht (n - 1 - i) (by omega) (by omega)
  unfold tb
  repeat' split
  all_goals omega
theorem ans_bd (kind key blots n : Int) (t : Int → Int) (i : Int) : 0 ≤ ansI kind key blots n t i ∧ ansI kind key blots n t i < 12 := by
  unfold ansI
  omega
theorem tb_congr {kind n i : Int} {t u : Int → Int} (hi : 0 ≤ i ∧ i < n) (h : ∀ j : Int, 0 ≤ j → j < n → t j = u j) : tb kind n t i = tb kind n u i := by
  unfold tb
  rw [h 0 (by omega) (by omega), h i (by omega) (by omega), h (n - 1) (by omega) (by omega), h (n - 1 - i) (by omega) (by omega)]
theorem ans_congr {kind key blots n i : Int} {t u : Int → Int} (hi : 0 ≤ i ∧ i < n) (h : ∀ j : Int, 0 ≤ j → j < n → t j = u j) : ansI kind key blots n t i = ansI kind key blots n u i := by
  unfold ansI
  rw [tb_congr hi h]
theorem lng_bd {kind n : Int} (h : 0 ≤ n) : 0 ≤ lng kind n ∧ lng kind n ≤ n := by
  unfold lng
  split <;> omega
theorem lng_pos {kind n : Int} (h : 0 ≤ n) : 0 < lng kind n ↔ 0 < n := by
  unfold lng
  split <;> omega
set_option maxHeartbeats 4000000 in
set_option maxRecDepth 100000 in
theorem c_A_become {G : mG} {μ : mMem} {k k2 : Nat} (hk : mCls k = 0) (hk2 : mCls k2 = 0) (hne : k2 ≠ k) : mM G yX0_become cX0_become 2 none 0 [.ref k, .ref k2] μ (qV (fun m => (∀ c : Nat, c ≠ k → m.1 c = μ.1 c) ∧ m.2 = μ.2 ∧ ∀ f : Int, 0 ≤ f → f < 5 → m.1 k f = μ.1 k2 f)) := by
  refine mM.of (lv := [some (.ref k), some (.ref k2)]) 0 (by decide +kernel) (Nat.le_of_ble_eq_true rfl) rfl ?_
  intro X
  refine mw_aload_n dX0_become_0 rfl ?_
  refine mw_aload_n dX0_become_1 rfl ?_
  refine mw_getI 0 dX0_become_2 gs_X0_9 (by first | rfl | assumption) rfl rfl ?_
  refine mw_putI 0 dX0_become_5 ps_X0_9 (by first | rfl | assumption) rfl rfl ?_
  refine mw_aload_n dX0_become_8 rfl ?_
  refine mw_aload_n dX0_become_9 rfl ?_
  refine mw_getI 1 dX0_become_10 gs_X0_15 (by first | rfl | assumption) rfl rfl ?_
  refine mw_putI 1 dX0_become_13 ps_X0_15 (by first | rfl | assumption) rfl rfl ?_
  refine mw_aload_n dX0_become_16 rfl ?_
  refine mw_aload_n dX0_become_17 rfl ?_
  refine mw_getI 2 dX0_become_18 gs_X0_18 (by first | rfl | assumption) rfl rfl ?_
  refine mw_putI 2 dX0_become_21 ps_X0_18 (by first | rfl | assumption) rfl rfl ?_
  refine mw_aload_n dX0_become_24 rfl ?_
  refine mw_aload_n dX0_become_25 rfl ?_
  refine mw_getI 3 dX0_become_26 gs_X0_21 (by first | rfl | assumption) rfl rfl ?_
  refine mw_putI 3 dX0_become_29 ps_X0_21 (by first | rfl | assumption) rfl rfl ?_
  refine mw_aload_n dX0_become_32 rfl ?_
  refine mw_aload_n dX0_become_33 rfl ?_
  refine mw_getI 4 dX0_become_34 gs_X0_24 (by first | rfl | assumption) rfl rfl ?_
  refine mw_putI 4 dX0_become_37 ps_X0_24 (by first | rfl | assumption) rfl rfl ?_
  refine mw_vret dX0_become_40 rfl ?_
  refine ⟨rfl, fun c h1 => ?_, rfl, fun f h1 h2 => ?_⟩
  · funext j
    simp [u1, h1]
  · rcases (show f = 0 ∨ f = 1 ∨ f = 2 ∨ f = 3 ∨ f = 4 by omega) with rfl | rfl | rfl | rfl | rfl <;> simp [u1, hne]
set_option maxHeartbeats 4000000 in
set_option maxRecDepth 100000 in
theorem c_A_chKey {G : mG} {μ : mMem} {k : Nat} (hk : mCls k = 0) {v : Int} : mM G yX0_change cX0_change 3 none 0 [.ref k, .int (iV 0), .int (iV v)] μ (pV (u1 μ k 2 v)) := by
  refine mM.of (lv := [some (.ref k), some (.int (iV 0)), some (.int (iV v))]) 0 (by decide +kernel) (Nat.le_of_ble_eq_true rfl) rfl ?_
  intro X
  refine mw_iload_n dX0_change_0 rfl ?_
  refine mw_lkp (off := 27) (tgt := 28) dX0_change_1 (by decide) (by decide) (by decide) (by decide) ?_
  refine mw_aload_n dX0_change_28 rfl ?_
  refine mw_iload_n dX0_change_29 rfl ?_
  refine mw_putI 2 dX0_change_30 ps_X0_18 (by first | rfl | assumption) rfl rfl ?_
  refine mw_goto (tgt := 56) dX0_change_33 (by decide) ?_
  refine mw_vret dX0_change_56 rfl ?_
  exact ⟨rfl, rfl⟩
set_option maxHeartbeats 4000000 in
set_option maxRecDepth 100000 in
theorem c_A_chKind {G : mG} {μ : mMem} {k : Nat} (hk : mCls k = 0) {v : Int} : mM G yX0_change cX0_change 3 none 0 [.ref k, .int (iV 1), .int (iV v)] μ (pV (u1 μ k 0 v)) := by
  refine mM.of (lv := [some (.ref k), some (.int (iV 1)), some (.int (iV v))]) 0 (by decide +kernel) (Nat.le_of_ble_eq_true rfl) rfl ?_
  intro X
  refine mw_iload_n dX0_change_0 rfl ?_
  refine mw_lkp (off := 35) (tgt := 36) dX0_change_1 (by decide) (by decide) (by decide) (by decide) ?_
  refine mw_aload_n dX0_change_36 rfl ?_
  refine mw_iload_n dX0_change_37 rfl ?_
  refine mw_putI 0 dX0_change_38 ps_X0_9 (by first | rfl | assumption) rfl rfl ?_
  refine mw_goto (tgt := 56) dX0_change_41 (by decide) ?_
  refine mw_vret dX0_change_56 rfl ?_
  exact ⟨rfl, rfl⟩
set_option maxHeartbeats 4000000 in
set_option maxRecDepth 100000 in
theorem c_A_chBlot {G : mG} {μ : mMem} {k : Nat} (hk : mCls k = 0) {v : Int} : mM G yX0_change cX0_change 3 none 0 [.ref k, .int (iV 2), .int (iV v)] μ (pV (u1 μ k 3 (bXor (μ.1 k 3) (bShl 1 v)))) := by
  refine mM.of (lv := [some (.ref k), some (.int (iV 2)), some (.int (iV v))]) 0 (by decide +kernel) (Nat.le_of_ble_eq_true rfl) rfl ?_
  intro X
  refine mw_iload_n dX0_change_0 rfl ?_
  refine mw_lkp (off := 43) (tgt := 44) dX0_change_1 (by decide) (by decide) (by decide) (by decide) ?_
  refine mw_aload_n dX0_change_44 rfl ?_
  refine mw_dup dX0_change_45 rfl ?_
  refine mw_getI 3 dX0_change_46 gs_X0_21 (by first | rfl | assumption) rfl rfl ?_
  refine mw_iconst dX0_change_49 ?_
  refine mw_iload_n dX0_change_50 rfl ?_
  refine mw_ishl dX0_change_51 ?_
  refine mw_ixor dX0_change_52 ?_
  refine mw_putI 3 dX0_change_53 ps_X0_21 (by first | rfl | assumption) rfl rfl ?_
  refine mw_vret dX0_change_56 rfl ?_
  exact ⟨rfl, rfl⟩
set_option maxHeartbeats 4000000 in
set_option maxRecDepth 100000 in
theorem c_A_long {G : mG} {μ : mMem} {k : Nat} (hk : mCls k = 0) {h : Nat} (hh : mCls h = 5) (hh1 : mCls (h + 1) = 8) (hl : mLen (h + 1) = 12) (hn : 0 ≤ μ.1 h 1 ∧ μ.1 h 1 ≤ 12) (hkd : 0 ≤ μ.1 k 0 ∧ μ.1 k 0 < 6) : mM G yX0_lengthTo cX0_lengthTo 2 (some .int) 0 [.ref k, .ref h] μ (pI (lng (μ.1 k 0) (μ.1 h 1)) μ) := by
  refine mM.of (lv := [some (.ref k), some (.ref h)]) 0 (by decide +kernel) (Nat.le_of_ble_eq_true rfl) rfl ?_
  intro X
  refine mw_aload_n dX0_lengthTo_0 rfl ?_
  refine mw_getI 0 dX0_lengthTo_1 gs_X0_9 (by first | rfl | assumption) rfl rfl ?_
  refine mw_iconst dX0_lengthTo_4 ?_
  refine mw_icmp_ne (tgt := 24) dX0_lengthTo_5 (by decide) (by omega) (by omega) (fun c_5 => ?_) (fun c_5 => ?_)
  · refine mw_aload_n dX0_lengthTo_24 rfl ?_
    refine mw_getI 1 dX0_lengthTo_25 gs_X0_27 (by first | rfl | assumption) rfl rfl ?_
    refine mw_iret dX0_lengthTo_28 rfl ?_
    exact ⟨by unfold lng; rw [if_neg (fun q => c_5 q.1)], rfl⟩
  · refine mw_aload_n dX0_lengthTo_8 rfl ?_
    refine mw_getI 1 dX0_lengthTo_9 gs_X0_27 (by first | rfl | assumption) rfl rfl ?_
    refine mw_bipush dX0_lengthTo_12 (by decide +kernel) ?_
    refine mw_icmp_le (tgt := 24) dX0_lengthTo_14 (by decide) (by omega) (by omega) (fun c_14 => ?_) (fun c_14 => ?_)
    · refine mw_aload_n dX0_lengthTo_24 rfl ?_
      refine mw_getI 1 dX0_lengthTo_25 gs_X0_27 (by first | rfl | assumption) rfl rfl ?_
      refine mw_iret dX0_lengthTo_28 rfl ?_
      exact ⟨by unfold lng; rw [if_neg (by omega)], rfl⟩
    · refine mw_aload_n dX0_lengthTo_17 rfl ?_
      refine mw_getI 1 dX0_lengthTo_18 gs_X0_27 (by first | rfl | assumption) rfl rfl ?_
      refine mw_iconst dX0_lengthTo_21 ?_
      refine mw_isub dX0_lengthTo_22 ?_
      refine mw_iret dX0_lengthTo_23 rfl ?_
      exact ⟨by unfold lng; rw [if_pos ⟨c_5, c_14⟩], rfl⟩
set_option maxHeartbeats 4000000 in
set_option maxRecDepth 100000 in
theorem c_A_blot {G : mG} {μ : mMem} {k : Nat} (hk : mCls k = 0) {i : Int} (hi : 0 ≤ i ∧ i < 12) : mM G yX0_isBlotted cX0_isBlotted 2 (some .boolean) 0 [.ref k, .int (iV i)] μ (pI (blB (μ.1 k 3) i) μ) := by
  have hb := blB_c (μ.1 k 3) i
  unfold blB at hb
  refine mM.of (lv := [some (.ref k), some (.int (iV i))]) 0 (by decide +kernel) (Nat.le_of_ble_eq_true rfl) rfl ?_
  intro X
  refine mw_iload_n dX0_isBlotted_0 rfl ?_
  refine mw_if_lt (tgt := 26) dX0_isBlotted_1 (by decide) (by omega) (fun c_1 => ?_) (fun c_1 => ?_)
  · exact absurd c_1 (by omega)
  · refine mw_iload_n dX0_isBlotted_4 rfl ?_
    refine mw_bipush dX0_isBlotted_5 (by decide +kernel) ?_
    refine mw_icmp_ge (tgt := 26) dX0_isBlotted_7 (by decide) (by omega) (by omega) (fun c_7 => ?_) (fun c_7 => ?_)
    · exact absurd c_7 (by omega)
    · refine mw_aload_n dX0_isBlotted_10 rfl ?_
      refine mw_getI 3 dX0_isBlotted_11 gs_X0_21 (by first | rfl | assumption) rfl rfl ?_
      refine mw_iload_n dX0_isBlotted_14 rfl ?_
      refine mw_ishr dX0_isBlotted_15 ?_
      refine mw_iconst dX0_isBlotted_16 ?_
      refine mw_iand dX0_isBlotted_17 ?_
      refine mw_iconst dX0_isBlotted_18 ?_
      refine mw_icmp_ne (tgt := 26) dX0_isBlotted_19 (by decide) (by omega) (by omega) (fun c_19 => ?_) (fun c_19 => ?_)
      · refine mw_iconst dX0_isBlotted_26 ?_
        refine mw_zret dX0_isBlotted_27 rfl (by decide +kernel) ?_
        exact ⟨by unfold blB; rw [show bAnd (bShr (μ.1 k 3) i) 1 = 0 by omega], rfl⟩
      · refine mw_iconst dX0_isBlotted_22 ?_
        refine mw_goto (tgt := 27) dX0_isBlotted_23 (by decide) ?_
        refine mw_zret dX0_isBlotted_27 rfl (by decide +kernel) ?_
        exact ⟨by unfold blB; rw [c_19], rfl⟩
set_option maxHeartbeats 4000000 in
set_option maxRecDepth 100000 in
theorem c_A_turned {G : mG} {μ : mMem} {k : Nat} (hk : mCls k = 0) {h : Nat} (hh : mCls h = 5) (hh1 : mCls (h + 1) = 8) (hl : mLen (h + 1) = 12) (hn : 0 ≤ μ.1 h 1 ∧ μ.1 h 1 ≤ 12) (hkd : 0 ≤ μ.1 k 0 ∧ μ.1 k 0 < 6) {i : Int} (hi : 0 ≤ i ∧ i < μ.1 h 1) : mM G yX0_turnedAbout cX0_turnedAbout 5 (some .int) 0 [.ref k, .ref h, .int (iV i)] μ (pI (tb (μ.1 k 0) (μ.1 h 1) (μ.1 (h + 1)) i) μ) := by
  refine mM.of (lv := [some (.ref k), some (.ref h), some (.int (iV i)), none, none]) 2 (by decide +kernel) (Nat.le_of_ble_eq_true rfl) rfl ?_
  intro X
  refine mw_iload_n dX0_turnedAbout_0 rfl ?_
  refine mw_if_lt (tgt := 12) dX0_turnedAbout_1 (by decide) (by omega) (fun c_1 => ?_) (fun c_1 => ?_)
  · exact absurd c_1 (by omega)
  · refine mw_iload_n dX0_turnedAbout_4 rfl ?_
    refine mw_aload_n dX0_turnedAbout_5 rfl ?_
    refine mw_getI 1 dX0_turnedAbout_6 gs_X0_27 (by first | rfl | assumption) rfl rfl ?_
    refine mw_icmp_lt (tgt := 14) dX0_turnedAbout_9 (by decide) (by omega) (by omega) (fun c_9 => ?_) (fun c_9 => ?_)
    · refine mw_aload_n dX0_turnedAbout_14 rfl ?_
      refine mw_gr_5_0 dX0_turnedAbout_15 gs_X0_63 (by first | rfl | assumption) ?_
      refine mw_as3 dX0_turnedAbout_18 (by decide) rfl ?_
      refine mw_aload_n dX0_turnedAbout_19 rfl ?_
      refine mw_getI 1 dX0_turnedAbout_20 gs_X0_27 (by first | rfl | assumption) rfl rfl ?_
      refine mw_iconst dX0_turnedAbout_23 ?_
      refine mw_isub dX0_turnedAbout_24 ?_
      refine mw_is4 dX0_turnedAbout_25 (by decide) rfl ?_
      refine mw_aload_n dX0_turnedAbout_27 rfl ?_
      refine mw_getI 0 dX0_turnedAbout_28 gs_X0_9 (by first | rfl | assumption) rfl rfl ?_
      obtain ⟨kd, ekd⟩ : ∃ z, z = μ.1 k 0 := ⟨_, rfl⟩
      rw [← ekd] at hkd ⊢
      rcases (show kd = 1 ∨ kd = 2 ∨ kd = 3 ∨ kd = 4 ∨ kd = 5 ∨ (kd < 1 ∨ 5 < kd) by omega) with rfl | rfl | rfl | rfl | rfl | c_31
      · refine mw_tblIn (off := 33) (tgt := 64) dX0_turnedAbout_31 (by decide) (by decide) (by decide) (by decide) (by decide) ?_
        refine mw_iconst dX0_turnedAbout_64 ?_
        refine mw_aload_n dX0_turnedAbout_65 rfl ?_
        refine mw_iconst dX0_turnedAbout_66 ?_
        refine mw_iald 12 dX0_turnedAbout_67 (by first | rfl | assumption) (by first | rfl | assumption) (by omega) ?_
        refine mw_imul dX0_turnedAbout_68 ?_
        refine mw_aload_n dX0_turnedAbout_69 rfl ?_
        refine mw_iload_n dX0_turnedAbout_70 rfl ?_
        refine mw_iald 12 dX0_turnedAbout_71 (by first | rfl | assumption) (by first | rfl | assumption) (by omega) ?_
        refine mw_isub dX0_turnedAbout_72 ?_
        refine mw_iret dX0_turnedAbout_73 rfl ?_
        exact ⟨by unfold tb; rw [if_pos rfl], rfl⟩
      · refine mw_tblIn (off := 43) (tgt := 74) dX0_turnedAbout_31 (by decide) (by decide) (by decide) (by decide) (by decide) ?_
        refine mw_aload_n dX0_turnedAbout_74 rfl ?_
        refine mw_iload dX0_turnedAbout_75 rfl ?_
        refine mw_iload_n dX0_turnedAbout_77 rfl ?_
        refine mw_isub dX0_turnedAbout_78 ?_
        refine mw_iald 12 dX0_turnedAbout_79 (by first | rfl | assumption) (by first | rfl | assumption) (by omega) ?_
        refine mw_iret dX0_turnedAbout_80 rfl ?_
        exact ⟨by unfold tb; rw [if_neg (by decide), if_pos rfl], rfl⟩
      · refine mw_tblIn (off := 50) (tgt := 81) dX0_turnedAbout_31 (by decide) (by decide) (by decide) (by decide) (by decide) ?_
        refine mw_aload_n dX0_turnedAbout_81 rfl ?_
        refine mw_iconst dX0_turnedAbout_82 ?_
        refine mw_iald 12 dX0_turnedAbout_83 (by first | rfl | assumption) (by first | rfl | assumption) (by omega) ?_
        refine mw_iret dX0_turnedAbout_84 rfl ?_
        exact ⟨by unfold tb; rw [if_neg (by decide), if_neg (by decide), if_pos rfl], rfl⟩
      · refine mw_tblIn (off := 54) (tgt := 85) dX0_turnedAbout_31 (by decide) (by decide) (by decide) (by decide) (by decide) ?_
        refine mw_iconst dX0_turnedAbout_85 ?_
        refine mw_aload_n dX0_turnedAbout_86 rfl ?_
        refine mw_iload dX0_turnedAbout_87 rfl ?_
        refine mw_iald 12 dX0_turnedAbout_89 (by first | rfl | assumption) (by first | rfl | assumption) (by omega) ?_
        refine mw_imul dX0_turnedAbout_90 ?_
        refine mw_aload_n dX0_turnedAbout_91 rfl ?_
        refine mw_iload dX0_turnedAbout_92 rfl ?_
        refine mw_iload_n dX0_turnedAbout_94 rfl ?_
        refine mw_isub dX0_turnedAbout_95 ?_
        refine mw_iald 12 dX0_turnedAbout_96 (by first | rfl | assumption) (by first | rfl | assumption) (by omega) ?_
        refine mw_isub dX0_turnedAbout_97 ?_
        refine mw_iret dX0_turnedAbout_98 rfl ?_
        exact ⟨by unfold tb; rw [if_neg (by decide), if_neg (by decide), if_neg (by decide), if_pos rfl], rfl⟩
      · refine mw_tblIn (off := 68) (tgt := 99) dX0_turnedAbout_31 (by decide) (by decide) (by decide) (by decide) (by decide) ?_
        refine mw_aload_n dX0_turnedAbout_99 rfl ?_
        refine mw_iload dX0_turnedAbout_100 rfl ?_
        refine mw_iload_n dX0_turnedAbout_102 rfl ?_
        refine mw_isub dX0_turnedAbout_103 ?_
        refine mw_iald 12 dX0_turnedAbout_104 (by first | rfl | assumption) (by first | rfl | assumption) (by omega) ?_
        refine mw_iload_n dX0_turnedAbout_105 rfl ?_
        refine mw_iconst dX0_turnedAbout_106 ?_
        refine mw_iand dX0_turnedAbout_107 ?_
        refine mw_iadd dX0_turnedAbout_108 ?_
        refine mw_iret dX0_turnedAbout_109 rfl ?_
        exact ⟨by unfold tb; rw [if_neg (by decide), if_neg (by decide), if_neg (by decide), if_neg (by decide), if_pos rfl, par (by omega)], rfl⟩
      · refine mw_tblOut (tgt := 110) dX0_turnedAbout_31 (by omega) c_31 (by decide) ?_
        refine mw_aload_n dX0_turnedAbout_110 rfl ?_
        refine mw_iload_n dX0_turnedAbout_111 rfl ?_
        refine mw_iald 12 dX0_turnedAbout_112 (by first | rfl | assumption) (by first | rfl | assumption) (by omega) ?_
        refine mw_iret dX0_turnedAbout_113 rfl ?_
        exact ⟨by unfold tb; rw [if_neg (by omega), if_neg (by omega), if_neg (by omega), if_neg (by omega), if_neg (by omega)], rfl⟩
    · exact absurd c_9 (by omega)
set_option maxHeartbeats 4000000 in
set_option maxRecDepth 100000 in
theorem c_A_tone {G : mG} {μ : mMem} {k : Nat} (hk : mCls k = 0) {h : Nat} (hh : mCls h = 5) (hh1 : mCls (h + 1) = 8) (hl : mLen (h + 1) = 12) (hn : 0 ≤ μ.1 h 1 ∧ μ.1 h 1 ≤ 12) (ht : ∀ j : Int, 0 ≤ j → j < μ.1 h 1 → 0 ≤ μ.1 (h + 1) j ∧ μ.1 (h + 1) j < 12) (hkd : 0 ≤ μ.1 k 0 ∧ μ.1 k 0 < 6) (hky : 0 ≤ μ.1 k 2 ∧ μ.1 k 2 < 12) {i : Int} (hi : 0 ≤ i ∧ i < μ.1 h 1) : mM G yX0_toneTo cX0_toneTo 4 (some .int) 1 [.ref k, .ref h, .int (iV i)] μ (pI (ansI (μ.1 k 0) (μ.1 k 2) (μ.1 k 3) (μ.1 h 1) (μ.1 (h + 1)) i) μ) := by
  have hb := blB_c (μ.1 k 3) i
  have htb := tb_bd (kind := μ.1 k 0) hi ht
  refine mM.of (lv := [some (.ref k), some (.ref h), some (.int (iV i)), none]) 1 (by decide +kernel) (Nat.le_of_ble_eq_true rfl) rfl ?_
  intro X
  refine mw_aload_n dX0_toneTo_0 rfl ?_
  refine mw_aload_n dX0_toneTo_1 rfl ?_
  refine mw_iload_n dX0_toneTo_2 rfl ?_
  refine mw_Vpi (ci := 0) dX0_toneTo_3 ml_X0_32 ok_X0_turnedAbout (by decide) (by first | rfl | assumption) (by decide) rfl rfl rfl (Nat.le_of_ble_eq_true rfl) (c_A_turned hk hh hh1 hl hn hkd hi) ?_
  refine mw_aload_n dX0_toneTo_6 rfl ?_
  refine mw_getI 2 dX0_toneTo_7 gs_X0_18 (by first | rfl | assumption) rfl rfl ?_
  refine mw_iadd dX0_toneTo_10 ?_
  refine mw_is3 dX0_toneTo_11 (by decide) rfl ?_
  refine mw_aload_n dX0_toneTo_12 rfl ?_
  refine mw_iload_n dX0_toneTo_13 rfl ?_
  refine mw_Vpi (ci := 0) dX0_toneTo_14 ml_X0_36 ok_X0_isBlotted (by decide) (by first | rfl | assumption) (by decide) rfl rfl rfl (Nat.le_of_ble_eq_true rfl) (c_A_blot hk (by omega)) ?_
  refine mw_if_eq (tgt := 23) dX0_toneTo_17 (by decide) (by omega) (fun c_17 => ?_) (fun c_17 => ?_)
  · refine mw_iload_n dX0_toneTo_23 rfl ?_
    refine mw_bipush dX0_toneTo_24 (by decide +kernel) ?_
    refine mw_Spi dX0_toneTo_26 ml_X0_40 ok_J9_floorMod_7cf53 (by decide) rfl rfl (Nat.le_of_ble_eq_true rfl) (c_floorMod (by omega)) ?_
    refine mw_iret dX0_toneTo_29 rfl ?_
    exact ⟨by unfold ansI; rw [show blB (μ.1 k 3) i = 0 by omega]; congr 3; omega, rfl⟩
  · refine mw_ii3 dX0_toneTo_20 (by decide) rfl ?_
    refine mw_iload_n dX0_toneTo_23 rfl ?_
    refine mw_bipush dX0_toneTo_24 (by decide +kernel) ?_
    refine mw_Spi dX0_toneTo_26 ml_X0_40 ok_J9_floorMod_7cf53 (by decide) rfl rfl (Nat.le_of_ble_eq_true rfl) (c_floorMod (by omega)) ?_
    refine mw_iret dX0_toneTo_29 rfl ?_
    exact ⟨by unfold ansI; rw [show blB (μ.1 k 3) i = 1 by omega, Int.mul_one], rfl⟩
set_option maxHeartbeats 4000000 in
set_option maxRecDepth 100000 in
theorem c_A_write {G : mG} {μ : mMem} {k : Nat} (hk : mCls k = 0) {h : Nat} (hh : mCls h = 5) (hh1 : mCls (h + 1) = 8) (hl : mLen (h + 1) = 12) (hn : 0 ≤ μ.1 h 1 ∧ μ.1 h 1 ≤ 12) (ht : ∀ j : Int, 0 ≤ j → j < μ.1 h 1 → 0 ≤ μ.1 (h + 1) j ∧ μ.1 (h + 1) j < 12) (hkd : 0 ≤ μ.1 k 0 ∧ μ.1 k 0 < 6) (hky : 0 ≤ μ.1 k 2 ∧ μ.1 k 2 < 12) (hwr : 0 ≤ μ.1 k 4 ∧ μ.1 k 4 ≤ 9999) {o : Nat} (ho : mCls o = 5) (ho1 : mCls (o + 1) = 8) (hlo : mLen (o + 1) = 12) (hne : k ≠ o ∧ k ≠ o + 1 ∧ h ≠ o ∧ h ≠ o + 1 ∧ h + 1 ≠ o) : mM G yX0_writeTo cX0_writeTo 5 none 2 [.ref k, .ref h, .ref o] μ (qV (fun m => (∀ c : Nat, c ≠ o → c ≠ o + 1 → c ≠ k → m.1 c = μ.1 c) ∧ m.2 = μ.2 ∧ m.1 o 1 = lng (μ.1 k 0) (μ.1 h 1) ∧ (∀ i : Int, 0 ≤ i → i < lng (μ.1 k 0) (μ.1 h 1) → m.1 (o + 1) i = ansI (μ.1 k 0) (μ.1 k 2) (μ.1 k 3) (μ.1 h 1) (μ.1 (h + 1)) i) ∧ (∀ f : Int, f ≠ 4 → m.1 k f = μ.1 k f) ∧ m.1 k 4 = min (μ.1 k 4 + 1) 9999)) := by
  have hL := lng_bd (kind := μ.1 k 0) hn.1
  refine mM.of (lv := [some (.ref k), some (.ref h), some (.ref o), none, none]) 2 (by decide +kernel) (Nat.le_of_ble_eq_true rfl) rfl ?_
  intro X
  have lp : ∀ (n_ : Nat) (i : Int) (m : mMem), (0 ≤ i) → (i ≤ lng (μ.1 k 0) (μ.1 h 1)) → (13 ≤ i + n_) → (∀ c : Nat, c ≠ o → c ≠ o + 1 → m.1 c = μ.1 c) → (m.2 = μ.2) → (m.1 o 1 = i) → (∀ j : Int, 0 ≤ j → j < i → m.1 (o + 1) j = ansI (μ.1 k 0) (μ.1 k 2) (μ.1 k 3) (μ.1 h 1) (μ.1 (h + 1)) j) → mW X cX0_writeTo 5 none yX0_writeTo.cls 2 G (qV (fun m => (∀ c : Nat, c ≠ o → c ≠ o + 1 → c ≠ k → m.1 c = μ.1 c) ∧ m.2 = μ.2 ∧ m.1 o 1 = lng (μ.1 k 0) (μ.1 h 1) ∧ (∀ i : Int, 0 ≤ i → i < lng (μ.1 k 0) (μ.1 h 1) → m.1 (o + 1) i = ansI (μ.1 k 0) (μ.1 k 2) (μ.1 k 3) (μ.1 h 1) (μ.1 (h + 1)) i) ∧ (∀ f : Int, f ≠ 4 → m.1 k f = μ.1 k f) ∧ m.1 k 4 = min (μ.1 k 4 + 1) 9999)) 13 [some (.ref k), some (.ref h), some (.ref o), some (.int (iV (lng (μ.1 k 0) (μ.1 h 1)))), some (.int (iV i))] [] m := by
    intro n_
    induction n_ with
    | zero =>
      intro i m h1 h2 h3 h4 h5 h6 h7
      omega
    | succ n_ ih =>
      intro i m h1 h2 h3 h4 h5 h6 h7
      have ek_k := h4 k hne.1 hne.2.1
      have ek_h := h4 h hne.2.2.1 hne.2.2.2.1
      have ek_h1 := h4 (h + 1) hne.2.2.2.2 (by omega)
      refine mw_iload dX0_writeTo_13 rfl ?_
      refine mw_iload_n dX0_writeTo_15 rfl ?_
      refine mw_icmp_ge (tgt := 36) dX0_writeTo_16 (by decide) (by omega) (by omega) (fun c_16 => ?_) (fun c_16 => ?_)
      · refine mw_aload_n dX0_writeTo_36 rfl ?_
        refine mw_aload_n dX0_writeTo_37 rfl ?_
        refine mw_getI 4 dX0_writeTo_38 gs_X0_24 hk rfl rfl ?_
        refine mw_iconst dX0_writeTo_41 ?_
        refine mw_iadd dX0_writeTo_42 ?_
        refine mw_sipush dX0_writeTo_43 (by decide +kernel) ?_
        refine mw_Spi dX0_writeTo_46 ml_X0_60 ok_J9_min_7cf53 (by decide) rfl rfl (Nat.le_of_ble_eq_true rfl) (c_min (by rw [ek_k]; omega) (by omega)) ?_
        refine mw_putI 4 dX0_writeTo_49 ps_X0_24 hk rfl rfl ?_
        refine mw_vret dX0_writeTo_52 rfl ?_
        refine ⟨rfl, fun c q1 q2 q3 => ?_, by rw [← h5]; rfl, ?_, fun j q1 q2 => ?_, fun f q1 => ?_, ?_⟩
        · rw [← h4 c q1 q2]
          funext j
          rw [u1_o (by omega)]
        · rw [u1_o (by omega), h6]
          omega
        · rw [u1_o (by omega)]
          exact h7 j q1 (by omega)
        · rw [u1_o (by omega), ek_k]
        · rw [u1_s, ek_k]
      · refine mw_aload_n dX0_writeTo_19 rfl ?_
        refine mw_aload_n dX0_writeTo_20 rfl ?_
        refine mw_aload_n dX0_writeTo_21 rfl ?_
        refine mw_iload dX0_writeTo_22 rfl ?_
        refine mw_Vpi (ci := 0) dX0_writeTo_24 ml_X0_53 ok_X0_toneTo (by decide) (by first | rfl | assumption) (by decide) rfl rfl rfl (Nat.le_of_ble_eq_true rfl) (c_A_tone hk hh hh1 hl (by rw [ek_h]; exact hn) (by rw [ek_h, ek_h1]; exact ht) (by rw [ek_k]; exact hkd) (by rw [ek_k]; exact hky) (by rw [ek_h]; omega)) ?_
        refine mw_Vpv (ci := 5) dX0_writeTo_27 ml_X0_56 ok_X5_append (by decide) ho (by decide) rfl rfl rfl (Nat.le_of_ble_eq_true rfl) (c_T_append ho ho1 hlo (by rw [h6]; omega)) ?_
        refine mw_ii4 dX0_writeTo_30 (by decide) rfl ?_
        refine mw_goto (tgt := 13) dX0_writeTo_33 (by decide) ?_
        refine ih _ _ (by omega) (by omega) (by omega) (fun c q1 q2 => ?_) (by rw [← h5]; rfl) (by rw [u1_s, h6]) (fun j q1 q2 => ?_)
        · rw [← h4 c q1 q2]
          funext j
          rw [u1_o (by omega), u1_o (by omega)]
        · rw [u1_o (by omega)]
          by_cases hj : j = i
          · rw [hj, h6, u1_s, ek_k, ek_h, ek_h1]
          · rw [u1_o (by omega)]
            exact h7 j q1 (by omega)
  refine mw_aload_n dX0_writeTo_0 rfl ?_
  refine mw_aload_n dX0_writeTo_1 rfl ?_
  refine mw_Vpi (ci := 0) dX0_writeTo_2 ml_X0_46 ok_X0_lengthTo (by decide) (by first | rfl | assumption) (by decide) rfl rfl rfl (Nat.le_of_ble_eq_true rfl) (c_A_long hk hh hh1 hl hn hkd) ?_
  refine mw_is3 dX0_writeTo_5 (by decide) rfl ?_
  refine mw_aload_n dX0_writeTo_6 rfl ?_
  refine mw_Vpv (ci := 5) dX0_writeTo_7 ml_X0_50 ok_X5_clear (by decide) ho (by decide) rfl rfl rfl (Nat.le_of_ble_eq_true rfl) (c_T_clear ho) ?_
  refine mw_iconst dX0_writeTo_10 ?_
  refine mw_is4 dX0_writeTo_11 (by decide) rfl ?_
  refine lp 13 _ _ (by omega) (by omega) (by omega) (fun c q1 q2 => ?_) rfl (u1_s _ _ _ _) (fun j q1 q2 => by omega)
  funext j
  rw [u1_o (by omega)]
end
section
set_option maxHeartbeats 4000000 in
set_option maxRecDepth 100000 in
theorem c_P_clear {G : mG} {μ : mMem} {k : Nat} (hk : mCls k = 4) : mM G yX4_clear cX4_clear 1 none 0 [.ref k] μ (pV (u1 μ k 1 0)) := by
  refine mM.of (lv := [some (.ref k)]) 0 (by decide +kernel) (Nat.le_of_ble_eq_true rfl) rfl ?_
  intro X
  refine mw_aload_n dX4_clear_0 rfl ?_
  refine mw_iconst dX4_clear_1 ?_
  refine mw_putI 1 dX4_clear_2 ps_X4_15 (by first | rfl | assumption) rfl rfl ?_
  refine mw_vret dX4_clear_5 rfl ?_
  exact ⟨rfl, rfl⟩
set_option maxHeartbeats 4000000 in
set_option maxRecDepth 100000 in
theorem c_P_append {G : mG} {μ : mMem} {k : Nat} (hk : mCls k = 4) (hk1 : mCls (k + 1) = 8) (hl1 : mLen (k + 1) = 120) {x : Int} (hn : 0 ≤ μ.1 k 1 ∧ μ.1 k 1 < 120) : mM G yX4_append cX4_append 2 none 0 [.ref k, .int (iV x)] μ (pV (u1 (u1 μ (k + 1) (μ.1 k 1) x) k 1 (μ.1 k 1 + 1))) := by
  refine mM.of (lv := [some (.ref k), some (.int (iV x))]) 0 (by decide +kernel) (Nat.le_of_ble_eq_true rfl) rfl ?_
  intro X
  refine mw_aload_n dX4_append_0 rfl ?_
  refine mw_getI 1 dX4_append_1 gs_X4_15 (by first | rfl | assumption) rfl rfl ?_
  refine mw_bipush dX4_append_4 (by decide +kernel) ?_
  refine mw_icmp_ge (tgt := 29) dX4_append_6 (by decide) (by omega) (by omega) (fun c_6 => ?_) (fun c_6 => ?_)
  · exact absurd c_6 (by omega)
  · refine mw_aload_n dX4_append_9 rfl ?_
    refine mw_gr_4_0 dX4_append_10 gs_X4_9 (by first | rfl | assumption) ?_
    refine mw_aload_n dX4_append_13 rfl ?_
    refine mw_getI 1 dX4_append_14 gs_X4_15 (by first | rfl | assumption) rfl rfl ?_
    refine mw_iload_n dX4_append_17 rfl ?_
    refine mw_iast 120 dX4_append_18 (by first | rfl | assumption) (by first | rfl | assumption) (by omega) ?_
    refine mw_aload_n dX4_append_19 rfl ?_
    refine mw_dup dX4_append_20 rfl ?_
    refine mw_getI 1 dX4_append_21 gs_X4_15 (by first | rfl | assumption) rfl rfl ?_
    rw [u1_o (by omega)]
    refine mw_iconst dX4_append_24 ?_
    refine mw_iadd dX4_append_25 ?_
    refine mw_putI 1 dX4_append_26 ps_X4_15 (by first | rfl | assumption) rfl rfl ?_
    refine mw_vret dX4_append_29 rfl ?_
    exact ⟨rfl, rfl⟩
def bAt (n : Int) (t : Int → Int) (i : Int) : Int := if 0 ≤ i ∧ i < n then t i else -1
set_option maxHeartbeats 4000000 in
set_option maxRecDepth 100000 in
theorem c_P_byteAt {G : mG} {μ : mMem} {k : Nat} (hk : mCls k = 4) (hk1 : mCls (k + 1) = 8) (hl1 : mLen (k + 1) = 120) {i : Int} (hi : -2147483648 ≤ i ∧ i ≤ 2147483647) (hn : 0 ≤ μ.1 k 1 ∧ μ.1 k 1 ≤ 120) : mM G yX4_byteAt cX4_byteAt 2 (some .int) 0 [.ref k, .int (iV i)] μ (pI (bAt (μ.1 k 1) (μ.1 (k + 1)) i) μ) := by
  refine mM.of (lv := [some (.ref k), some (.int (iV i))]) 0 (by decide +kernel) (Nat.le_of_ble_eq_true rfl) rfl ?_
  intro X
  refine mw_iload_n dX4_byteAt_0 rfl ?_
  refine mw_if_lt (tgt := 21) dX4_byteAt_1 (by decide) (by omega) (fun c_1 => ?_) (fun c_1 => ?_)
  · refine mw_iconst dX4_byteAt_21 ?_
    refine mw_iret dX4_byteAt_22 rfl ?_
    exact ⟨by unfold bAt; rw [if_neg (by omega)], rfl⟩
  · refine mw_iload_n dX4_byteAt_4 rfl ?_
    refine mw_aload_n dX4_byteAt_5 rfl ?_
    refine mw_getI 1 dX4_byteAt_6 gs_X4_15 (by first | rfl | assumption) rfl rfl ?_
    refine mw_icmp_ge (tgt := 21) dX4_byteAt_9 (by decide) (by omega) (by omega) (fun c_9 => ?_) (fun c_9 => ?_)
    · refine mw_iconst dX4_byteAt_21 ?_
      refine mw_iret dX4_byteAt_22 rfl ?_
      exact ⟨by unfold bAt; rw [if_neg (by omega)], rfl⟩
    · refine mw_aload_n dX4_byteAt_12 rfl ?_
      refine mw_gr_4_0 dX4_byteAt_13 gs_X4_9 (by first | rfl | assumption) ?_
      refine mw_iload_n dX4_byteAt_16 rfl ?_
      refine mw_iald 120 dX4_byteAt_17 (by first | rfl | assumption) (by first | rfl | assumption) (by omega) ?_
      refine mw_goto (tgt := 22) dX4_byteAt_18 (by decide) ?_
      refine mw_iret dX4_byteAt_22 rfl ?_
      exact ⟨by unfold bAt; rw [if_pos (by omega)], rfl⟩
set_option maxHeartbeats 4000000 in
set_option maxRecDepth 100000 in
theorem c_S_begin {G : mG} {μ : mMem} {k : Nat} (hk : mCls k = 3) (hk1 : mCls (k + 1) = 9) (hl1 : mLen (k + 1) = 40) {b n : Int} : mM G yX3_begin cX3_begin 4 none 0 [.ref k, .int (iV b), .int (iV n)] μ (qV (fun m => (∀ c : Nat, c ≠ k → m.1 c = μ.1 c) ∧ m.1 k 1 = b ∧ m.1 k 2 = n ∧ (∀ c : Nat, c ≠ k + 1 → m.2 c = μ.2 c) ∧ ∀ i : Int, 0 ≤ i → i < 40 → m.2 (k + 1) i = 0)) := by
  refine mM.of (lv := [some (.ref k), some (.int (iV b)), some (.int (iV n)), none]) 1 (by decide +kernel) (Nat.le_of_ble_eq_true rfl) rfl ?_
  intro X
  have lp : ∀ (n_ : Nat) (i : Int) (m : mMem), (0 ≤ i) → (i ≤ 40) → (41 ≤ i + n_) → (m.1 = (u1 (u1 μ k 1 b) k 2 n).1) → (∀ c : Nat, c ≠ k + 1 → m.2 c = μ.2 c) → (∀ j : Int, 0 ≤ j → j < i → m.2 (k + 1) j = 0) → mW X cX3_begin 4 none yX3_begin.cls 0 G (qV (fun m => (∀ c : Nat, c ≠ k → m.1 c = μ.1 c) ∧ m.1 k 1 = b ∧ m.1 k 2 = n ∧ (∀ c : Nat, c ≠ k + 1 → m.2 c = μ.2 c) ∧ ∀ i : Int, 0 ≤ i → i < 40 → m.2 (k + 1) i = 0)) 12 [some (.ref k), some (.int (iV b)), some (.int (iV n)), some (.int (iV i))] [] m := by
    intro n_
    induction n_ with
    | zero =>
      intro i m h1 h2 h3 h4 h5 h6
      omega
    | succ n_ ih =>
      intro i m h1 h2 h3 h4 h5 h6
      refine mw_iload_n dX3_begin_12 rfl ?_
      refine mw_bipush dX3_begin_13 (by decide +kernel) ?_
      refine mw_icmp_ge (tgt := 31) dX3_begin_15 (by decide) (by omega) (by omega) (fun c_15 => ?_) (fun c_15 => ?_)
      · refine mw_vret dX3_begin_31 rfl ?_
        refine ⟨rfl, fun c q => ?_, ?_, ?_, h5, fun j q1 q2 => h6 j q1 (by omega)⟩
        · rw [h4]
          funext j
          rw [u1_o (by omega), u1_o (by omega)]
        · rw [h4, u1_o (by omega), u1_s]
        · rw [h4, u1_s]
      · refine mw_aload_n dX3_begin_18 rfl ?_
        refine mw_gr_3_0 dX3_begin_19 gs_X3_9 (by first | rfl | assumption) ?_
        refine mw_iload_n dX3_begin_22 rfl ?_
        refine mw_lconst dX3_begin_23 rfl ?_
        refine mw_last 40 dX3_begin_24 (by first | rfl | assumption) (by first | rfl | assumption) (by omega) ?_
        refine mw_ii3 dX3_begin_25 (by decide) rfl ?_
        refine mw_goto (tgt := 12) dX3_begin_28 (by decide) ?_
        refine ih _ _ (by omega) (by omega) (by omega) (by rw [← h4]; rfl) (fun c q => ?_) (fun j q1 q2 => ?_)
        · rw [← h5 c q]
          funext j
          rw [u2_o (by omega)]
        · by_cases hj : j = i
          · rw [hj, u2_s]
            rfl
          · rw [u2_o (by omega)]
            exact h6 j q1 (by omega)
  refine mw_aload_n dX3_begin_0 rfl ?_
  refine mw_iload_n dX3_begin_1 rfl ?_
  refine mw_putI 1 dX3_begin_2 ps_X3_15 (by first | rfl | assumption) rfl rfl ?_
  refine mw_aload_n dX3_begin_5 rfl ?_
  refine mw_iload_n dX3_begin_6 rfl ?_
  refine mw_putI 2 dX3_begin_7 ps_X3_19 (by first | rfl | assumption) rfl rfl ?_
  refine mw_iconst dX3_begin_10 ?_
  refine mw_is3 dX3_begin_11 (by decide) rfl ?_
  exact lp 41 _ _ (by omega) (by omega) (by omega) rfl (fun c q => rfl) (fun j q1 q2 => by omega)
def misI (b : Int) : Int := if b = 0 then 1 else 0
set_option maxHeartbeats 4000000 in
set_option maxRecDepth 100000 in
theorem c_S_missing {G : mG} {μ : mMem} {k : Nat} (hk : mCls k = 3) (hb : -2147483648 ≤ μ.1 k 1 ∧ μ.1 k 1 ≤ 2147483647) : mM G yX3_isMissing cX3_isMissing 1 (some .boolean) 0 [.ref k] μ (pI (misI (μ.1 k 1)) μ) := by
  refine mM.of (lv := [some (.ref k)]) 0 (by decide +kernel) (Nat.le_of_ble_eq_true rfl) rfl ?_
  intro X
  refine mw_aload_n dX3_isMissing_0 rfl ?_
  refine mw_getI 1 dX3_isMissing_1 gs_X3_15 (by first | rfl | assumption) rfl rfl ?_
  refine mw_if_ne (tgt := 11) dX3_isMissing_4 (by decide) (by omega) (fun c_4 => ?_) (fun c_4 => ?_)
  · refine mw_iconst dX3_isMissing_11 ?_
    refine mw_zret dX3_isMissing_12 rfl (by decide +kernel) ?_
    exact ⟨by unfold misI; rw [if_neg c_4], rfl⟩
  · refine mw_iconst dX3_isMissing_7 ?_
    refine mw_goto (tgt := 12) dX3_isMissing_8 (by decide) ?_
    refine mw_zret dX3_isMissing_12 rfl (by decide +kernel) ?_
    exact ⟨by unfold misI; rw [if_pos c_4], rfl⟩
def rowI (size a n : Int) : Int := if 0 ≤ a ∧ 0 ≤ n ∧ n ≤ size ∧ a ≤ size - n then 1 else 0
set_option maxHeartbeats 4000000 in
set_option maxRecDepth 100000 in
theorem c_S_hasRow {G : mG} {μ : mMem} {k : Nat} (hk : mCls k = 3) (hb : 0 ≤ μ.1 k 2 ∧ μ.1 k 2 ≤ 40) {a n : Int} (ha : -2147483648 ≤ a ∧ a ≤ 2147483647) (hn : -2147483648 ≤ n ∧ n ≤ 2147483647) : mM G yX3_hasRow cX3_hasRow 3 (some .boolean) 0 [.ref k, .int (iV a), .int (iV n)] μ (pI (rowI (μ.1 k 2) a n) μ) := by
  refine mM.of (lv := [some (.ref k), some (.int (iV a)), some (.int (iV n))]) 0 (by decide +kernel) (Nat.le_of_ble_eq_true rfl) rfl ?_
  intro X
  refine mw_iload_n dX3_hasRow_0 rfl ?_
  refine mw_if_lt (tgt := 30) dX3_hasRow_1 (by decide) (by omega) (fun c_1 => ?_) (fun c_1 => ?_)
  · refine mw_iconst dX3_hasRow_30 ?_
    refine mw_zret dX3_hasRow_31 rfl (by decide +kernel) ?_
    exact ⟨by unfold rowI; rw [if_neg (by omega)], rfl⟩
  · refine mw_iload_n dX3_hasRow_4 rfl ?_
    refine mw_if_lt (tgt := 30) dX3_hasRow_5 (by decide) (by omega) (fun c_5 => ?_) (fun c_5 => ?_)
    · refine mw_iconst dX3_hasRow_30 ?_
      refine mw_zret dX3_hasRow_31 rfl (by decide +kernel) ?_
      exact ⟨by unfold rowI; rw [if_neg (by omega)], rfl⟩
    · refine mw_iload_n dX3_hasRow_8 rfl ?_
      refine mw_aload_n dX3_hasRow_9 rfl ?_
      refine mw_getI 2 dX3_hasRow_10 gs_X3_19 (by first | rfl | assumption) rfl rfl ?_
      refine mw_icmp_gt (tgt := 30) dX3_hasRow_13 (by decide) (by omega) (by omega) (fun c_13 => ?_) (fun c_13 => ?_)
      · refine mw_iconst dX3_hasRow_30 ?_
        refine mw_zret dX3_hasRow_31 rfl (by decide +kernel) ?_
        exact ⟨by unfold rowI; rw [if_neg (by omega)], rfl⟩
      · refine mw_iload_n dX3_hasRow_16 rfl ?_
        refine mw_aload_n dX3_hasRow_17 rfl ?_
        refine mw_getI 2 dX3_hasRow_18 gs_X3_19 (by first | rfl | assumption) rfl rfl ?_
        refine mw_iload_n dX3_hasRow_21 rfl ?_
        refine mw_isub dX3_hasRow_22 ?_
        refine mw_icmp_gt (tgt := 30) dX3_hasRow_23 (by decide) (by omega) (by omega) (fun c_23 => ?_) (fun c_23 => ?_)
        · refine mw_iconst dX3_hasRow_30 ?_
          refine mw_zret dX3_hasRow_31 rfl (by decide +kernel) ?_
          exact ⟨by unfold rowI; rw [if_neg (by omega)], rfl⟩
        · refine mw_iconst dX3_hasRow_26 ?_
          refine mw_goto (tgt := 31) dX3_hasRow_27 (by decide) ?_
          refine mw_zret dX3_hasRow_31 rfl (by decide +kernel) ?_
          exact ⟨by unfold rowI; rw [if_pos (by omega)], rfl⟩
def cutL (v : Int64) (b : Int) : Int64 := if b = 8 then (iV (iV v.toInt32.toInt).toInt8.toInt32.toInt).toInt64 else if b = 16 then (iV (iV v.toInt32.toInt).toInt16.toInt32.toInt).toInt64 else v
set_option maxHeartbeats 4000000 in
set_option maxRecDepth 100000 in
theorem c_S_lowest {G : mG} {μ : mMem} {k : Nat} (hk : mCls k = 3) (hb : -2147483648 ≤ μ.1 k 1 ∧ μ.1 k 1 ≤ 2147483647) {v : Int64} : mM G yX3_lowestBits cX3_lowestBits 3 (some .long) 0 [.ref k, .long v] μ (pL (cutL v (μ.1 k 1)) μ) := by
  refine mM.of (lv := [some (.ref k), some (.long v), none]) 0 (by decide +kernel) (Nat.le_of_ble_eq_true rfl) rfl ?_
  intro X
  refine mw_aload_n dX3_lowestBits_0 rfl ?_
  refine mw_getI 1 dX3_lowestBits_1 gs_X3_15 (by first | rfl | assumption) rfl rfl ?_
  obtain ⟨kd, ekd⟩ : ∃ z, z = μ.1 k 1 := ⟨_, rfl⟩
  rw [← ekd] at hb ⊢
  rcases (show kd = 8 ∨ kd = 16 ∨ (kd ≠ 8 ∧ kd ≠ 16) by omega) with rfl | rfl | c_4
  · refine mw_lkp (off := 28) (tgt := 32) dX3_lowestBits_4 (by decide) (by decide) (by decide) (by decide) ?_
    refine mw_lload_n dX3_lowestBits_32 rfl ?_
    refine mw_l2i dX3_lowestBits_33 ?_
    refine mw_i2b dX3_lowestBits_34 ?_
    refine mw_i2l dX3_lowestBits_35 ?_
    refine mw_lret dX3_lowestBits_36 rfl ?_
    exact ⟨by unfold cutL; rw [if_pos rfl], rfl⟩
  · refine mw_lkp (off := 33) (tgt := 37) dX3_lowestBits_4 (by decide) (by decide) (by decide) (by decide) ?_
    refine mw_lload_n dX3_lowestBits_37 rfl ?_
    refine mw_l2i dX3_lowestBits_38 ?_
    refine mw_i2s dX3_lowestBits_39 ?_
    refine mw_i2l dX3_lowestBits_40 ?_
    refine mw_lret dX3_lowestBits_41 rfl ?_
    exact ⟨by unfold cutL; rw [if_neg (by decide), if_pos rfl], rfl⟩
  · refine mw_lkp (off := 38) (tgt := 42) dX3_lowestBits_4 (by omega) (by decide) (by show Op.lookupswitch.offset [(8, 28), (16, 33)] _ _ = _; rw [Op.lookupswitch.offset_cons, if_neg (by omega)]; rw [Op.lookupswitch.offset_cons, if_neg (by omega)]; rfl) (by decide) ?_
    refine mw_lload_n dX3_lowestBits_42 rfl ?_
    refine mw_lret dX3_lowestBits_43 rfl ?_
    exact ⟨by unfold cutL; rw [if_neg c_4.1, if_neg c_4.2], rfl⟩
set_option maxHeartbeats 4000000 in
set_option maxRecDepth 100000 in
theorem c_S_put {G : mG} {μ : mMem} {k : Nat} (hk : mCls k = 3) (hk1 : mCls (k + 1) = 9) (hl1 : mLen (k + 1) = 40) (hb : -2147483648 ≤ μ.1 k 1 ∧ μ.1 k 1 ≤ 2147483647) (hs : μ.1 k 2 ≤ 40) {i : Int} (hi : 0 ≤ i ∧ i < μ.1 k 2) {v : Int64} : mM G yX3_put cX3_put 4 none 1 [.ref k, .int (iV i), .long v] μ (pV (u2 μ (k + 1) i (cutL v (μ.1 k 1)))) := by
  refine mM.of (lv := [some (.ref k), some (.int (iV i)), some (.long v), none]) 0 (by decide +kernel) (Nat.le_of_ble_eq_true rfl) rfl ?_
  intro X
  refine mw_iload_n dX3_put_0 rfl ?_
  refine mw_if_lt (tgt := 23) dX3_put_1 (by decide) (by omega) (fun c_1 => ?_) (fun c_1 => ?_)
  · exact absurd c_1 (by omega)
  · refine mw_iload_n dX3_put_4 rfl ?_
    refine mw_aload_n dX3_put_5 rfl ?_
    refine mw_getI 2 dX3_put_6 gs_X3_19 (by first | rfl | assumption) rfl rfl ?_
    refine mw_icmp_ge (tgt := 23) dX3_put_9 (by decide) (by omega) (by omega) (fun c_9 => ?_) (fun c_9 => ?_)
    · exact absurd c_9 (by omega)
    · refine mw_aload_n dX3_put_12 rfl ?_
      refine mw_gr_3_0 dX3_put_13 gs_X3_9 (by first | rfl | assumption) ?_
      refine mw_iload_n dX3_put_16 rfl ?_
      refine mw_aload_n dX3_put_17 rfl ?_
      refine mw_lload_n dX3_put_18 rfl ?_
      refine mw_Vpl (ci := 3) dX3_put_19 ml_X3_22 ok_X3_lowestBits (by decide) (by first | rfl | assumption) (by decide) rfl rfl rfl (Nat.le_of_ble_eq_true rfl) (c_S_lowest hk hb) ?_
      refine mw_last 40 dX3_put_22 (by first | rfl | assumption) (by first | rfl | assumption) (by omega) ?_
      refine mw_vret dX3_put_23 rfl ?_
      exact ⟨rfl, rfl⟩
end
section
/-! ===== a row of 68 numbers tells all that section 1 tells: 0 the day, 1 how many attaches, 2 + side how many tones, 4 + 12 side + i a tone, 28 + 5 a + field of an attache ===== -/
def tn (F : Int → Int) (s : Int) : Int → Int := fun i => F (4 + 12 * s + i)
def fInv (F : Int → Int) : Prop := 0 ≤ F 0 ∧ (0 ≤ F 1 ∧ F 1 ≤ 8) ∧ (∀ s : Int, 0 ≤ s → s ≤ 1 → 0 ≤ F (2 + s) ∧ F (2 + s) ≤ 12) ∧ (∀ s i : Int, 0 ≤ s → s ≤ 1 → 0 ≤ i → i < 12 → 0 ≤ F (4 + 12 * s + i) ∧ F (4 + 12 * s + i) < 12) ∧ ∀ a : Int, 0 ≤ a → a < 8 → (0 ≤ F (28 + 5 * a + 0) ∧ F (28 + 5 * a + 0) < 6) ∧ (0 ≤ F (28 + 5 * a + 1) ∧ F (28 + 5 * a + 1) ≤ 1) ∧ (0 ≤ F (28 + 5 * a + 2) ∧ F (28 + 5 * a + 2) < 12) ∧ (0 ≤ F (28 + 5 * a + 3) ∧ F (28 + 5 * a + 3) < 4096) ∧ (0 ≤ F (28 + 5 * a + 4) ∧ F (28 + 5 * a + 4) ≤ 9999)
def many (F : Int → Int) (s : Int) : Nat → Int
  | 0 => 0
  | n + 1 => many F s n + (if F (28 + 5 * (n : Int) + 1) = s then 1 else 0)
theorem many_bd (F : Int → Int) (s : Int) : ∀ n : Nat, 0 ≤ many F s n ∧ many F s n ≤ n
  | 0 => ⟨Int.le_refl 0, Int.le_refl 0⟩
  | n + 1 => by
    have h := many_bd F s n
    rw [many]
    split <;> omega
def whL (F : Int → Int) (s : Int) : Nat → Int → Int → Int
  | 0, _, _ => -1
  | k + 1, a, l => if F (28 + 5 * a + 1) = s then (if l = 0 then a else whL F s k (a + 1) (l - 1)) else whL F s k (a + 1) l
theorem whL_r (F : Int → Int) (s : Int) : ∀ (k : Nat) (a l : Int), whL F s k a l = -1 ∨ (a ≤ whL F s k a l ∧ whL F s k a l < a + k ∧ F (28 + 5 * whL F s k a l + 1) = s)
  | 0, a, l => Or.inl rfl
  | k + 1, a, l => by
    rw [whL]
    split
    · split
      · exact Or.inr ⟨by omega, by omega, by assumption⟩
      · rcases whL_r F s k (a + 1) (l - 1) with h | ⟨h1, h2, h3⟩
        · exact Or.inl h
        · exact Or.inr ⟨by omega, by omega, h3⟩
    · rcases whL_r F s k (a + 1) l with h | ⟨h1, h2, h3⟩
      · exact Or.inl h
      · exact Or.inr ⟨by omega, by omega, h3⟩
def whose (F : Int → Int) : Int := if many F (F 0 % 2) (F 1).toNat = 0 then -1 else whL F (F 0 % 2) (F 1).toNat 0 (F 0 / 2 % many F (F 0 % 2) (F 1).toNat)
theorem whose_r (F : Int → Int) (h : 0 ≤ F 1) : whose F = -1 ∨ (0 ≤ whose F ∧ whose F < F 1 ∧ F (28 + 5 * whose F + 1) = F 0 % 2) := by
  unfold whose
  split
  · exact Or.inl rfl
  · rcases whL_r F (F 0 % 2) (F 1).toNat 0 (F 0 / 2 % many F (F 0 % 2) (F 1).toNat) with h1 | ⟨h1, h2, h3⟩
    · exact Or.inl h1
    · exact Or.inr ⟨h1, by omega, h3⟩
/-- what an attache's answer makes of the row -/
def wrF (F : Int → Int) (a : Int) : Int → Int := fun j =>
  if 4 + 12 * F (28 + 5 * a + 1) ≤ j ∧ j < 4 + 12 * F (28 + 5 * a + 1) + lng (F (28 + 5 * a + 0)) (F (2 + (1 - F (28 + 5 * a + 1)))) then ansI (F (28 + 5 * a + 0)) (F (28 + 5 * a + 2)) (F (28 + 5 * a + 3)) (F (2 + (1 - F (28 + 5 * a + 1)))) (tn F (1 - F (28 + 5 * a + 1))) (j - (4 + 12 * F (28 + 5 * a + 1)))
  else if j = 2 + F (28 + 5 * a + 1) then lng (F (28 + 5 * a + 0)) (F (2 + (1 - F (28 + 5 * a + 1)))) else if j = 28 + 5 * a + 4 then min (F (28 + 5 * a + 4) + 1) 9999 else F j
def dayF (F : Int → Int) : Int → Int := fun j => if j = 0 then F 0 + 1 else if 0 ≤ whose F ∧ 0 < F (2 + (1 - F (28 + 5 * whose F + 1))) then wrF F (whose F) j else F j
theorem wr_tone {F : Int → Int} {a : Int} (s : Int) {i : Int} (hs : s = F (28 + 5 * a + 1)) (hi : 0 ≤ i ∧ i < lng (F (28 + 5 * a + 0)) (F (2 + (1 - s)))) : wrF F a (4 + 12 * s + i) = ansI (F (28 + 5 * a + 0)) (F (28 + 5 * a + 2)) (F (28 + 5 * a + 3)) (F (2 + (1 - s))) (tn F (1 - s)) i := by
  unfold wrF
  rw [← hs, if_pos (by omega), show 4 + 12 * s + i - (4 + 12 * s) = i by omega]
theorem wr_len {F : Int → Int} {a : Int} (s : Int) (hs : s = F (28 + 5 * a + 1)) (h : 0 ≤ s ∧ s ≤ 1) (hn : lng (F (28 + 5 * a + 0)) (F (2 + (1 - s))) ≤ 12) : wrF F a (2 + s) = lng (F (28 + 5 * a + 0)) (F (2 + (1 - s))) := by
  unfold wrF
  rw [← hs, if_neg (by omega), if_pos rfl]
theorem wr_wrote {F : Int → Int} {a : Int} (s : Int) (hs : s = F (28 + 5 * a + 1)) (h : 0 ≤ s ∧ s ≤ 1) (ha : 0 ≤ a) (hn : lng (F (28 + 5 * a + 0)) (F (2 + (1 - s))) ≤ 12) : wrF F a (28 + 5 * a + 4) = min (F (28 + 5 * a + 4) + 1) 9999 := by
  unfold wrF
  rw [← hs, if_neg (by omega), if_neg (by omega), if_pos rfl]
theorem wr_o {F : Int → Int} {a j : Int} (s : Int) (hs : s = F (28 + 5 * a + 1)) (h1 : ¬ (4 + 12 * s ≤ j ∧ j < 4 + 12 * s + lng (F (28 + 5 * a + 0)) (F (2 + (1 - s))))) (h2 : j ≠ 2 + s) (h3 : j ≠ 28 + 5 * a + 4) : wrF F a j = F j := by
  unfold wrF
  rw [← hs, if_neg h1, if_neg h2, if_neg h3]
theorem day_0 (F : Int → Int) : dayF F 0 = F 0 + 1 := by simp [dayF]
theorem day_w {F : Int → Int} {j : Int} (hj : j ≠ 0) (h : 0 ≤ whose F ∧ 0 < F (2 + (1 - F (28 + 5 * whose F + 1)))) : dayF F j = wrF F (whose F) j := by
  unfold dayF
  rw [if_neg hj, if_pos h]
theorem day_n {F : Int → Int} {j : Int} (hj : j ≠ 0) (h : ¬ (0 ≤ whose F ∧ 0 < F (2 + (1 - F (28 + 5 * whose F + 1))))) : dayF F j = F j := by
  unfold dayF
  rw [if_neg hj, if_neg h]
theorem wr_inv {F : Int → Int} {a : Int} (h : fInv F) (ha : 0 ≤ a ∧ a < 8) : ∀ j : Int, 1 ≤ j → j < 68 → (wrF F a j = F j ∨ (4 ≤ j ∧ j < 28 ∧ 0 ≤ wrF F a j ∧ wrF F a j < 12) ∨ (2 ≤ j ∧ j ≤ 3 ∧ 0 ≤ wrF F a j ∧ wrF F a j ≤ 12) ∨ (j = 28 + 5 * a + 4 ∧ 0 ≤ wrF F a j ∧ wrF F a j ≤ 9999)) := by
  intro j hj1 hj2
  obtain ⟨g0, g1, g2, g3, g4⟩ := h
  obtain ⟨k0, k1, k2, k3, k4⟩ := g4 a ha.1 ha.2
  have hn := g2 (1 - F (28 + 5 * a + 1)) (by omega) (by omega)
  have hl := lng_bd (kind := F (28 + 5 * a + 0)) hn.1
  have hs : F (28 + 5 * a + 1) = 0 ∨ F (28 + 5 * a + 1) = 1 := by omega
  unfold wrF
  split
  · have hb := ans_bd (F (28 + 5 * a + 0)) (F (28 + 5 * a + 2)) (F (28 + 5 * a + 3)) (F (2 + (1 - F (28 + 5 * a + 1)))) (tn F (1 - F (28 + 5 * a + 1))) (j - (4 + 12 * F (28 + 5 * a + 1)))
    exact Or.inr (Or.inl ⟨by omega, by omega, hb.1, hb.2⟩)
  · split
    · exact Or.inr (Or.inr (Or.inl ⟨by omega, by omega, by omega, by omega⟩))
    · split
      · exact Or.inr (Or.inr (Or.inr ⟨by assumption, by omega, by omega⟩))
      · exact Or.inl rfl
theorem day_inv {F : Int → Int} (h : fInv F) : fInv (dayF F) := by
  obtain ⟨g0, g1, g2, g3, g4⟩ := id h
  by_cases hw : 0 ≤ whose F ∧ 0 < F (2 + (1 - F (28 + 5 * whose F + 1)))
  · have hr : whose F < 8 := by
      rcases whose_r F g1.1 with q | q <;> omega
    have hv := wr_inv h ⟨hw.1, hr⟩
    refine ⟨by rw [day_0]; omega, ?_, fun s h1 h2 => ?_, fun s i h1 h2 h3 h4 => ?_, fun a h1 h2 => ?_⟩
    · rw [day_w (by omega) hw]
      rcases hv 1 (by omega) (by omega) with q | q | q | q <;> omega
    · rw [day_w (by omega) hw]
      have := g2 s h1 h2
      rcases hv (2 + s) (by omega) (by omega) with q | q | q | q <;> omega
    · rw [day_w (by omega) hw]
      have := g3 s i h1 h2 h3 h4
      rcases hv (4 + 12 * s + i) (by omega) (by omega) with q | q | q | q <;> omega
    · obtain ⟨k0, k1, k2, k3, k4⟩ := g4 a h1 h2
      rw [day_w (by omega) hw, day_w (by omega) hw, day_w (by omega) hw, day_w (by omega) hw, day_w (by omega) hw]
      refine ⟨?_, ?_, ?_, ?_, ?_⟩
      · rcases hv (28 + 5 * a + 0) (by omega) (by omega) with q | q | q | q <;> omega
      · rcases hv (28 + 5 * a + 1) (by omega) (by omega) with q | q | q | q <;> omega
      · rcases hv (28 + 5 * a + 2) (by omega) (by omega) with q | q | q | q <;> omega
      · rcases hv (28 + 5 * a + 3) (by omega) (by omega) with q | q | q | q <;> omega
      · rcases hv (28 + 5 * a + 4) (by omega) (by omega) with q | q | q | q <;> omega
  · refine ⟨by rw [day_0]; omega, ?_, fun s h1 h2 => ?_, fun s i h1 h2 h3 h4 => ?_, fun a h1 h2 => ?_⟩
    · rw [day_n (by omega) hw]; exact g1
    · rw [day_n (by omega) hw]; exact g2 s h1 h2
    · rw [day_n (by omega) hw]; exact g3 s i h1 h2 h3 h4
    · rw [day_n (by omega) hw, day_n (by omega) hw, day_n (by omega) hw, day_n (by omega) hw, day_n (by omega) hw]; exact g4 a h1 h2
def daysF : Nat → (Int → Int) → Int → Int
  | 0, F => F
  | n + 1, F => daysF n (dayF F)
theorem days_succ : ∀ (n : Nat) (F : Int → Int), daysF (n + 1) F = dayF (daysF n F)
  | 0, _ => rfl
  | n + 1, F => days_succ n (dayF F)
theorem days_inv {F : Int → Int} (h : fInv F) : ∀ n : Nat, fInv (daysF n F)
  | 0 => h
  | n + 1 => by rw [days_succ]; exact day_inv (days_inv h n)
theorem days_day (F : Int → Int) : ∀ n : Nat, daysF n F 0 = F 0 + n
  | 0 => (Int.add_zero _).symm
  | n + 1 => by rw [days_succ, day_0, days_day F n]; omega
/-! a fugue of the class in the memory: its cell b, its tunes' b + 1 and b + 3, its attaches' from b + 6 on -/
def tc (b : Nat) (s : Int) : Nat := if s = 0 then b + 1 else b + 3
def FUG (μ : mMem) (b : Nat) (F : Int → Int) : Prop := μ.1 b 3 = F 1 ∧ μ.1 b 4 = F 0 ∧ (∀ s : Int, 0 ≤ s → s ≤ 1 → μ.1 (tc b s) 1 = F (2 + s) ∧ ∀ i : Int, 0 ≤ i → i < F (2 + s) → μ.1 (tc b s + 1) i = F (4 + 12 * s + i)) ∧ ∀ a : Int, 0 ≤ a → a < F 1 → ∀ f : Int, 0 ≤ f → f < 5 → μ.1 (b + 5 + 1 + a.toNat) f = F (28 + 5 * a + f)
def BK (b : Nat) : Prop := b = 1 ∨ b = 15 ∨ b = 29
theorem bk_at {b : Nat} (h : BK b) : mCls b = 1 ∧ mCls (b + 1) = 5 ∧ mCls (b + 1 + 1) = 8 ∧ mLen (b + 1 + 1) = 12 ∧ mCls (b + 3) = 5 ∧ mCls (b + 3 + 1) = 8 ∧ mLen (b + 3 + 1) = 12 ∧ mCls (b + 5) = 10 ∧ mLen (b + 5) = 8 := by
  rcases h with rfl | rfl | rfl <;> decide
theorem bk_a {b : Nat} (h : BK b) {a : Int} (ha : 0 ≤ a ∧ a < 8) : mCls (b + 5 + 1 + a.toNat) = 0 := by
  have key : ∀ n : Nat, n < 8 → mCls (1 + 5 + 1 + n) = 0 ∧ mCls (15 + 5 + 1 + n) = 0 ∧ mCls (29 + 5 + 1 + n) = 0 := by decide
  have := key a.toNat (by omega)
  rcases h with rfl | rfl | rfl
  · exact this.1
  · exact this.2.1
  · exact this.2.2
theorem bk_t {b : Nat} (h : BK b) (s : Int) : mCls (tc b s) = 5 ∧ mCls (tc b s + 1) = 8 ∧ mLen (tc b s + 1) = 12 := by
  have := bk_at h
  unfold tc
  split
  · exact ⟨this.2.1, this.2.2.1, this.2.2.2.1⟩
  · exact ⟨this.2.2.2.2.1, this.2.2.2.2.2.1, this.2.2.2.2.2.2.1⟩
theorem tc_c {s : Int} (hs : 0 ≤ s ∧ s ≤ 1) (b : Nat) : (s = 0 ∧ tc b s = b + 1) ∨ (s = 1 ∧ tc b s = b + 3) := by
  unfold tc
  by_cases h : s = 0
  · exact Or.inl ⟨h, by rw [if_pos h]⟩
  · exact Or.inr ⟨by omega, by rw [if_neg h]⟩
/-- nothing but the block of a fugue is changed -/
def FR (b : Nat) (μ m : mMem) : Prop := (∀ c : Nat, c < b ∨ b + 14 ≤ c → m.1 c = μ.1 c) ∧ m.2 = μ.2
theorem FR.rf {b : Nat} {μ : mMem} : FR b μ μ := ⟨fun _ _ => rfl, rfl⟩
theorem FR.tr {b : Nat} {μ m m2 : mMem} (h : FR b μ m) (h2 : FR b m m2) : FR b μ m2 := ⟨fun c hc => (h2.1 c hc).trans (h.1 c hc), h2.2.trans h.2⟩
theorem FUG.keep {μ m : mMem} {b : Nat} {F : Int → Int} (h : FUG μ b F) (hb : F 1 ≤ 8) (hk : ∀ c : Nat, b ≤ c → c < b + 14 → m.1 c = μ.1 c) : FUG m b F := by
  obtain ⟨h1, h2, h3, h4⟩ := h
  refine ⟨by rw [hk b (by omega) (by omega)]; exact h1, by rw [hk b (by omega) (by omega)]; exact h2, fun s q1 q2 => ?_, fun a q1 q2 f q3 q4 => ?_⟩
  · have ht := tc_c ⟨q1, q2⟩ b
    rw [hk (tc b s) (by omega) (by omega), hk (tc b s + 1) (by omega) (by omega)]
    exact h3 s q1 q2
  · rw [hk _ (by omega) (by omega)]
    exact h4 a q1 q2 f q3 q4
theorem FUG.other {μ m : mMem} {b b2 : Nat} {F : Int → Int} (h : FUG μ b2 F) (hb : F 1 ≤ 8) (h1 : BK b) (h2 : BK b2) (hne : b2 ≠ b) (hf : FR b μ m) : FUG m b2 F := by
  refine h.keep hb (fun c q1 q2 => hf.1 c ?_)
  unfold BK at h1 h2
  omega
/-- what a tune's cells are, by the row -/
theorem FUG.tn {μ : mMem} {b : Nat} {F : Int → Int} (h : FUG μ b F) (hi : fInv F) {s : Int} (hs : 0 ≤ s ∧ s ≤ 1) : μ.1 (tc b s) 1 = F (2 + s) ∧ (0 ≤ μ.1 (tc b s) 1 ∧ μ.1 (tc b s) 1 ≤ 12) ∧ (∀ i : Int, 0 ≤ i → i < μ.1 (tc b s) 1 → 0 ≤ μ.1 (tc b s + 1) i ∧ μ.1 (tc b s + 1) i < 12) ∧ ∀ i : Int, 0 ≤ i → i < F (2 + s) → μ.1 (tc b s + 1) i = tn F s i := by
  obtain ⟨e1, e2⟩ := h.2.2.1 s hs.1 hs.2
  have h2 := hi.2.2.1 s hs.1 hs.2
  refine ⟨e1, by rw [e1]; exact h2, fun i q1 q2 => ?_, e2⟩
  rw [e1] at q2
  rw [e2 i q1 q2]
  exact hi.2.2.2.1 s i hs.1 hs.2 q1 (by omega)
theorem FUG.at {μ : mMem} {b : Nat} {F : Int → Int} (h : FUG μ b F) (hi : fInv F) {a : Int} (ha : 0 ≤ a ∧ a < F 1) : μ.1 (b + 5 + 1 + a.toNat) 0 = F (28 + 5 * a + 0) ∧ μ.1 (b + 5 + 1 + a.toNat) 1 = F (28 + 5 * a + 1) ∧ μ.1 (b + 5 + 1 + a.toNat) 2 = F (28 + 5 * a + 2) ∧ μ.1 (b + 5 + 1 + a.toNat) 3 = F (28 + 5 * a + 3) ∧ μ.1 (b + 5 + 1 + a.toNat) 4 = F (28 + 5 * a + 4) ∧ (0 ≤ F (28 + 5 * a + 0) ∧ F (28 + 5 * a + 0) < 6) ∧ (0 ≤ F (28 + 5 * a + 1) ∧ F (28 + 5 * a + 1) ≤ 1) ∧ (0 ≤ F (28 + 5 * a + 2) ∧ F (28 + 5 * a + 2) < 12) ∧ (0 ≤ F (28 + 5 * a + 3) ∧ F (28 + 5 * a + 3) < 4096) ∧ (0 ≤ F (28 + 5 * a + 4) ∧ F (28 + 5 * a + 4) ≤ 9999) := by
  have h4 := h.2.2.2 a ha.1 ha.2
  exact ⟨h4 0 (by omega) (by omega), h4 1 (by omega) (by omega), h4 2 (by omega) (by omega), h4 3 (by omega) (by omega), h4 4 (by omega) (by omega), hi.2.2.2.2 a ha.1 (by have := hi.2.1; omega)⟩
end
section
set_option maxHeartbeats 4000000 in
set_option maxRecDepth 100000 in
theorem c_F_tuneOf {G : mG} {μ : mMem} {b : Nat} (hb : BK b) {s : Int} (hs : 0 ≤ s ∧ s ≤ 1) : mM G yX1_tuneOf cX1_tuneOf 2 (some (.object "FugueNotes$Tune")) 0 [.ref b, .int (iV s)] μ (pR (tc b s) μ) := by
  obtain ⟨kb, kt0, ka0, kl0, kt1, ka1, kl1, kaa, kal⟩ := bk_at hb
  refine mM.of (lv := [some (.ref b), some (.int (iV s))]) 0 (by decide +kernel) (Nat.le_of_ble_eq_true rfl) rfl ?_
  intro X
  refine mw_iload_n dX1_tuneOf_0 rfl ?_
  refine mw_if_ne (tgt := 11) dX1_tuneOf_1 (by decide) (by omega) (fun c_1 => ?_) (fun c_1 => ?_)
  · refine mw_aload_n dX1_tuneOf_11 rfl ?_
    refine mw_gr_1_1 dX1_tuneOf_12 gs_X1_18 (by first | rfl | assumption) ?_
    refine mw_aret dX1_tuneOf_15 rfl (Or.inl ⟨_, rfl⟩) ?_
    exact ⟨by unfold tc; rw [if_neg c_1], rfl⟩
  · refine mw_aload_n dX1_tuneOf_4 rfl ?_
    refine mw_gr_1_0 dX1_tuneOf_5 gs_X1_12 (by first | rfl | assumption) ?_
    refine mw_goto (tgt := 15) dX1_tuneOf_8 (by decide) ?_
    refine mw_aret dX1_tuneOf_15 rfl (Or.inl ⟨_, rfl⟩) ?_
    exact ⟨by unfold tc; rw [if_pos c_1], rfl⟩
set_option maxHeartbeats 4000000 in
set_option maxRecDepth 100000 in
theorem c_F_heardBy {G : mG} {μ : mMem} {b : Nat} (hb : BK b) {k : Nat} (hk : mCls k = 0) (hs : 0 ≤ μ.1 k 1 ∧ μ.1 k 1 ≤ 1) : mM G yX1_heardBy cX1_heardBy 2 (some (.object "FugueNotes$Tune")) 1 [.ref b, .ref k] μ (pR (tc b (1 - μ.1 k 1)) μ) := by
  obtain ⟨kb, kt0, ka0, kl0, kt1, ka1, kl1, kaa, kal⟩ := bk_at hb
  refine mM.of (lv := [some (.ref b), some (.ref k)]) 0 (by decide +kernel) (Nat.le_of_ble_eq_true rfl) rfl ?_
  intro X
  refine mw_aload_n dX1_heardBy_0 rfl ?_
  refine mw_iconst dX1_heardBy_1 ?_
  refine mw_aload_n dX1_heardBy_2 rfl ?_
  refine mw_getI 1 dX1_heardBy_3 gs_X1_42 (by first | rfl | assumption) rfl rfl ?_
  refine mw_isub dX1_heardBy_6 ?_
  refine mw_Vpr (ci := 1) dX1_heardBy_7 ml_X1_45 ok_X1_tuneOf (by decide) kb (by decide) rfl rfl rfl (Nat.le_of_ble_eq_true rfl) (c_F_tuneOf hb (by omega)) ?_
  refine mw_aret dX1_heardBy_10 rfl (Or.inl ⟨_, rfl⟩) ?_
  exact ⟨rfl, rfl⟩
def hasI (n a : Int) : Int := if 0 ≤ a ∧ a < n then 1 else 0
theorem hasI_c (n a : Int) : hasI n a = 0 ∨ hasI n a = 1 := by unfold hasI; split <;> simp
theorem hasI_1 {n a : Int} (h : ¬ hasI n a = 0) : 0 ≤ a ∧ a < n := by
  unfold hasI at h
  split at h
  · assumption
  · exact absurd rfl h
theorem hasI_0 {n a : Int} (h : hasI n a = 0) : ¬ (0 ≤ a ∧ a < n) := by
  unfold hasI at h
  split at h
  · cases h
  · assumption
set_option maxHeartbeats 4000000 in
set_option maxRecDepth 100000 in
theorem c_F_has {G : mG} {μ : mMem} {b : Nat} (hb : BK b) (hn : 0 ≤ μ.1 b 3 ∧ μ.1 b 3 ≤ 8) {a : Int} (ha : -2147483648 ≤ a ∧ a ≤ 2147483647) : mM G yX1_has cX1_has 2 (some .boolean) 0 [.ref b, .int (iV a)] μ (pI (hasI (μ.1 b 3) a) μ) := by
  obtain ⟨kb, kt0, ka0, kl0, kt1, ka1, kl1, kaa, kal⟩ := bk_at hb
  refine mM.of (lv := [some (.ref b), some (.int (iV a))]) 0 (by decide +kernel) (Nat.le_of_ble_eq_true rfl) rfl ?_
  intro X
  refine mw_iload_n dX1_has_0 rfl ?_
  refine mw_if_lt (tgt := 16) dX1_has_1 (by decide) (by omega) (fun c_1 => ?_) (fun c_1 => ?_)
  · refine mw_iconst dX1_has_16 ?_
    refine mw_zret dX1_has_17 rfl (by decide +kernel) ?_
    exact ⟨by unfold hasI; rw [if_neg (by omega)], rfl⟩
  · refine mw_iload_n dX1_has_4 rfl ?_
    refine mw_aload_n dX1_has_5 rfl ?_
    refine mw_getI 3 dX1_has_6 gs_X1_28 (by first | rfl | assumption) rfl rfl ?_
    refine mw_icmp_ge (tgt := 16) dX1_has_9 (by decide) (by omega) (by omega) (fun c_9 => ?_) (fun c_9 => ?_)
    · refine mw_iconst dX1_has_16 ?_
      refine mw_zret dX1_has_17 rfl (by decide +kernel) ?_
      exact ⟨by unfold hasI; rw [if_neg (by omega)], rfl⟩
    · refine mw_iconst dX1_has_12 ?_
      refine mw_goto (tgt := 17) dX1_has_13 (by decide) ?_
      refine mw_zret dX1_has_17 rfl (by decide +kernel) ?_
      exact ⟨by unfold hasI; rw [if_pos (by omega)], rfl⟩
def fullI (n : Int) : Int := if 8 ≤ n then 1 else 0
set_option maxHeartbeats 4000000 in
set_option maxRecDepth 100000 in
theorem c_F_isFull {G : mG} {μ : mMem} {b : Nat} (hb : BK b) (hn : 0 ≤ μ.1 b 3 ∧ μ.1 b 3 ≤ 8) : mM G yX1_isFull cX1_isFull 1 (some .boolean) 0 [.ref b] μ (pI (fullI (μ.1 b 3)) μ) := by
  obtain ⟨kb, kt0, ka0, kl0, kt1, ka1, kl1, kaa, kal⟩ := bk_at hb
  refine mM.of (lv := [some (.ref b)]) 0 (by decide +kernel) (Nat.le_of_ble_eq_true rfl) rfl ?_
  intro X
  refine mw_aload_n dX1_isFull_0 rfl ?_
  refine mw_getI 3 dX1_isFull_1 gs_X1_28 (by first | rfl | assumption) rfl rfl ?_
  refine mw_bipush dX1_isFull_4 (by decide +kernel) ?_
  refine mw_icmp_lt (tgt := 13) dX1_isFull_6 (by decide) (by omega) (by omega) (fun c_6 => ?_) (fun c_6 => ?_)
  · refine mw_iconst dX1_isFull_13 ?_
    refine mw_zret dX1_isFull_14 rfl (by decide +kernel) ?_
    exact ⟨by unfold fullI; rw [if_neg (by omega)], rfl⟩
  · refine mw_iconst dX1_isFull_9 ?_
    refine mw_goto (tgt := 14) dX1_isFull_10 (by decide) ?_
    refine mw_zret dX1_isFull_14 rfl (by decide +kernel) ?_
    exact ⟨by unfold fullI; rw [if_pos (by omega)], rfl⟩
def engF (F : Int → Int) (kind side key blots : Int) : Int → Int := fun j => if j = 1 then F 1 + 1 else if j = 28 + 5 * F 1 + 0 then kind else if j = 28 + 5 * F 1 + 1 then side else if j = 28 + 5 * F 1 + 2 then key else if j = 28 + 5 * F 1 + 3 then blots else if j = 28 + 5 * F 1 + 4 then 0 else F j
theorem eng_o {F : Int → Int} {kind side key blots j : Int} (h1 : j ≠ 1) (h2 : j < 28 + 5 * F 1 ∨ 28 + 5 * F 1 + 5 ≤ j) : engF F kind side key blots j = F j := by
  unfold engF
  rw [if_neg h1, if_neg (by omega), if_neg (by omega), if_neg (by omega), if_neg (by omega), if_neg (by omega)]
theorem eng_1 {F : Int → Int} {kind side key blots : Int} : engF F kind side key blots 1 = F 1 + 1 := by unfold engF; rw [if_pos rfl]
theorem eng_k {F : Int → Int} {kind side key blots : Int} (h : 0 ≤ F 1) : engF F kind side key blots (28 + 5 * F 1 + 0) = kind ∧ engF F kind side key blots (28 + 5 * F 1 + 1) = side ∧ engF F kind side key blots (28 + 5 * F 1 + 2) = key ∧ engF F kind side key blots (28 + 5 * F 1 + 3) = blots ∧ engF F kind side key blots (28 + 5 * F 1 + 4) = 0 := by
  unfold engF
  refine ⟨?_, ?_, ?_, ?_, ?_⟩
  · rw [if_neg (by omega), if_pos rfl]
  · rw [if_neg (by omega), if_neg (by omega), if_pos rfl]
  · rw [if_neg (by omega), if_neg (by omega), if_neg (by omega), if_pos rfl]
  · rw [if_neg (by omega), if_neg (by omega), if_neg (by omega), if_neg (by omega), if_pos rfl]
  · rw [if_neg (by omega), if_neg (by omega), if_neg (by omega), if_neg (by omega), if_neg (by omega), if_pos rfl]
theorem eng_inv {F : Int → Int} {kind side key blots : Int} (h : fInv F) (h8 : F 1 < 8) (hk : 0 ≤ kind ∧ kind < 6) (hs : 0 ≤ side ∧ side ≤ 1) (hy : 0 ≤ key ∧ key < 12) (hb : 0 ≤ blots ∧ blots < 4096) : fInv (engF F kind side key blots) := by
  obtain ⟨g0, g1, g2, g3, g4⟩ := h
  refine ⟨by rw [eng_o (by omega) (by omega)]; exact g0, by rw [eng_1]; omega, fun s q1 q2 => ?_, fun s i q1 q2 q3 q4 => ?_, fun a q1 q2 => ?_⟩
  · rw [eng_o (by omega) (by omega)]; exact g2 s q1 q2
  · rw [eng_o (by omega) (by omega)]; exact g3 s i q1 q2 q3 q4
  · by_cases ha : a = F 1
    · obtain ⟨e0, e1, e2, e3, e4⟩ := eng_k (F := F) (kind := kind) (side := side) (key := key) (blots := blots) g1.1
      rw [ha, e0, e1, e2, e3, e4]
      exact ⟨hk, hs, hy, hb, by omega⟩
    · rw [eng_o (by omega) (by omega), eng_o (by omega) (by omega), eng_o (by omega) (by omega), eng_o (by omega) (by omega), eng_o (by omega) (by omega)]
      exact g4 a q1 q2
theorem eng_fug {μ : mMem} {b : Nat} (hb : BK b) {F : Int → Int} (hF : FUG μ b F) (hI : fInv F) {kind side key blots : Int} (h8 : F 1 < 8) : FUG (u1 (u1 (u1 (u1 (u1 (u1 μ (b + 5 + 1 + (F 1).toNat) 0 kind) (b + 5 + 1 + (F 1).toNat) 1 side) (b + 5 + 1 + (F 1).toNat) 2 key) (b + 5 + 1 + (F 1).toNat) 3 blots) (b + 5 + 1 + (F 1).toNat) 4 0) b 3 (F 1 + 1)) b (engF F kind side key blots) ∧ FR b μ (u1 (u1 (u1 (u1 (u1 (u1 μ (b + 5 + 1 + (F 1).toNat) 0 kind) (b + 5 + 1 + (F 1).toNat) 1 side) (b + 5 + 1 + (F 1).toNat) 2 key) (b + 5 + 1 + (F 1).toNat) 3 blots) (b + 5 + 1 + (F 1).toNat) 4 0) b 3 (F 1 + 1)) := by
  obtain ⟨g0, g1, g2, g3, g4⟩ := id hI
  obtain ⟨h1, h2, h3, h4⟩ := hF
  refine ⟨⟨by rw [u1_s, eng_1], ?_, fun s q1 q2 => ?_, fun a q1 q2 f q3 q4 => ?_⟩, fun c hc => ?_, rfl⟩
  · rw [u1_o (by omega), u1_o (by omega), u1_o (by omega), u1_o (by omega), u1_o (by omega), u1_o (by omega), eng_o (by omega) (by omega)]
    exact h2
  · have ht := tc_c ⟨q1, q2⟩ b
    rw [eng_o (by omega) (by omega)]
    refine ⟨?_, fun i q3 q4 => ?_⟩
    · rw [u1_o (by omega), u1_o (by omega), u1_o (by omega), u1_o (by omega), u1_o (by omega), u1_o (by omega)]
      exact (h3 s q1 q2).1
    · have hn := g2 s q1 q2
      rw [u1_o (by omega), u1_o (by omega), u1_o (by omega), u1_o (by omega), u1_o (by omega), u1_o (by omega), eng_o (by omega) (by omega)]
      exact (h3 s q1 q2).2 i q3 q4
  · rw [eng_1] at q2
    rw [u1_o (by omega)]
    by_cases ha : a = F 1
    · obtain ⟨e0, e1, e2, e3, e4⟩ := eng_k (F := F) (kind := kind) (side := side) (key := key) (blots := blots) g1.1
      subst ha
      rcases (show f = 0 ∨ f = 1 ∨ f = 2 ∨ f = 3 ∨ f = 4 by omega) with rfl | rfl | rfl | rfl | rfl
      · rw [e0, u1_o (by omega), u1_o (by omega), u1_o (by omega), u1_o (by omega), u1_s]
      · rw [e1, u1_o (by omega), u1_o (by omega), u1_o (by omega), u1_s]
      · rw [e2, u1_o (by omega), u1_o (by omega), u1_s]
      · rw [e3, u1_o (by omega), u1_s]
      · rw [e4, u1_s]
    · rw [u1_o (by omega), u1_o (by omega), u1_o (by omega), u1_o (by omega), u1_o (by omega), eng_o (by omega) (by omega)]
      exact h4 a q1 (by omega) f q3 q4
  · funext j
    rw [u1_o (by omega), u1_o (by omega), u1_o (by omega), u1_o (by omega), u1_o (by omega), u1_o (by omega)]
set_option maxHeartbeats 4000000 in
set_option maxRecDepth 100000 in
theorem c_F_engage {G : mG} {μ : mMem} {b : Nat} (hb : BK b) {F : Int → Int} (hF : FUG μ b F) (hI : fInv F) {kind side key blots : Int} (h8 : F 1 < 8) : mM G yX1_engage cX1_engage 6 none 1 [.ref b, .int (iV kind), .int (iV side), .int (iV key), .int (iV blots)] μ (qV (fun m => FUG m b (engF F kind side key blots) ∧ FR b μ m)) := by
  obtain ⟨kb, kt0, ka0, kl0, kt1, ka1, kl1, kaa, kal⟩ := bk_at hb
  have hn := hI.2.1
  have kat := bk_a hb (a := F 1) (by omega)
  have ec := hF.1
  refine mM.of (lv := [some (.ref b), some (.int (iV kind)), some (.int (iV side)), some (.int (iV key)), some (.int (iV blots)), none]) 1 (by decide +kernel) (Nat.le_of_ble_eq_true rfl) rfl ?_
  intro X
  refine mw_aload_n dX1_engage_0 rfl ?_
  refine mw_Vpi (ci := 1) dX1_engage_1 ml_X1_49 ok_X1_isFull (by decide) kb (by decide) rfl rfl rfl (Nat.le_of_ble_eq_true rfl) (c_F_isFull hb (by rw [ec]; exact hn)) ?_
  rw [ec, show fullI (F 1) = 0 by unfold fullI; rw [if_neg (by omega)]]
  refine mw_if_eq (tgt := 8) dX1_engage_4 (by decide) (by omega) (fun c_4 => ?_) (fun c_4 => ?_)
  · refine mw_aload_n dX1_engage_8 rfl ?_
    refine mw_gr_1_2 dX1_engage_9 gs_X1_23 (by first | rfl | assumption) ?_
    refine mw_aload_n dX1_engage_12 rfl ?_
    refine mw_getI 3 dX1_engage_13 gs_X1_28 (by first | rfl | assumption) rfl rfl ?_
    rw [ec]
    refine mw_aa10 dX1_engage_16 (by first | rfl | assumption) (by first | rfl | assumption) (by omega) ?_
    refine mw_as5 dX1_engage_17 (by decide) rfl ?_
    refine mw_aload dX1_engage_19 rfl ?_
    refine mw_iload_n dX1_engage_21 rfl ?_
    refine mw_putI 0 dX1_engage_22 ps_X1_53 (by first | rfl | assumption) rfl rfl ?_
    refine mw_aload dX1_engage_25 rfl ?_
    refine mw_iload_n dX1_engage_27 rfl ?_
    refine mw_putI 1 dX1_engage_28 ps_X1_42 (by first | rfl | assumption) rfl rfl ?_
    refine mw_aload dX1_engage_31 rfl ?_
    refine mw_iload_n dX1_engage_33 rfl ?_
    refine mw_putI 2 dX1_engage_34 ps_X1_56 (by first | rfl | assumption) rfl rfl ?_
    refine mw_aload dX1_engage_37 rfl ?_
    refine mw_iload dX1_engage_39 rfl ?_
    refine mw_putI 3 dX1_engage_41 ps_X1_59 (by first | rfl | assumption) rfl rfl ?_
    refine mw_aload dX1_engage_44 rfl ?_
    refine mw_iconst dX1_engage_46 ?_
    refine mw_putI 4 dX1_engage_47 ps_X1_62 (by first | rfl | assumption) rfl rfl ?_
    refine mw_aload_n dX1_engage_50 rfl ?_
    refine mw_dup dX1_engage_51 rfl ?_
    refine mw_getI 3 dX1_engage_52 gs_X1_28 (by first | rfl | assumption) rfl rfl ?_
    rw [u1_o (by omega), u1_o (by omega), u1_o (by omega), u1_o (by omega), u1_o (by omega), ec]
    refine mw_iconst dX1_engage_55 ?_
    refine mw_iadd dX1_engage_56 ?_
    refine mw_putI 3 dX1_engage_57 ps_X1_28 (by first | rfl | assumption) rfl rfl ?_
    refine mw_vret dX1_engage_60 rfl ?_
    exact ⟨rfl, eng_fug hb hF hI h8⟩
  · exact absurd rfl c_4
set_option maxHeartbeats 4000000 in
set_option maxRecDepth 100000 in
theorem c_F_attachesOf {G : mG} {μ : mMem} {b : Nat} (hb : BK b) {F : Int → Int} (hF : FUG μ b F) (hI : fInv F) {s : Int} (hs : 0 ≤ s ∧ s ≤ 1) : mM G yX1_attachesOf cX1_attachesOf 4 (some .int) 0 [.ref b, .int (iV s)] μ (pI (many F s (F 1).toNat) μ) := by
  obtain ⟨kb, kt0, ka0, kl0, kt1, ka1, kl1, kaa, kal⟩ := bk_at hb
  have hn := hI.2.1
  have ec := hF.1
  refine mM.of (lv := [some (.ref b), some (.int (iV s)), none, none]) 2 (by decide +kernel) (Nat.le_of_ble_eq_true rfl) rfl ?_
  intro X
  have lp : ∀ (n_ : Nat) (i v : Int), (0 ≤ i) → (i ≤ F 1) → (9 ≤ i + n_) → (v = many F s i.toNat) → mW X cX1_attachesOf 4 (some .int) yX1_attachesOf.cls 0 G (pI (many F s (F 1).toNat) μ) 4 [some (.ref b), some (.int (iV s)), some (.int (iV v)), some (.int (iV i))] [] μ := by
    intro n_
    induction n_ with
    | zero =>
      intro i v h1 h2 h3 h5
      omega
    | succ n_ ih =>
      intro i v h1 h2 h3 h5
      refine mw_iload_n dX1_attachesOf_4 rfl ?_
      refine mw_aload_n dX1_attachesOf_5 rfl ?_
      refine mw_getI 3 dX1_attachesOf_6 gs_X1_28 (by first | rfl | assumption) rfl rfl ?_
      rw [ec]
      refine mw_icmp_ge (tgt := 34) dX1_attachesOf_9 (by decide) (by omega) (by omega) (fun c_9 => ?_) (fun c_9 => ?_)
      · refine mw_iload_n dX1_attachesOf_34 rfl ?_
        refine mw_iret dX1_attachesOf_35 rfl ?_
        exact ⟨by rw [h5, show (F 1).toNat = i.toNat by omega], rfl⟩
      · have ea := hF.at hI (a := i) (by omega)
        have kat := bk_a hb (a := i) (by omega)
        have hst : many F s (i + 1).toNat = many F s i.toNat + (if F (28 + 5 * i + 1) = s then 1 else 0) := by
          rw [show (i + 1).toNat = i.toNat + 1 by omega, many, show ((i.toNat : Nat) : Int) = i by omega]
        refine mw_aload_n dX1_attachesOf_12 rfl ?_
        refine mw_gr_1_2 dX1_attachesOf_13 gs_X1_23 (by first | rfl | assumption) ?_
        refine mw_iload_n dX1_attachesOf_16 rfl ?_
        refine mw_aa10 dX1_attachesOf_17 (by first | rfl | assumption) (by first | rfl | assumption) (by omega) ?_
        refine mw_getI 1 dX1_attachesOf_18 gs_X1_42 (by first | rfl | assumption) rfl rfl ?_
        rw [ea.2.1]
        refine mw_iload_n dX1_attachesOf_21 rfl ?_
        refine mw_icmp_ne (tgt := 28) dX1_attachesOf_22 (by decide) (by omega) (by omega) (fun c_22 => ?_) (fun c_22 => ?_)
        · refine mw_ii3 dX1_attachesOf_28 (by decide) rfl ?_
          refine mw_goto (tgt := 4) dX1_attachesOf_31 (by decide) ?_
          exact ih _ _ (by omega) (by omega) (by omega) (by rw [hst, if_neg c_22, h5]; omega)
        · refine mw_ii2 dX1_attachesOf_25 (by decide) rfl ?_
          refine mw_ii3 dX1_attachesOf_28 (by decide) rfl ?_
          refine mw_goto (tgt := 4) dX1_attachesOf_31 (by decide) ?_
          exact ih _ _ (by omega) (by omega) (by omega) (by rw [hst, if_pos c_22, h5])
  refine mw_iconst dX1_attachesOf_0 ?_
  refine mw_is2 dX1_attachesOf_1 (by decide) rfl ?_
  refine mw_iconst dX1_attachesOf_2 ?_
  refine mw_is3 dX1_attachesOf_3 (by decide) rfl ?_
  exact lp 9 _ _ (by omega) (by omega) (by omega) rfl
set_option maxHeartbeats 4000000 in
set_option maxRecDepth 100000 in
theorem c_F_writingSide {G : mG} {μ : mMem} {b : Nat} (hb : BK b) (hd : 0 ≤ μ.1 b 4 ∧ μ.1 b 4 ≤ 100000) : mM G yX1_writingSide cX1_writingSide 1 (some .int) 0 [.ref b] μ (pI (μ.1 b 4 % 2) μ) := by
  obtain ⟨kb, kt0, ka0, kl0, kt1, ka1, kl1, kaa, kal⟩ := bk_at hb
  refine mM.of (lv := [some (.ref b)]) 0 (by decide +kernel) (Nat.le_of_ble_eq_true rfl) rfl ?_
  intro X
  refine mw_aload_n dX1_writingSide_0 rfl ?_
  refine mw_getI 4 dX1_writingSide_1 gs_X1_32 (by first | rfl | assumption) rfl rfl ?_
  refine mw_iconst dX1_writingSide_4 ?_
  refine mw_iremN dX1_writingSide_5 (by omega) (by omega) ?_
  refine mw_iret dX1_writingSide_6 rfl ?_
  exact ⟨rfl, rfl⟩
set_option maxHeartbeats 4000000 in
set_option maxRecDepth 100000 in
theorem c_F_writer {G : mG} {μ : mMem} {b : Nat} (hb : BK b) {F : Int → Int} (hF : FUG μ b F) (hI : fInv F) (hd : F 0 ≤ 100000) : mM G yX1_writer cX1_writer 5 (some .int) 1 [.ref b] μ (pI (whose F) μ) := by
  obtain ⟨kb, kt0, ka0, kl0, kt1, ka1, kl1, kaa, kal⟩ := bk_at hb
  have hn := hI.2.1
  have ec := hF.1
  have ed := hF.2.1
  have h0 := hI.1
  have hm := many_bd F (F 0 % 2) (F 1).toNat
  refine mM.of (lv := [some (.ref b), none, none, none, none]) 4 (by decide +kernel) (Nat.le_of_ble_eq_true rfl) rfl ?_
  intro X
  have lp : ∀ (n_ : Nat) (i l : Int), (0 ≤ i) → (i ≤ F 1) → (9 ≤ i + n_) → (-100 ≤ l + i ∧ l ≤ 100) → (¬ many F (F 0 % 2) (F 1).toNat = 0) → (whL F (F 0 % 2) (F 1 - i).toNat i l = whose F) → mW X cX1_writer 5 (some .int) yX1_writer.cls 1 G (pI (whose F) μ) 29 [some (.ref b), some (.int (iV (F 0 % 2))), some (.int (iV (many F (F 0 % 2) (F 1).toNat))), some (.int (iV l)), some (.int (iV i))] [] μ := by
    intro n_
    induction n_ with
    | zero =>
      intro i l h1 h2 h3 h4 h5 h6
      omega
    | succ n_ ih =>
      intro i l h1 h2 h3 h4 h5 h6
      refine mw_iload dX1_writer_29 rfl ?_
      refine mw_aload_n dX1_writer_31 rfl ?_
      refine mw_getI 3 dX1_writer_32 gs_X1_28 (by first | rfl | assumption) rfl rfl ?_
      rw [ec]
      refine mw_icmp_ge (tgt := 68) dX1_writer_35 (by decide) (by omega) (by omega) (fun c_35 => ?_) (fun c_35 => ?_)
      · refine mw_iconst dX1_writer_68 ?_
        refine mw_iret dX1_writer_69 rfl ?_
        exact ⟨by rw [show (F 1 - i).toNat = 0 by omega] at h6; rw [← h6]; rfl, rfl⟩
      · have ea := hF.at hI (a := i) (by omega)
        have kat := bk_a hb (a := i) (by omega)
        rw [show (F 1 - i).toNat = (F 1 - (i + 1)).toNat + 1 by omega, whL] at h6
        refine mw_aload_n dX1_writer_38 rfl ?_
        refine mw_gr_1_2 dX1_writer_39 gs_X1_23 (by first | rfl | assumption) ?_
        refine mw_iload dX1_writer_42 rfl ?_
        refine mw_aa10 dX1_writer_44 (by first | rfl | assumption) (by first | rfl | assumption) (by omega) ?_
        refine mw_getI 1 dX1_writer_45 gs_X1_42 (by first | rfl | assumption) rfl rfl ?_
        rw [ea.2.1]
        refine mw_iload_n dX1_writer_48 rfl ?_
        refine mw_icmp_ne (tgt := 62) dX1_writer_49 (by decide) (by omega) (by omega) (fun c_49 => ?_) (fun c_49 => ?_)
        · rw [if_neg c_49] at h6
          refine mw_ii4 dX1_writer_62 (by decide) rfl ?_
          refine mw_goto (tgt := 29) dX1_writer_65 (by decide) ?_
          exact ih _ _ (by omega) (by omega) (by omega) (by omega) h5 h6
        · rw [if_pos c_49] at h6
          refine mw_iload_n dX1_writer_52 rfl ?_
          refine mw_if_ne (tgt := 59) dX1_writer_53 (by decide) (by omega) (fun c_53 => ?_) (fun c_53 => ?_)
          · rw [if_neg c_53] at h6
            refine mw_ii3 dX1_writer_59 (by decide) rfl ?_
            refine mw_ii4 dX1_writer_62 (by decide) rfl ?_
            refine mw_goto (tgt := 29) dX1_writer_65 (by decide) ?_
            exact ih _ _ (by omega) (by omega) (by omega) (by omega) h5 h6
          · refine mw_iload dX1_writer_56 rfl ?_
            refine mw_iret dX1_writer_58 rfl ?_
            exact ⟨by rw [if_pos c_53] at h6; rw [h6], rfl⟩
  refine mw_aload_n dX1_writer_0 rfl ?_
  refine mw_Vpi (ci := 1) dX1_writer_1 ml_X1_65 ok_X1_writingSide (by decide) kb (by decide) rfl rfl rfl (Nat.le_of_ble_eq_true rfl) (c_F_writingSide hb (by rw [ed]; omega)) ?_
  rw [ed]
  refine mw_is1 dX1_writer_4 (by decide) rfl ?_
  refine mw_aload_n dX1_writer_5 rfl ?_
  refine mw_iload_n dX1_writer_6 rfl ?_
  refine mw_Vpi (ci := 1) dX1_writer_7 ml_X1_69 ok_X1_attachesOf (by decide) kb (by decide) rfl rfl rfl (Nat.le_of_ble_eq_true rfl) (c_F_attachesOf hb hF hI (by omega)) ?_
  refine mw_is2 dX1_writer_10 (by decide) rfl ?_
  refine mw_iload_n dX1_writer_11 rfl ?_
  refine mw_if_ne (tgt := 17) dX1_writer_12 (by decide) (by omega) (fun c_12 => ?_) (fun c_12 => ?_)
  · refine mw_aload_n dX1_writer_17 rfl ?_
    refine mw_getI 4 dX1_writer_18 gs_X1_32 (by first | rfl | assumption) rfl rfl ?_
    rw [ed]
    refine mw_iconst dX1_writer_21 ?_
    refine mw_idivN dX1_writer_22 (by omega) (by omega) ?_
    refine mw_iload_n dX1_writer_23 rfl ?_
    refine mw_iremN dX1_writer_24 (by omega) (by omega) ?_
    refine mw_is3 dX1_writer_25 (by decide) rfl ?_
    refine mw_iconst dX1_writer_26 ?_
    refine mw_is4 dX1_writer_27 (by decide) rfl ?_
    have hm1 := Int.emod_nonneg (F 0 / 2) c_12
    have hm2 := Int.emod_lt_of_pos (F 0 / 2) (show 0 < many F (F 0 % 2) (F 1).toNat by omega)
    exact lp 9 _ _ (by omega) (by omega) (by omega) (by omega) c_12 (by unfold whose; rw [if_neg c_12, Int.sub_zero])
  · refine mw_iconst dX1_writer_15 ?_
    refine mw_iret dX1_writer_16 rfl ?_
    exact ⟨by unfold whose; rw [if_pos c_12], rfl⟩
end
section
theorem tc_0 (b : Nat) : tc b 0 = b + 1 := rfl
theorem tc_1 (b : Nat) : tc b 1 = b + 3 := rfl
theorem day_fugN {μ : mMem} {b : Nat} (hb : BK b) {F : Int → Int} (hF : FUG μ b F) (hI : fInv F) (hw : ¬ (0 ≤ whose F ∧ 0 < F (2 + (1 - F (28 + 5 * whose F + 1))))) : FUG (u1 μ b 4 (F 0 + 1)) b (dayF F) ∧ FR b μ (u1 μ b 4 (F 0 + 1)) := by
  obtain ⟨h1, h2, h3, h4⟩ := hF
  refine ⟨⟨by rw [u1_o (by omega), day_n (by omega) hw]; exact h1, by rw [u1_s, day_0], fun s q1 q2 => ?_, fun a q1 q2 f q3 q4 => ?_⟩, fun c hc => ?_, rfl⟩
  · have ht := tc_c ⟨q1, q2⟩ b
    rw [day_n (by omega) hw]
    refine ⟨by rw [u1_o (by omega)]; exact (h3 s q1 q2).1, fun i q3 q4 => ?_⟩
    rw [u1_o (by omega), day_n (by omega) hw]
    exact (h3 s q1 q2).2 i q3 q4
  · rw [day_n (by omega) hw] at q2
    rw [u1_o (by omega), day_n (by omega) hw]
    exact h4 a q1 q2 f q3 q4
  · funext j
    rw [u1_o (by omega)]
theorem day_fugW {μ : mMem} {b : Nat} (hb : BK b) {F : Int → Int} (hF : FUG μ b F) (hI : fInv F) {m : mMem} {a s : Int} (ea : a = whose F) (es : s = F (28 + 5 * a + 1)) (ha : 0 ≤ a ∧ a < F 1) (hs : 0 ≤ s ∧ s ≤ 1) (hl : 0 < F (2 + (1 - s))) (m1 : ∀ c : Nat, c ≠ tc b s → c ≠ tc b s + 1 → c ≠ b + 5 + 1 + a.toNat → m.1 c = μ.1 c) (m2 : m.2 = μ.2) (m3 : m.1 (tc b s) 1 = lng (F (28 + 5 * a + 0)) (F (2 + (1 - s)))) (m4 : ∀ i : Int, 0 ≤ i → i < lng (F (28 + 5 * a + 0)) (F (2 + (1 - s))) → m.1 (tc b s + 1) i = ansI (F (28 + 5 * a + 0)) (F (28 + 5 * a + 2)) (F (28 + 5 * a + 3)) (F (2 + (1 - s))) (tn F (1 - s)) i) (m5 : ∀ f : Int, f ≠ 4 → m.1 (b + 5 + 1 + a.toNat) f = μ.1 (b + 5 + 1 + a.toNat) f) (m6 : m.1 (b + 5 + 1 + a.toNat) 4 = min (F (28 + 5 * a + 4) + 1) 9999) : FUG (u1 m b 4 (F 0 + 1)) b (dayF F) ∧ FR b μ (u1 m b 4 (F 0 + 1)) := by
  have hn := hI.2.1
  have hlen := hI.2.2.1 (1 - s) (by omega) (by omega)
  have hL := lng_bd (kind := F (28 + 5 * a + 0)) hlen.1
  have hw : 0 ≤ whose F ∧ 0 < F (2 + (1 - F (28 + 5 * whose F + 1))) := by rw [← ea, ← es]; exact ⟨ha.1, hl⟩
  obtain ⟨h1, h2, h3, h4⟩ := hF
  have hts := tc_c hs b
  refine ⟨⟨?_, by rw [u1_s, day_0], fun s' q1 q2 => ?_, fun a' q1 q2 f q3 q4 => ?_⟩, fun c hc => ?_, m2⟩
  · rw [u1_o (by omega), day_w (by omega) hw, ← ea, m1 b (by omega) (by omega) (by omega), wr_o s es (by omega) (by omega) (by omega)]
    exact h1
  · have ht := tc_c ⟨q1, q2⟩ b
    have hl' := hI.2.2.1 s' q1 q2
    rw [day_w (by omega) hw, ← ea]
    by_cases hss : s' = s
    · subst hss
      rw [wr_len s' es hs (by omega)]
      refine ⟨by rw [u1_o (by omega)]; exact m3, fun i q3 q4 => ?_⟩
      rw [u1_o (by omega), m4 i q3 q4, day_w (by omega) hw, ← ea, wr_tone s' es ⟨q3, q4⟩]
    · rw [wr_o s es (by omega) (by omega) (by omega)]
      refine ⟨by rw [u1_o (by omega), m1 _ (by omega) (by omega) (by omega)]; exact (h3 s' q1 q2).1, fun i q3 q4 => ?_⟩
      rw [u1_o (by omega), m1 _ (by omega) (by omega) (by omega), day_w (by omega) hw, ← ea, wr_o s es (by omega) (by omega) (by omega)]
      exact (h3 s' q1 q2).2 i q3 q4
  · rw [day_w (by omega) hw, ← ea, wr_o s es (by omega) (by omega) (by omega)] at q2
    rw [u1_o (by omega), day_w (by omega) hw, ← ea]
    by_cases haa : a' = a
    · subst haa
      by_cases hf : f = 4
      · subst hf
        rw [m6, wr_wrote s es hs ha.1 (by omega)]
      · rw [m5 f hf, wr_o s es (by omega) (by omega) (by omega)]
        exact h4 a' q1 q2 f q3 q4
    · rw [m1 _ (by omega) (by omega) (by omega), wr_o s es (by omega) (by omega) (by omega)]
      exact h4 a' q1 q2 f q3 q4
  · funext j
    rw [u1_o (by omega), m1 c (by omega) (by omega) (by omega)]
set_option maxHeartbeats 4000000 in
set_option maxRecDepth 100000 in
theorem c_F_passDay {G : mG} {μ : mMem} {b : Nat} (hb : BK b) {F : Int → Int} (hF : FUG μ b F) (hI : fInv F) (hd : F 0 ≤ 50000) : mM G yX1_passDay cX1_passDay 4 none 3 [.ref b] μ (qV (fun m => FUG m b (dayF F) ∧ FR b μ m)) := by
  obtain ⟨kb, kt0, ka0, kl0, kt1, ka1, kl1, kaa, kal⟩ := bk_at hb
  have hn := hI.2.1
  have ec := hF.1
  have ed := hF.2.1
  have h0 := hI.1
  have hr := whose_r F hn.1
  refine mM.of (lv := [some (.ref b), none, none, none]) 3 (by decide +kernel) (Nat.le_of_ble_eq_true rfl) rfl ?_
  intro X
  refine mw_aload_n dX1_passDay_0 rfl ?_
  refine mw_Vpi (ci := 1) dX1_passDay_1 ml_X1_73 ok_X1_writer (by decide) kb (by decide) rfl rfl rfl (Nat.le_of_ble_eq_true rfl) (c_F_writer hb hF hI (by omega)) ?_
  refine mw_is1 dX1_passDay_4 (by decide) rfl ?_
  refine mw_aload_n dX1_passDay_5 rfl ?_
  refine mw_iload_n dX1_passDay_6 rfl ?_
  refine mw_Vpi (ci := 1) dX1_passDay_7 ml_X1_76 ok_X1_has (by decide) kb (by decide) rfl rfl rfl (Nat.le_of_ble_eq_true rfl) (c_F_has hb (by rw [ec]; exact hn) (by omega)) ?_
  refine mw_if_eq (tgt := 46) dX1_passDay_10 (by decide) (by have := hasI_c (μ.1 b 3) (whose F); omega) (fun c_10 => ?_) (fun c_10 => ?_)
  · refine mw_aload_n dX1_passDay_46 rfl ?_
    refine mw_dup dX1_passDay_47 rfl ?_
    refine mw_getI 4 dX1_passDay_48 gs_X1_32 (by first | rfl | assumption) rfl rfl ?_
    rw [ed]
    refine mw_iconst dX1_passDay_51 ?_
    refine mw_iadd dX1_passDay_52 ?_
    refine mw_putI 4 dX1_passDay_53 ps_X1_32 (by first | rfl | assumption) rfl rfl ?_
    refine mw_vret dX1_passDay_56 rfl ?_
    refine ⟨rfl, day_fugN hb hF hI (fun q => ?_)⟩
    have hx := hasI_0 c_10
    rw [ec] at hx
    omega
  · have ha := hasI_1 c_10
    rw [ec] at ha
    have ea := hF.at hI ha
    have kat := bk_a hb (a := whose F) (by omega)
    have th := bk_t hb (1 - F (28 + 5 * whose F + 1))
    have to := bk_t hb (F (28 + 5 * whose F + 1))
    have tnh := hF.tn hI (s := 1 - F (28 + 5 * whose F + 1)) (by omega)
    refine mw_aload_n dX1_passDay_13 rfl ?_
    refine mw_gr_1_2 dX1_passDay_14 gs_X1_23 (by first | rfl | assumption) ?_
    refine mw_iload_n dX1_passDay_17 rfl ?_
    refine mw_aa10 dX1_passDay_18 (by first | rfl | assumption) (by first | rfl | assumption) (by omega) ?_
    refine mw_as2 dX1_passDay_19 (by decide) rfl ?_
    refine mw_aload_n dX1_passDay_20 rfl ?_
    refine mw_aload_n dX1_passDay_21 rfl ?_
    refine mw_Vpr (ci := 1) dX1_passDay_22 ml_X1_80 ok_X1_heardBy (by decide) kb (by decide) rfl rfl rfl (Nat.le_of_ble_eq_true rfl) (c_F_heardBy hb kat (by rw [ea.2.1]; omega)) ?_
    rw [ea.2.1]
    refine mw_as3 dX1_passDay_25 (by decide) rfl ?_
    refine mw_aload_n dX1_passDay_26 rfl ?_
    refine mw_getI 1 dX1_passDay_27 gs_X1_84 th.1 rfl rfl ?_
    rw [tnh.1]
    refine mw_if_le (tgt := 46) dX1_passDay_30 (by decide) (by have := hI.2.2.1 (1 - F (28 + 5 * whose F + 1)) (by omega) (by omega); omega) (fun c_30 => ?_) (fun c_30 => ?_)
    · refine mw_aload_n dX1_passDay_46 rfl ?_
      refine mw_dup dX1_passDay_47 rfl ?_
      refine mw_getI 4 dX1_passDay_48 gs_X1_32 (by first | rfl | assumption) rfl rfl ?_
      rw [ed]
      refine mw_iconst dX1_passDay_51 ?_
      refine mw_iadd dX1_passDay_52 ?_
      refine mw_putI 4 dX1_passDay_53 ps_X1_32 (by first | rfl | assumption) rfl rfl ?_
      refine mw_vret dX1_passDay_56 rfl ?_
      exact ⟨rfl, day_fugN hb hF hI (by omega)⟩
    · refine mw_aload_n dX1_passDay_33 rfl ?_
      refine mw_aload_n dX1_passDay_34 rfl ?_
      refine mw_aload_n dX1_passDay_35 rfl ?_
      refine mw_aload_n dX1_passDay_36 rfl ?_
      refine mw_getI 1 dX1_passDay_37 gs_X1_42 kat rfl rfl ?_
      refine mw_Vpr (ci := 1) dX1_passDay_40 ml_X1_45 ok_X1_tuneOf (by decide) kb (by decide) rfl rfl rfl (Nat.le_of_ble_eq_true rfl) (c_F_tuneOf hb (by rw [ea.2.1]; omega)) ?_
      rw [ea.2.1]
      refine mw_Vv (ci := 0) dX1_passDay_43 ml_X1_87 ok_X0_writeTo (by decide) kat (by decide) rfl rfl rfl (Nat.le_of_ble_eq_true rfl) (c_A_write kat th.1 th.2.1 th.2.2 tnh.2.1 tnh.2.2.1 (by rw [ea.1]; exact ea.2.2.2.2.2.1) (by rw [ea.2.2.1]; omega) (by rw [ea.2.2.2.2.1]; omega) to.1 to.2.1 to.2.2 (by
          have q1 := tc_c (s := F (28 + 5 * whose F + 1)) (by omega) b
          have q2 := tc_c (s := 1 - F (28 + 5 * whose F + 1)) (by omega) b
          omega)) (fun m_43 h_43 => ?_)
      obtain ⟨m1, m2, m3, m4, m5, m6⟩ := h_43
      rw [ea.1, tnh.1] at m3 m4
      rw [ea.2.2.2.2.1] at m6
      rw [ea.2.2.1, ea.2.2.2.1] at m4
      refine mw_aload_n dX1_passDay_46 rfl ?_
      refine mw_dup dX1_passDay_47 rfl ?_
      refine mw_getI 4 dX1_passDay_48 gs_X1_32 (by first | rfl | assumption) rfl rfl ?_
      rw [m1 b (by have q1 := tc_c (s := F (28 + 5 * whose F + 1)) (by omega) b; omega) (by have q1 := tc_c (s := F (28 + 5 * whose F + 1)) (by omega) b; omega) (by omega), ed]
      refine mw_iconst dX1_passDay_51 ?_
      refine mw_iadd dX1_passDay_52 ?_
      refine mw_putI 4 dX1_passDay_53 ps_X1_32 (by first | rfl | assumption) rfl rfl ?_
      refine mw_vret dX1_passDay_56 rfl ?_
      refine ⟨rfl, day_fugW hb hF hI rfl rfl ha (by omega) c_30 m1 m2 m3 (fun i q1 q2 => ?_) m5 m6⟩
      rw [m4 i q1 q2]
      have hL := lng_bd (kind := F (28 + 5 * whose F + 0)) (show 0 ≤ F (2 + (1 - F (28 + 5 * whose F + 1))) by omega)
      exact ans_congr ⟨q1, by omega⟩ tnh.2.2.2
set_option maxHeartbeats 4000000 in
set_option maxRecDepth 100000 in
theorem c_F_passDays {G : mG} {μ : mMem} {b : Nat} (hb : BK b) {F : Int → Int} (hF : FUG μ b F) (hI : fInv F) {n : Int} (hN : 0 ≤ n ∧ n ≤ 1000) (hd : F 0 ≤ 40000) : mM G yX1_passDays cX1_passDays 3 none 4 [.ref b, .int (iV n)] μ (qV (fun m => FUG m b (daysF n.toNat F) ∧ FR b μ m)) := by
  obtain ⟨kb, kt0, ka0, kl0, kt1, ka1, kl1, kaa, kal⟩ := bk_at hb
  refine mM.of (lv := [some (.ref b), some (.int (iV n)), none]) 1 (by decide +kernel) (Nat.le_of_ble_eq_true rfl) rfl ?_
  intro X
  have lp : ∀ (n_ : Nat) (i : Int) (m : mMem), (0 ≤ i) → (i ≤ n) → (1001 ≤ i + n_) → (FUG m b (daysF i.toNat F)) → (FR b μ m) → mW X cX1_passDays 3 none yX1_passDays.cls 4 G (qV (fun m => FUG m b (daysF n.toNat F) ∧ FR b μ m)) 2 [some (.ref b), some (.int (iV n)), some (.int (iV i))] [] m := by
    intro n_
    induction n_ with
    | zero =>
      intro i m h1 h2 h3 h4 h5
      omega
    | succ n_ ih =>
      intro i m h1 h2 h3 h4 h5
      refine mw_iload_n dX1_passDays_2 rfl ?_
      refine mw_iload_n dX1_passDays_3 rfl ?_
      refine mw_icmp_ge (tgt := 17) dX1_passDays_4 (by decide) (by omega) (by omega) (fun c_4 => ?_) (fun c_4 => ?_)
      · refine mw_vret dX1_passDays_17 rfl ?_
        exact ⟨rfl, by rw [show n.toNat = i.toNat by omega]; exact h4, h5⟩
      · refine mw_aload_n dX1_passDays_7 rfl ?_
        refine mw_Vv (ci := 1) dX1_passDays_8 ml_X1_91 ok_X1_passDay (by decide) kb (by decide) rfl rfl rfl (Nat.le_of_ble_eq_true rfl) (c_F_passDay hb h4 (days_inv hI _) (by rw [days_day]; omega)) (fun m_8 h_8 => ?_)
        refine mw_ii2 dX1_passDays_11 (by decide) rfl ?_
        refine mw_goto (tgt := 2) dX1_passDays_14 (by decide) ?_
        exact ih _ _ (by omega) (by omega) (by omega) (by rw [show (i + 1).toNat = i.toNat + 1 by omega, days_succ]; exact h_8.1) (h5.tr h_8.2)
  refine mw_iconst dX1_passDays_0 ?_
  refine mw_is2 dX1_passDays_1 (by decide) rfl ?_
  exact lp 1001 _ _ (by omega) (by omega) (by omega) hF FR.rf
/-- the first of so many days on which something holds; behind them all if on none -/
def fst (p : (Int → Int) → Int) : Nat → Int → (Int → Int) → Int
  | 0, n, _ => n
  | k + 1, n, F => if p F = 0 then fst p k (n + 1) (dayF F) else n
theorem fst_bd (p : (Int → Int) → Int) : ∀ (k : Nat) (n : Int) (F : Int → Int), n ≤ fst p k n F ∧ fst p k n F ≤ n + k
  | 0, n, F => by rw [fst]; omega
  | k + 1, n, F => by
    rw [fst]
    split
    · have := fst_bd p k (n + 1) (dayF F)
      omega
    · omega
def homeP (s : Int) (F : Int → Int) : Int := homeI (F (2 + s)) (tn F s)
def unP (F : Int → Int) : Int := unlk (tn F 0) (tn F 1) (F (2 + 0)) (F (2 + 1)) (max (F (2 + 0)) (F (2 + 1))).toNat
def alikeP (F : Int → Int) : Int := if 0 < F (2 + 0) ∧ unP F = 0 then 1 else 0
theorem home_eq {μ : mMem} {b : Nat} {F : Int → Int} (hF : FUG μ b F) (hI : fInv F) {s : Int} (hs : 0 ≤ s ∧ s ≤ 1) : homeI (μ.1 (tc b s) 1) (μ.1 (tc b s + 1)) = homeP s F := by
  have h := hF.tn hI hs
  unfold homeP homeI
  rw [h.1]
  by_cases h0 : 0 < F (2 + s)
  · rw [h.2.2.2 (F (2 + s) - 1) (by omega) (by omega)]
  · rw [if_neg (fun q => h0 q.1), if_neg (fun q => h0 q.1)]
theorem un_eq {μ : mMem} {b : Nat} {F : Int → Int} (hF : FUG μ b F) (hI : fInv F) : unlk (μ.1 (b + 1 + 1)) (μ.1 (b + 3 + 1)) (μ.1 (b + 1) 1) (μ.1 (b + 3) 1) (max (μ.1 (b + 1) 1) (μ.1 (b + 3) 1)).toNat = unP F := by
  have h0 := hF.tn hI (s := 0) (by omega)
  have h1 := hF.tn hI (s := 1) (by omega)
  rw [tc_0] at h0
  rw [tc_1] at h1
  unfold unP
  rw [h0.1, h1.1]
  exact unlk_congr _ (fun i q1 q2 q3 q4 => ⟨h0.2.2.2 i q1 q3, h1.2.2.2 i q1 q4⟩)
theorem un_bd (F : Int → Int) (h : fInv F) : 0 ≤ unP F ∧ unP F ≤ 12 := by
  have h0 := h.2.2.1 0 (by omega) (by omega)
  have h1 := h.2.2.1 1 (by omega) (by omega)
  have := unlk_bd (tn F 0) (tn F 1) (F (2 + 0)) (F (2 + 1)) (max (F (2 + 0)) (F (2 + 1))).toNat
  unfold unP
  omega
theorem alike_c (F : Int → Int) : alikeP F = 0 ∨ alikeP F = 1 := by unfold alikeP; split <;> simp
theorem home_c (s : Int) (F : Int → Int) : homeP s F = 0 ∨ homeP s F = 1 := homeI_c _ _
set_option maxHeartbeats 4000000 in
set_option maxRecDepth 100000 in
theorem c_F_isAlike {G : mG} {μ : mMem} {b : Nat} (hb : BK b) {F : Int → Int} (hF : FUG μ b F) (hI : fInv F) : mM G yX1_isAlike cX1_isAlike 1 (some .boolean) 3 [.ref b] μ (pI (alikeP F) μ) := by
  obtain ⟨kb, kt0, ka0, kl0, kt1, ka1, kl1, kaa, kal⟩ := bk_at hb
  have t0 := hF.tn hI (s := 0) (by omega)
  have t1 := hF.tn hI (s := 1) (by omega)
  rw [tc_0] at t0
  rw [tc_1] at t1
  have eh0 := home_eq hF hI (s := 0) (by omega)
  have eh1 := home_eq hF hI (s := 1) (by omega)
  rw [tc_0] at eh0
  rw [tc_1] at eh1
  have hu := un_bd F hI
  refine mM.of (lv := [some (.ref b)]) 0 (by decide +kernel) (Nat.le_of_ble_eq_true rfl) rfl ?_
  intro X
  refine mw_aload_n dX1_isAlike_0 rfl ?_
  refine mw_gr_1_0 dX1_isAlike_1 gs_X1_12 (by first | rfl | assumption) ?_
  refine mw_getI 1 dX1_isAlike_4 gs_X1_84 (by first | rfl | assumption) rfl rfl ?_
  rw [t0.1]
  refine mw_if_le (tgt := 28) dX1_isAlike_7 (by decide) (by have := t0.2.1; have := t0.1; omega) (fun c_7 => ?_) (fun c_7 => ?_)
  · refine mw_iconst dX1_isAlike_28 ?_
    refine mw_zret dX1_isAlike_29 rfl (by decide +kernel) ?_
    exact ⟨by unfold alikeP; rw [if_neg (fun q => by omega)], rfl⟩
  · refine mw_aload_n dX1_isAlike_10 rfl ?_
    refine mw_gr_1_0 dX1_isAlike_11 gs_X1_12 (by first | rfl | assumption) ?_
    refine mw_aload_n dX1_isAlike_14 rfl ?_
    refine mw_gr_1_1 dX1_isAlike_15 gs_X1_18 (by first | rfl | assumption) ?_
    refine mw_Vpi (ci := 5) dX1_isAlike_18 ml_X1_100 ok_X5_isSameAs (by decide) (by first | rfl | assumption) (by decide) rfl rfl rfl (Nat.le_of_ble_eq_true rfl) (c_T_same kt0 ka0 kl0 t0.2.1 t0.2.2.1 kt1 ka1 kl1 t1.2.1 t1.2.2.1) ?_
    rw [un_eq hF hI]
    refine mw_if_eq (tgt := 28) dX1_isAlike_21 (by decide) (by unfold sameI; split <;> omega) (fun c_21 => ?_) (fun c_21 => ?_)
    · refine mw_iconst dX1_isAlike_28 ?_
      refine mw_zret dX1_isAlike_29 rfl (by decide +kernel) ?_
      exact ⟨by unfold alikeP; rw [if_neg (fun q => by unfold sameI at c_21; rw [if_pos q.2] at c_21; cases c_21)], rfl⟩
    · refine mw_iconst dX1_isAlike_24 ?_
      refine mw_goto (tgt := 29) dX1_isAlike_25 (by decide) ?_
      refine mw_zret dX1_isAlike_29 rfl (by decide +kernel) ?_
      exact ⟨by unfold alikeP; rw [if_pos ⟨c_7, Classical.byContradiction (fun q => c_21 (by unfold sameI; rw [if_neg q]))⟩], rfl⟩
theorem or_tab : bOr 0 0 = 0 ∧ bOr 0 2 = 2 ∧ bOr 1 0 = 1 ∧ bOr 1 2 = 3 := by decide +kernel
set_option maxHeartbeats 4000000 in
set_option maxRecDepth 100000 in
theorem c_F_homeSides {G : mG} {μ : mMem} {b : Nat} (hb : BK b) {F : Int → Int} (hF : FUG μ b F) (hI : fInv F) : mM G yX1_homeSides cX1_homeSides 1 (some .int) 1 [.ref b] μ (pI (homeP 0 F + 2 * homeP 1 F) μ) := by
  obtain ⟨kb, kt0, ka0, kl0, kt1, ka1, kl1, kaa, kal⟩ := bk_at hb
  have t0 := hF.tn hI (s := 0) (by omega)
  have t1 := hF.tn hI (s := 1) (by omega)
  rw [tc_0] at t0
  rw [tc_1] at t1
  have eh0 := home_eq hF hI (s := 0) (by omega)
  have eh1 := home_eq hF hI (s := 1) (by omega)
  rw [tc_0] at eh0
  rw [tc_1] at eh1
  have hc0 := home_c 0 F
  have hc1 := home_c 1 F
  refine mM.of (lv := [some (.ref b)]) 0 (by decide +kernel) (Nat.le_of_ble_eq_true rfl) rfl ?_
  intro X
  refine mw_aload_n dX1_homeSides_0 rfl ?_
  refine mw_gr_1_0 dX1_homeSides_1 gs_X1_12 (by first | rfl | assumption) ?_
  refine mw_Vpi (ci := 5) dX1_homeSides_4 ml_X1_94 ok_X5_isHome (by decide) (by first | rfl | assumption) (by decide) rfl rfl rfl (Nat.le_of_ble_eq_true rfl) (c_T_isHome kt0 ka0 kl0 t0.2.1 (fun q => t0.2.2.1 _ (by omega) (by omega))) ?_
  rw [eh0]
  refine mw_if_eq (tgt := 14) dX1_homeSides_7 (by decide) (by omega) (fun c_7 => ?_) (fun c_7 => ?_)
  · refine mw_iconst dX1_homeSides_14 ?_
    refine mw_aload_n dX1_homeSides_15 rfl ?_
    refine mw_gr_1_1 dX1_homeSides_16 gs_X1_18 (by first | rfl | assumption) ?_
    refine mw_Vpi (ci := 5) dX1_homeSides_19 ml_X1_94 ok_X5_isHome (by decide) (by first | rfl | assumption) (by decide) rfl rfl rfl (Nat.le_of_ble_eq_true rfl) (c_T_isHome kt1 ka1 kl1 t1.2.1 (fun q => t1.2.2.1 _ (by omega) (by omega))) ?_
    rw [eh1]
    refine mw_if_eq (tgt := 29) dX1_homeSides_22 (by decide) (by omega) (fun c_22 => ?_) (fun c_22 => ?_)
    · refine mw_iconst dX1_homeSides_29 ?_
      refine mw_ior dX1_homeSides_30 ?_
      refine mw_iret dX1_homeSides_31 rfl ?_
      exact ⟨by congr 2; rcases hc0 with q0 | q0 <;> rcases hc1 with q1 | q1 <;> rw [q0, q1] <;> first | (exfalso; omega) | decide +kernel, rfl⟩
    · refine mw_iconst dX1_homeSides_25 ?_
      refine mw_goto (tgt := 30) dX1_homeSides_26 (by decide) ?_
      refine mw_ior dX1_homeSides_30 ?_
      refine mw_iret dX1_homeSides_31 rfl ?_
      exact ⟨by congr 2; rcases hc0 with q0 | q0 <;> rcases hc1 with q1 | q1 <;> rw [q0, q1] <;> first | (exfalso; omega) | decide +kernel, rfl⟩
  · refine mw_iconst dX1_homeSides_10 ?_
    refine mw_goto (tgt := 15) dX1_homeSides_11 (by decide) ?_
    refine mw_aload_n dX1_homeSides_15 rfl ?_
    refine mw_gr_1_1 dX1_homeSides_16 gs_X1_18 (by first | rfl | assumption) ?_
    refine mw_Vpi (ci := 5) dX1_homeSides_19 ml_X1_94 ok_X5_isHome (by decide) (by first | rfl | assumption) (by decide) rfl rfl rfl (Nat.le_of_ble_eq_true rfl) (c_T_isHome kt1 ka1 kl1 t1.2.1 (fun q => t1.2.2.1 _ (by omega) (by omega))) ?_
    rw [eh1]
    refine mw_if_eq (tgt := 29) dX1_homeSides_22 (by decide) (by omega) (fun c_22 => ?_) (fun c_22 => ?_)
    · refine mw_iconst dX1_homeSides_29 ?_
      refine mw_ior dX1_homeSides_30 ?_
      refine mw_iret dX1_homeSides_31 rfl ?_
      exact ⟨by congr 2; rcases hc0 with q0 | q0 <;> rcases hc1 with q1 | q1 <;> rw [q0, q1] <;> first | (exfalso; omega) | decide +kernel, rfl⟩
    · refine mw_iconst dX1_homeSides_25 ?_
      refine mw_goto (tgt := 30) dX1_homeSides_26 (by decide) ?_
      refine mw_ior dX1_homeSides_30 ?_
      refine mw_iret dX1_homeSides_31 rfl ?_
      exact ⟨by congr 2; rcases hc0 with q0 | q0 <;> rcases hc1 with q1 | q1 <;> rw [q0, q1] <;> first | (exfalso; omega) | decide +kernel, rfl⟩
set_option maxHeartbeats 4000000 in
set_option maxRecDepth 100000 in
theorem c_F_untilHome {G : mG} {μ : mMem} {b : Nat} (hb : BK b) {F : Int → Int} (hF : FUG μ b F) (hI : fInv F) {s L : Int} (hs : 0 ≤ s ∧ s ≤ 1) (hL : -1 ≤ L ∧ L ≤ 1000) (hd : F 0 ≤ 40000) : mM G yX1_passDaysUntilHome cX1_passDaysUntilHome 5 (some .int) 4 [.ref b, .int (iV s), .int (iV L)] μ (qI (fun z m => z = fst (homeP s) (L + 1).toNat 0 F ∧ FR b μ m)) := by
  obtain ⟨kb, kt0, ka0, kl0, kt1, ka1, kl1, kaa, kal⟩ := bk_at hb
  have th := bk_t hb s
  refine mM.of (lv := [some (.ref b), some (.int (iV s)), some (.int (iV L)), none, none]) 2 (by decide +kernel) (Nat.le_of_ble_eq_true rfl) rfl ?_
  intro X
  have lp : ∀ (n_ : Nat) (i : Int) (m : mMem), (0 ≤ i) → (i ≤ L + 1) → (1002 ≤ i + n_) → (FUG m b (daysF i.toNat F)) → (FR b μ m) → (fst (homeP s) (L + 1 - i).toNat i (daysF i.toNat F) = fst (homeP s) (L + 1).toNat 0 F) → mW X cX1_passDaysUntilHome 5 (some .int) yX1_passDaysUntilHome.cls 4 G (qI (fun z m => z = fst (homeP s) (L + 1).toNat 0 F ∧ FR b μ m)) 9 [some (.ref b), some (.int (iV s)), some (.int (iV L)), some (.ref (tc b s)), some (.int (iV i))] [] m := by
    intro n_
    induction n_ with
    | zero =>
      intro i m h1 h2 h3 h4 h5 h6
      omega
    | succ n_ ih =>
      intro i m h1 h2 h3 h4 h5 h6
      refine mw_iload dX1_passDaysUntilHome_9 rfl ?_
      refine mw_iload_n dX1_passDaysUntilHome_11 rfl ?_
      refine mw_icmp_gt (tgt := 35) dX1_passDaysUntilHome_12 (by decide) (by omega) (by omega) (fun c_12 => ?_) (fun c_12 => ?_)
      · refine mw_iload_n dX1_passDaysUntilHome_35 rfl ?_
        refine mw_iconst dX1_passDaysUntilHome_36 ?_
        refine mw_iadd dX1_passDaysUntilHome_37 ?_
        refine mw_iret dX1_passDaysUntilHome_38 rfl ?_
        exact ⟨_, rfl, by rw [show (L + 1 - i).toNat = 0 by omega, fst] at h6; omega, h5⟩
      · have tnh := h4.tn (days_inv hI _) hs
        have hc := home_c s (daysF i.toNat F)
        rw [show (L + 1 - i).toNat = (L + 1 - (i + 1)).toNat + 1 by omega, fst] at h6
        refine mw_aload_n dX1_passDaysUntilHome_15 rfl ?_
        refine mw_Vpi (ci := 5) dX1_passDaysUntilHome_16 ml_X1_94 ok_X5_isHome (by decide) th.1 (by decide) rfl rfl rfl (Nat.le_of_ble_eq_true rfl) (c_T_isHome th.1 th.2.1 th.2.2 tnh.2.1 (fun q => tnh.2.2.1 _ (by omega) (by omega))) ?_
        rw [home_eq h4 (days_inv hI _) hs]
        refine mw_if_eq (tgt := 25) dX1_passDaysUntilHome_19 (by decide) (by omega) (fun c_19 => ?_) (fun c_19 => ?_)
        · rw [if_pos c_19] at h6
          refine mw_aload_n dX1_passDaysUntilHome_25 rfl ?_
          refine mw_Vv (ci := 1) dX1_passDaysUntilHome_26 ml_X1_91 ok_X1_passDay (by decide) kb (by decide) rfl rfl rfl (Nat.le_of_ble_eq_true rfl) (c_F_passDay hb h4 (days_inv hI _) (by rw [days_day]; omega)) (fun m_26 h_26 => ?_)
          refine mw_ii4 dX1_passDaysUntilHome_29 (by decide) rfl ?_
          refine mw_goto (tgt := 9) dX1_passDaysUntilHome_32 (by decide) ?_
          exact ih _ _ (by omega) (by omega) (by omega) (by rw [show (i + 1).toNat = i.toNat + 1 by omega, days_succ]; exact h_26.1) (h5.tr h_26.2) (by rw [show (i + 1).toNat = i.toNat + 1 by omega, days_succ]; exact h6)
        · rw [if_neg c_19] at h6
          refine mw_iload dX1_passDaysUntilHome_22 rfl ?_
          refine mw_iret dX1_passDaysUntilHome_24 rfl ?_
          exact ⟨i, rfl, h6, h5⟩
  refine mw_aload_n dX1_passDaysUntilHome_0 rfl ?_
  refine mw_iload_n dX1_passDaysUntilHome_1 rfl ?_
  refine mw_Vpr (ci := 1) dX1_passDaysUntilHome_2 ml_X1_45 ok_X1_tuneOf (by decide) kb (by decide) rfl rfl rfl (Nat.le_of_ble_eq_true rfl) (c_F_tuneOf hb hs) ?_
  refine mw_as3 dX1_passDaysUntilHome_5 (by decide) rfl ?_
  refine mw_iconst dX1_passDaysUntilHome_6 ?_
  refine mw_is4 dX1_passDaysUntilHome_7 (by decide) rfl ?_
  exact lp 1002 _ _ (by omega) (by omega) (by omega) hF FR.rf (by rw [Int.sub_zero]; rfl)
set_option maxHeartbeats 4000000 in
set_option maxRecDepth 100000 in
theorem c_F_untilAlike {G : mG} {μ : mMem} {b : Nat} (hb : BK b) {F : Int → Int} (hF : FUG μ b F) (hI : fInv F) {L : Int} (hL : -1 ≤ L ∧ L ≤ 1000) (hd : F 0 ≤ 40000) : mM G yX1_passDaysUntilAlike cX1_passDaysUntilAlike 3 (some .int) 4 [.ref b, .int (iV L)] μ (qI (fun z m => z = fst alikeP (L + 1).toNat 0 F ∧ FR b μ m)) := by
  obtain ⟨kb, kt0, ka0, kl0, kt1, ka1, kl1, kaa, kal⟩ := bk_at hb
  refine mM.of (lv := [some (.ref b), some (.int (iV L)), none]) 1 (by decide +kernel) (Nat.le_of_ble_eq_true rfl) rfl ?_
  intro X
  have lp : ∀ (n_ : Nat) (i : Int) (m : mMem), (0 ≤ i) → (i ≤ L + 1) → (1002 ≤ i + n_) → (FUG m b (daysF i.toNat F)) → (FR b μ m) → (fst alikeP (L + 1 - i).toNat i (daysF i.toNat F) = fst alikeP (L + 1).toNat 0 F) → mW X cX1_passDaysUntilAlike 3 (some .int) yX1_passDaysUntilAlike.cls 4 G (qI (fun z m => z = fst alikeP (L + 1).toNat 0 F ∧ FR b μ m)) 2 [some (.ref b), some (.int (iV L)), some (.int (iV i))] [] m := by
    intro n_
    induction n_ with
    | zero =>
      intro i m h1 h2 h3 h4 h5 h6
      omega
    | succ n_ ih =>
      intro i m h1 h2 h3 h4 h5 h6
      refine mw_iload_n dX1_passDaysUntilAlike_2 rfl ?_
      refine mw_iload_n dX1_passDaysUntilAlike_3 rfl ?_
      refine mw_icmp_gt (tgt := 26) dX1_passDaysUntilAlike_4 (by decide) (by omega) (by omega) (fun c_4 => ?_) (fun c_4 => ?_)
      · refine mw_iload_n dX1_passDaysUntilAlike_26 rfl ?_
        refine mw_iconst dX1_passDaysUntilAlike_27 ?_
        refine mw_iadd dX1_passDaysUntilAlike_28 ?_
        refine mw_iret dX1_passDaysUntilAlike_29 rfl ?_
        exact ⟨_, rfl, by rw [show (L + 1 - i).toNat = 0 by omega, fst] at h6; omega, h5⟩
      · have hc := alike_c (daysF i.toNat F)
        rw [show (L + 1 - i).toNat = (L + 1 - (i + 1)).toNat + 1 by omega, fst] at h6
        refine mw_aload_n dX1_passDaysUntilAlike_7 rfl ?_
        refine mw_Vpi (ci := 1) dX1_passDaysUntilAlike_8 ml_X1_97 ok_X1_isAlike (by decide) kb (by decide) rfl rfl rfl (Nat.le_of_ble_eq_true rfl) (c_F_isAlike hb h4 (days_inv hI _)) ?_
        refine mw_if_eq (tgt := 16) dX1_passDaysUntilAlike_11 (by decide) (by omega) (fun c_11 => ?_) (fun c_11 => ?_)
        · rw [if_pos c_11] at h6
          refine mw_aload_n dX1_passDaysUntilAlike_16 rfl ?_
          refine mw_Vv (ci := 1) dX1_passDaysUntilAlike_17 ml_X1_91 ok_X1_passDay (by decide) kb (by decide) rfl rfl rfl (Nat.le_of_ble_eq_true rfl) (c_F_passDay hb h4 (days_inv hI _) (by rw [days_day]; omega)) (fun m_17 h_17 => ?_)
          refine mw_ii2 dX1_passDaysUntilAlike_20 (by decide) rfl ?_
          refine mw_goto (tgt := 2) dX1_passDaysUntilAlike_23 (by decide) ?_
          exact ih _ _ (by omega) (by omega) (by omega) (by rw [show (i + 1).toNat = i.toNat + 1 by omega, days_succ]; exact h_17.1) (h5.tr h_17.2) (by rw [show (i + 1).toNat = i.toNat + 1 by omega, days_succ]; exact h6)
        · rw [if_neg c_11] at h6
          refine mw_iload_n dX1_passDaysUntilAlike_14 rfl ?_
          refine mw_iret dX1_passDaysUntilAlike_15 rfl ?_
          exact ⟨i, rfl, h6, h5⟩
  refine mw_iconst dX1_passDaysUntilAlike_0 ?_
  refine mw_is2 dX1_passDaysUntilAlike_1 (by decide) rfl ?_
  exact lp 1002 _ _ (by omega) (by omega) (by omega) hF FR.rf (by rw [Int.sub_zero]; rfl)
def sumW (F : Int → Int) : Nat → Int
  | 0 => 0
  | n + 1 => sumW F n + F (28 + 5 * (n : Int) + 4)
def sumB (F : Int → Int) : Nat → Int
  | 0 => 0
  | n + 1 => sumB F n + pop (F (28 + 5 * (n : Int) + 3))
set_option maxHeartbeats 4000000 in
set_option maxRecDepth 100000 in
theorem c_F_wrote {G : mG} {μ : mMem} {b : Nat} (hb : BK b) {F : Int → Int} (hF : FUG μ b F) (hI : fInv F) : mM G yX1_wroteTogether cX1_wroteTogether 3 (some .int) 0 [.ref b] μ (pI (sumW F (F 1).toNat) μ) := by
  obtain ⟨kb, kt0, ka0, kl0, kt1, ka1, kl1, kaa, kal⟩ := bk_at hb
  have hn := hI.2.1
  have ec := hF.1
  have ed := hF.2.1
  have h0 := hI.1
  refine mM.of (lv := [some (.ref b), none, none]) 2 (by decide +kernel) (Nat.le_of_ble_eq_true rfl) rfl ?_
  intro X
  have lp : ∀ (n_ : Nat) (i v : Int), (0 ≤ i) → (i ≤ F 1) → (9 ≤ i + n_) → (v = sumW F i.toNat) → mW X cX1_wroteTogether 3 (some .int) yX1_wroteTogether.cls 0 G (pI (sumW F (F 1).toNat) μ) 4 [some (.ref b), some (.int (iV v)), some (.int (iV i))] [] μ := by
    intro n_
    induction n_ with
    | zero =>
      intro i v h1 h2 h3 h5
      omega
    | succ n_ ih =>
      intro i v h1 h2 h3 h5
      refine mw_iload_n dX1_wroteTogether_4 rfl ?_
      refine mw_aload_n dX1_wroteTogether_5 rfl ?_
      refine mw_getI 3 dX1_wroteTogether_6 gs_X1_28 (by first | rfl | assumption) rfl rfl ?_
      rw [ec]
      refine mw_icmp_ge (tgt := 30) dX1_wroteTogether_9 (by decide) (by omega) (by omega) (fun c_9 => ?_) (fun c_9 => ?_)
      · refine mw_iload_n dX1_wroteTogether_30 rfl ?_
        refine mw_iret dX1_wroteTogether_31 rfl ?_
        exact ⟨by rw [h5, show (F 1).toNat = i.toNat by omega], rfl⟩
      · have ea := hF.at hI (a := i) (by omega)
        have kat := bk_a hb (a := i) (by omega)
        refine mw_iload_n dX1_wroteTogether_12 rfl ?_
        refine mw_aload_n dX1_wroteTogether_13 rfl ?_
        refine mw_gr_1_2 dX1_wroteTogether_14 gs_X1_23 (by first | rfl | assumption) ?_
        refine mw_iload_n dX1_wroteTogether_17 rfl ?_
        refine mw_aa10 dX1_wroteTogether_18 (by first | rfl | assumption) (by first | rfl | assumption) (by omega) ?_
        refine mw_getI 4 dX1_wroteTogether_19 gs_X1_62 (by first | rfl | assumption) rfl rfl ?_
        rw [ea.2.2.2.2.1]
        refine mw_iadd dX1_wroteTogether_22 ?_
        refine mw_is1 dX1_wroteTogether_23 (by decide) rfl ?_
        refine mw_ii2 dX1_wroteTogether_24 (by decide) rfl ?_
        refine mw_goto (tgt := 4) dX1_wroteTogether_27 (by decide) ?_
        exact ih _ _ (by omega) (by omega) (by omega) (by rw [show (i + 1).toNat = i.toNat + 1 by omega, sumW, h5, show ((i.toNat : Nat) : Int) = i by omega])
  refine mw_iconst dX1_wroteTogether_0 ?_
  refine mw_is1 dX1_wroteTogether_1 (by decide) rfl ?_
  refine mw_iconst dX1_wroteTogether_2 ?_
  refine mw_is2 dX1_wroteTogether_3 (by decide) rfl ?_
  exact lp 9 _ _ (by omega) (by omega) (by omega) rfl
set_option maxHeartbeats 4000000 in
set_option maxRecDepth 100000 in
theorem c_F_blots {G : mG} {μ : mMem} {b : Nat} (hb : BK b) {F : Int → Int} (hF : FUG μ b F) (hI : fInv F) : mM G yX1_blotsTogether cX1_blotsTogether 3 (some .int) 1 [.ref b] μ (pI (sumB F (F 1).toNat) μ) := by
  obtain ⟨kb, kt0, ka0, kl0, kt1, ka1, kl1, kaa, kal⟩ := bk_at hb
  have hn := hI.2.1
  have ec := hF.1
  have ed := hF.2.1
  have h0 := hI.1
  refine mM.of (lv := [some (.ref b), none, none]) 2 (by decide +kernel) (Nat.le_of_ble_eq_true rfl) rfl ?_
  intro X
  have lp : ∀ (n_ : Nat) (i v : Int), (0 ≤ i) → (i ≤ F 1) → (9 ≤ i + n_) → (v = sumB F i.toNat) → mW X cX1_blotsTogether 3 (some .int) yX1_blotsTogether.cls 1 G (pI (sumB F (F 1).toNat) μ) 4 [some (.ref b), some (.int (iV v)), some (.int (iV i))] [] μ := by
    intro n_
    induction n_ with
    | zero =>
      intro i v h1 h2 h3 h5
      omega
    | succ n_ ih =>
      intro i v h1 h2 h3 h5
      refine mw_iload_n dX1_blotsTogether_4 rfl ?_
      refine mw_aload_n dX1_blotsTogether_5 rfl ?_
      refine mw_getI 3 dX1_blotsTogether_6 gs_X1_28 (by first | rfl | assumption) rfl rfl ?_
      rw [ec]
      refine mw_icmp_ge (tgt := 33) dX1_blotsTogether_9 (by decide) (by omega) (by omega) (fun c_9 => ?_) (fun c_9 => ?_)
      · refine mw_iload_n dX1_blotsTogether_33 rfl ?_
        refine mw_iret dX1_blotsTogether_34 rfl ?_
        exact ⟨by rw [h5, show (F 1).toNat = i.toNat by omega], rfl⟩
      · have ea := hF.at hI (a := i) (by omega)
        have kat := bk_a hb (a := i) (by omega)
        refine mw_iload_n dX1_blotsTogether_12 rfl ?_
        refine mw_aload_n dX1_blotsTogether_13 rfl ?_
        refine mw_gr_1_2 dX1_blotsTogether_14 gs_X1_23 (by first | rfl | assumption) ?_
        refine mw_iload_n dX1_blotsTogether_17 rfl ?_
        refine mw_aa10 dX1_blotsTogether_18 (by first | rfl | assumption) (by first | rfl | assumption) (by omega) ?_
        refine mw_getI 3 dX1_blotsTogether_19 gs_X1_59 (by first | rfl | assumption) rfl rfl ?_
        rw [ea.2.2.2.1]
        refine mw_Spi dX1_blotsTogether_22 ml_X1_104 ok_J6_bitCount_0f7a4 (by decide) rfl rfl (Nat.le_of_ble_eq_true rfl) (c_bitCount (by omega)) ?_
        refine mw_iadd dX1_blotsTogether_25 ?_
        refine mw_is1 dX1_blotsTogether_26 (by decide) rfl ?_
        refine mw_ii2 dX1_blotsTogether_27 (by decide) rfl ?_
        refine mw_goto (tgt := 4) dX1_blotsTogether_30 (by decide) ?_
        exact ih _ _ (by omega) (by omega) (by omega) (by rw [show (i + 1).toNat = i.toNat + 1 by omega, sumB, h5, show ((i.toNat : Nat) : Int) = i by omega])
  refine mw_iconst dX1_blotsTogether_0 ?_
  refine mw_is1 dX1_blotsTogether_1 (by decide) rfl ?_
  refine mw_iconst dX1_blotsTogether_2 ?_
  refine mw_is2 dX1_blotsTogether_3 (by decide) rfl ?_
  exact lp 9 _ _ (by omega) (by omega) (by omega) rfl
end
section
set_option maxHeartbeats 4000000 in
set_option maxRecDepth 100000 in
theorem c_F_become {G : mG} {μ : mMem} {b b2 : Nat} (hb : BK b) (hb2 : BK b2) (hne : b2 ≠ b) {F : Int → Int} (hF : FUG μ b2 F) (hI : fInv F) : mM G yX1_become cX1_become 3 none 2 [.ref b, .ref b2] μ (qV (fun m => FUG m b F ∧ FR b μ m)) := by
  obtain ⟨kb, kt0, ka0, kl0, kt1, ka1, kl1, kaa, kal⟩ := bk_at hb
  obtain ⟨kb2, kt02, ka02, kl02, kt12, ka12, kl12, kaa2, kal2⟩ := bk_at hb2
  have hn := hI.2.1
  have ec := hF.1
  have ed := hF.2.1
  have hdis : b + 14 ≤ b2 ∨ b2 + 14 ≤ b := by
    unfold BK at hb hb2
    omega
  refine mM.of (lv := [some (.ref b), some (.ref b2), none]) 1 (by decide +kernel) (Nat.le_of_ble_eq_true rfl) rfl ?_
  intro X
  have lp : ∀ (n_ : Nat) (i : Int) (m : mMem), (0 ≤ i) → (i ≤ F 1) → (9 ≤ i + n_) → (FR b μ m) → (∀ s : Int, 0 ≤ s → s ≤ 1 → m.1 (tc b s) 1 = μ.1 (tc b2 s) 1 ∧ ∀ j : Int, 0 ≤ j → j < 12 → m.1 (tc b s + 1) j = μ.1 (tc b2 s + 1) j) → (∀ a : Int, 0 ≤ a → a < i → ∀ f : Int, 0 ≤ f → f < 5 → m.1 (b + 5 + 1 + a.toNat) f = μ.1 (b2 + 5 + 1 + a.toNat) f) → mW X cX1_become 3 none yX1_become.cls 2 G (qV (fun m => FUG m b F ∧ FR b μ m)) 24 [some (.ref b), some (.ref b2), some (.int (iV i))] [] m := by
    intro n_
    induction n_ with
    | zero =>
      intro i m h1 h2 h3 h4 h5 h6
      omega
    | succ n_ ih =>
      intro i m h1 h2 h3 h4 h5 h6
      refine mw_iload_n dX1_become_24 rfl ?_
      refine mw_aload_n dX1_become_25 rfl ?_
      refine mw_getI 3 dX1_become_26 gs_X1_28 (by first | rfl | assumption) rfl rfl ?_
      rw [h4.1 b2 (by omega), ec]
      refine mw_icmp_ge (tgt := 53) dX1_become_29 (by decide) (by omega) (by omega) (fun c_29 => ?_) (fun c_29 => ?_)
      · refine mw_aload_n dX1_become_53 rfl ?_
        refine mw_aload_n dX1_become_54 rfl ?_
        refine mw_getI 3 dX1_become_55 gs_X1_28 (by first | rfl | assumption) rfl rfl ?_
        rw [h4.1 b2 (by omega), ec]
        refine mw_putI 3 dX1_become_58 ps_X1_28 (by first | rfl | assumption) rfl rfl ?_
        refine mw_aload_n dX1_become_61 rfl ?_
        refine mw_aload_n dX1_become_62 rfl ?_
        refine mw_getI 4 dX1_become_63 gs_X1_32 (by first | rfl | assumption) rfl rfl ?_
        rw [u1_o (by omega), h4.1 b2 (by omega), ed]
        refine mw_putI 4 dX1_become_66 ps_X1_32 (by first | rfl | assumption) rfl rfl ?_
        refine mw_vret dX1_become_69 rfl ?_
        refine ⟨rfl, ⟨?_, by rw [u1_s], fun s q1 q2 => ?_, fun a q1 q2 f q3 q4 => ?_⟩, fun c hc => ?_, h4.2⟩
        · rw [u1_o (by omega), u1_s]
        · have ht := tc_c ⟨q1, q2⟩ b
          have hs := hI.2.2.1 s q1 q2
          refine ⟨by rw [u1_o (by omega), u1_o (by omega), (h5 s q1 q2).1]; exact (hF.2.2.1 s q1 q2).1, fun j q3 q4 => ?_⟩
          rw [u1_o (by omega), u1_o (by omega), (h5 s q1 q2).2 j q3 (by omega)]
          exact (hF.2.2.1 s q1 q2).2 j q3 q4
        · rw [u1_o (by omega), u1_o (by omega), h6 a q1 (by omega) f q3 q4]
          exact hF.2.2.2 a q1 q2 f q3 q4
        · funext j
          rw [u1_o (by omega), u1_o (by omega), h4.1 c hc]
      · have kat := bk_a hb (a := i) (by omega)
        have kat2 := bk_a hb2 (a := i) (by omega)
        refine mw_aload_n dX1_become_32 rfl ?_
        refine mw_gr_1_2 dX1_become_33 gs_X1_23 (by first | rfl | assumption) ?_
        refine mw_iload_n dX1_become_36 rfl ?_
        refine mw_aa10 dX1_become_37 (by first | rfl | assumption) (by first | rfl | assumption) (by omega) ?_
        refine mw_aload_n dX1_become_38 rfl ?_
        refine mw_gr_1_2 dX1_become_39 gs_X1_23 (by first | rfl | assumption) ?_
        refine mw_iload_n dX1_become_42 rfl ?_
        refine mw_aa10 dX1_become_43 (by first | rfl | assumption) (by first | rfl | assumption) (by omega) ?_
        refine mw_Vv (ci := 0) dX1_become_44 ml_X1_39 ok_X0_become (by decide) kat (by decide) rfl rfl rfl (Nat.le_of_ble_eq_true rfl) (c_A_become kat kat2 (by omega)) (fun m_44 h_44 => ?_)
        refine mw_ii2 dX1_become_47 (by decide) rfl ?_
        refine mw_goto (tgt := 24) dX1_become_50 (by decide) ?_
        obtain ⟨g1, g2, g3⟩ := h_44
        refine ih _ _ (by omega) (by omega) (by omega) ⟨fun c hc => ?_, g2.trans h4.2⟩ (fun s q1 q2 => ?_) (fun a q1 q2 f q3 q4 => ?_)
        · rw [g1 c (by omega)]
          exact h4.1 c hc
        · have ht := tc_c ⟨q1, q2⟩ b
          rw [g1 _ (by omega), g1 _ (by omega)]
          exact h5 s q1 q2
        · by_cases hai : a = i
          · subst hai
            rw [g3 f q3 q4, h4.1 _ (by omega)]
          · rw [g1 _ (by omega)]
            exact h6 a q1 (by omega) f q3 q4
  refine mw_aload_n dX1_become_0 rfl ?_
  refine mw_gr_1_0 dX1_become_1 gs_X1_12 (by first | rfl | assumption) ?_
  refine mw_aload_n dX1_become_4 rfl ?_
  refine mw_gr_1_0 dX1_become_5 gs_X1_12 (by first | rfl | assumption) ?_
  refine mw_Vv (ci := 5) dX1_become_8 ml_X1_35 ok_X5_become (by decide) (by first | rfl | assumption) (by decide) rfl rfl rfl (Nat.le_of_ble_eq_true rfl) (c_T_become kt0 ka0 kl0 kt02 ka02 kl02 (by omega)) (fun m_8 h_8 => ?_)
  refine mw_aload_n dX1_become_11 rfl ?_
  refine mw_gr_1_1 dX1_become_12 gs_X1_18 (by first | rfl | assumption) ?_
  refine mw_aload_n dX1_become_15 rfl ?_
  refine mw_gr_1_1 dX1_become_16 gs_X1_18 (by first | rfl | assumption) ?_
  refine mw_Vv (ci := 5) dX1_become_19 ml_X1_35 ok_X5_become (by decide) (by first | rfl | assumption) (by decide) rfl rfl rfl (Nat.le_of_ble_eq_true rfl) (c_T_become kt1 ka1 kl1 kt12 ka12 kl12 (by omega)) (fun m_19 h_19 => ?_)
  refine mw_iconst dX1_become_22 ?_
  refine mw_is2 dX1_become_23 (by decide) rfl ?_
  obtain ⟨g1, g2, g3, g4⟩ := h_8
  obtain ⟨k1, k2, k3, k4⟩ := h_19
  refine lp 9 _ _ (by omega) (by omega) (by omega) ⟨fun c hc => ?_, k2.trans g2⟩ (fun s q1 q2 => ?_) (fun a q1 q2 => by omega)
  · rw [k1 c (by omega) (by omega), g1 c (by omega) (by omega)]
  · rcases (show s = 0 ∨ s = 1 by omega) with rfl | rfl
    · rw [tc_0, tc_0, k1 (b + 1) (by omega) (by omega), k1 (b + 1 + 1) (by omega) (by omega)]
      exact ⟨g3, g4⟩
    · rw [tc_1, tc_1, k3]
      refine ⟨by rw [g1 (b2 + 3) (by omega) (by omega)], fun j q3 q4 => ?_⟩
      rw [k4 j q3 q4, g1 (b2 + 3 + 1) (by omega) (by omega)]
end

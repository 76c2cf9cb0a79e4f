-- ===== PART A: goes FIRST, ahead of the names: the tables' words, and 'selects' of the private methods out of them =====
/-- a private method of a class that the tables say can be made, by its rows of tables_1 -/
def lw_okq (q : MethodName × Nat) : Prop := (q.1.cls ≠ "java/lang/invoke/MethodHandle" ∧ q.1.cls ≠ "java/lang/invoke/VarHandle") ∧ Cond.instantiable q.1.cls q.2 ∈ tables_1 ∧ Cond.privateMethod q.1 ∈ tables_1 ∧ Cond.instanceMethod q.1 ∈ tables_1
theorem lw_p0 : lw_okq (⟨"OneSunbeam", "changeMirror", "(IIIZ)I"⟩, 16) := ⟨⟨by decide +kernel, by decide +kernel⟩, List.mem_of_getElem? (i := 21) (by decide +kernel), List.mem_of_getElem? (i := 513) (by decide +kernel), List.mem_of_getElem? (i := 514) (by decide +kernel)⟩
theorem lw_p1 : lw_okq (⟨"OneSunbeam", "putOnTape", "(I)V"⟩, 16) := ⟨⟨by decide +kernel, by decide +kernel⟩, List.mem_of_getElem? (i := 21) (by decide +kernel), List.mem_of_getElem? (i := 551) (by decide +kernel), List.mem_of_getElem? (i := 552) (by decide +kernel)⟩
theorem lw_p2 : lw_okq (⟨"OneSunbeam$LawReader", "readToken", "()V"⟩, 14) := ⟨⟨by decide +kernel, by decide +kernel⟩, List.mem_of_getElem? (i := 313) (by decide +kernel), List.mem_of_getElem? (i := 574) (by decide +kernel), List.mem_of_getElem? (i := 575) (by decide +kernel)⟩
theorem lw_p3 : lw_okq (⟨"OneSunbeam$LawReader", "byteAt", "(I)I"⟩, 14) := ⟨⟨by decide +kernel, by decide +kernel⟩, List.mem_of_getElem? (i := 313) (by decide +kernel), List.mem_of_getElem? (i := 578) (by decide +kernel), List.mem_of_getElem? (i := 579) (by decide +kernel)⟩
theorem lw_p4 : lw_okq (⟨"OneSunbeam$LawReader", "readNumber", "()V"⟩, 14) := ⟨⟨by decide +kernel, by decide +kernel⟩, List.mem_of_getElem? (i := 313) (by decide +kernel), List.mem_of_getElem? (i := 585) (by decide +kernel), List.mem_of_getElem? (i := 586) (by decide +kernel)⟩
theorem lw_p5 : lw_okq (⟨"OneSunbeam$LawReader", "yardHere", "()I"⟩, 14) := ⟨⟨by decide +kernel, by decide +kernel⟩, List.mem_of_getElem? (i := 313) (by decide +kernel), List.mem_of_getElem? (i := 592) (by decide +kernel), List.mem_of_getElem? (i := 593) (by decide +kernel)⟩
theorem lw_p6 : lw_okq (⟨"OneSunbeam$LawReader", "wordHere", "()I"⟩, 14) := ⟨⟨by decide +kernel, by decide +kernel⟩, List.mem_of_getElem? (i := 313) (by decide +kernel), List.mem_of_getElem? (i := 596) (by decide +kernel), List.mem_of_getElem? (i := 597) (by decide +kernel)⟩
theorem lw_p7 : lw_okq (⟨"OneSunbeam$LawReader", "isWord", "(Ljava/lang/String;)Z"⟩, 14) := ⟨⟨by decide +kernel, by decide +kernel⟩, List.mem_of_getElem? (i := 313) (by decide +kernel), List.mem_of_getElem? (i := 601) (by decide +kernel), List.mem_of_getElem? (i := 602) (by decide +kernel)⟩
theorem lw_p8 : lw_okq (⟨"OneSunbeam$LawReader", "signHere", "()I"⟩, 14) := ⟨⟨by decide +kernel, by decide +kernel⟩, List.mem_of_getElem? (i := 313) (by decide +kernel), List.mem_of_getElem? (i := 662) (by decide +kernel), List.mem_of_getElem? (i := 663) (by decide +kernel)⟩
theorem lw_p9 : lw_okq (⟨"OneSunbeam$LawReader", "takeToken", "()V"⟩, 14) := ⟨⟨by decide +kernel, by decide +kernel⟩, List.mem_of_getElem? (i := 313) (by decide +kernel), List.mem_of_getElem? (i := 666) (by decide +kernel), List.mem_of_getElem? (i := 667) (by decide +kernel)⟩
theorem lw_p10 : lw_okq (⟨"OneSunbeam$LawReader", "takeTurn", "()V"⟩, 14) := ⟨⟨by decide +kernel, by decide +kernel⟩, List.mem_of_getElem? (i := 313) (by decide +kernel), List.mem_of_getElem? (i := 670) (by decide +kernel), List.mem_of_getElem? (i := 671) (by decide +kernel)⟩
theorem lw_p11 : lw_okq (⟨"OneSunbeam$LawReader", "fail", "(I)V"⟩, 14) := ⟨⟨by decide +kernel, by decide +kernel⟩, List.mem_of_getElem? (i := 313) (by decide +kernel), List.mem_of_getElem? (i := 674) (by decide +kernel), List.mem_of_getElem? (i := 675) (by decide +kernel)⟩
theorem lw_p12 : lw_okq (⟨"OneSunbeam$LawReader", "takeMirror", "()V"⟩, 14) := ⟨⟨by decide +kernel, by decide +kernel⟩, List.mem_of_getElem? (i := 313) (by decide +kernel), List.mem_of_getElem? (i := 678) (by decide +kernel), List.mem_of_getElem? (i := 679) (by decide +kernel)⟩
theorem lw_p13 : lw_okq (⟨"OneSunbeam$LawReader", "takeFact", "()V"⟩, 14) := ⟨⟨by decide +kernel, by decide +kernel⟩, List.mem_of_getElem? (i := 313) (by decide +kernel), List.mem_of_getElem? (i := 686) (by decide +kernel), List.mem_of_getElem? (i := 687) (by decide +kernel)⟩
theorem lw_p14 : lw_okq (⟨"OneSunbeam$LawReader", "takeValue", "()V"⟩, 14) := ⟨⟨by decide +kernel, by decide +kernel⟩, List.mem_of_getElem? (i := 313) (by decide +kernel), List.mem_of_getElem? (i := 690) (by decide +kernel), List.mem_of_getElem? (i := 691) (by decide +kernel)⟩
theorem lw_p15 : lw_okq (⟨"OneSunbeam$LawReader", "countsOneMore", "()Z"⟩, 14) := ⟨⟨by decide +kernel, by decide +kernel⟩, List.mem_of_getElem? (i := 313) (by decide +kernel), List.mem_of_getElem? (i := 694) (by decide +kernel), List.mem_of_getElem? (i := 695) (by decide +kernel)⟩
def lw_privs_1 : List (MethodName × Nat) := [(⟨"OneSunbeam", "changeMirror", "(IIIZ)I"⟩, 16), (⟨"OneSunbeam", "putOnTape", "(I)V"⟩, 16), (⟨"OneSunbeam$LawReader", "readToken", "()V"⟩, 14), (⟨"OneSunbeam$LawReader", "byteAt", "(I)I"⟩, 14), (⟨"OneSunbeam$LawReader", "readNumber", "()V"⟩, 14), (⟨"OneSunbeam$LawReader", "yardHere", "()I"⟩, 14), (⟨"OneSunbeam$LawReader", "wordHere", "()I"⟩, 14), (⟨"OneSunbeam$LawReader", "isWord", "(Ljava/lang/String;)Z"⟩, 14), (⟨"OneSunbeam$LawReader", "signHere", "()I"⟩, 14), (⟨"OneSunbeam$LawReader", "takeToken", "()V"⟩, 14), (⟨"OneSunbeam$LawReader", "takeTurn", "()V"⟩, 14), (⟨"OneSunbeam$LawReader", "fail", "(I)V"⟩, 14), (⟨"OneSunbeam$LawReader", "takeMirror", "()V"⟩, 14), (⟨"OneSunbeam$LawReader", "takeFact", "()V"⟩, 14), (⟨"OneSunbeam$LawReader", "takeValue", "()V"⟩, 14), (⟨"OneSunbeam$LawReader", "countsOneMore", "()Z"⟩, 14)]
theorem lw_r1 : ∀ q ∈ lw_privs_1, lw_okq q := List.forall_mem_cons.mpr ⟨lw_p0, List.forall_mem_cons.mpr ⟨lw_p1, List.forall_mem_cons.mpr ⟨lw_p2, List.forall_mem_cons.mpr ⟨lw_p3, List.forall_mem_cons.mpr ⟨lw_p4, List.forall_mem_cons.mpr ⟨lw_p5, List.forall_mem_cons.mpr ⟨lw_p6, List.forall_mem_cons.mpr ⟨lw_p7, List.forall_mem_cons.mpr ⟨lw_p8, List.forall_mem_cons.mpr ⟨lw_p9, List.forall_mem_cons.mpr ⟨lw_p10, List.forall_mem_cons.mpr ⟨lw_p11, List.forall_mem_cons.mpr ⟨lw_p12, List.forall_mem_cons.mpr ⟨lw_p13, List.forall_mem_cons.mpr ⟨lw_p14, List.forall_mem_cons.mpr ⟨lw_p15, fun _ h => absurd h List.not_mem_nil⟩⟩⟩⟩⟩⟩⟩⟩⟩⟩⟩⟩⟩⟩⟩⟩
theorem lw_p16 : lw_okq (⟨"OneSunbeam$LawReader", "push", "(I)V"⟩, 14) := ⟨⟨by decide +kernel, by decide +kernel⟩, List.mem_of_getElem? (i := 313) (by decide +kernel), List.mem_of_getElem? (i := 702) (by decide +kernel), List.mem_of_getElem? (i := 703) (by decide +kernel)⟩
theorem lw_p17 : lw_okq (⟨"OneSunbeam$LawReader", "takeBehind", "()V"⟩, 14) := ⟨⟨by decide +kernel, by decide +kernel⟩, List.mem_of_getElem? (i := 313) (by decide +kernel), List.mem_of_getElem? (i := 706) (by decide +kernel), List.mem_of_getElem? (i := 707) (by decide +kernel)⟩
theorem lw_p18 : lw_okq (⟨"OneSunbeam$LawReader", "takeSign", "(II)V"⟩, 14) := ⟨⟨by decide +kernel, by decide +kernel⟩, List.mem_of_getElem? (i := 313) (by decide +kernel), List.mem_of_getElem? (i := 710) (by decide +kernel), List.mem_of_getElem? (i := 711) (by decide +kernel)⟩
theorem lw_p19 : lw_okq (⟨"OneSunbeam$LawReader", "popDownTo", "(I)V"⟩, 14) := ⟨⟨by decide +kernel, by decide +kernel⟩, List.mem_of_getElem? (i := 313) (by decide +kernel), List.mem_of_getElem? (i := 717) (by decide +kernel), List.mem_of_getElem? (i := 718) (by decide +kernel)⟩
theorem lw_p20 : lw_okq (⟨"OneSunbeam$LawReader", "closeBracket", "()V"⟩, 14) := ⟨⟨by decide +kernel, by decide +kernel⟩, List.mem_of_getElem? (i := 313) (by decide +kernel), List.mem_of_getElem? (i := 721) (by decide +kernel), List.mem_of_getElem? (i := 722) (by decide +kernel)⟩
theorem lw_p21 : lw_okq (⟨"OneSunbeam$LawReader", "takeClauseEnd", "()V"⟩, 14) := ⟨⟨by decide +kernel, by decide +kernel⟩, List.mem_of_getElem? (i := 313) (by decide +kernel), List.mem_of_getElem? (i := 729) (by decide +kernel), List.mem_of_getElem? (i := 730) (by decide +kernel)⟩
theorem lw_p22 : lw_okq (⟨"OneSunbeam", "findLaw", "(I)LOneSunbeam$Law;"⟩, 16) := ⟨⟨by decide +kernel, by decide +kernel⟩, List.mem_of_getElem? (i := 21) (by decide +kernel), List.mem_of_getElem? (i := 741) (by decide +kernel), List.mem_of_getElem? (i := 742) (by decide +kernel)⟩
theorem lw_p23 : lw_okq (⟨"OneSunbeam$Keepers", "turnMirrors", "(LOneSunbeam$Town;LOneSunbeam$Law;)V"⟩, 4) := ⟨⟨by decide +kernel, by decide +kernel⟩, List.mem_of_getElem? (i := 180) (by decide +kernel), List.mem_of_getElem? (i := 750) (by decide +kernel), List.mem_of_getElem? (i := 751) (by decide +kernel)⟩
theorem lw_p24 : lw_okq (⟨"OneSunbeam$Keepers", "holds", "(LOneSunbeam$Town;LOneSunbeam$Law;I)Z"⟩, 4) := ⟨⟨by decide +kernel, by decide +kernel⟩, List.mem_of_getElem? (i := 180) (by decide +kernel), List.mem_of_getElem? (i := 755) (by decide +kernel), List.mem_of_getElem? (i := 756) (by decide +kernel)⟩
theorem lw_p25 : lw_okq (⟨"OneSunbeam$Keepers", "valueOf", "(LOneSunbeam$Town;LOneSunbeam$Law;III)J"⟩, 4) := ⟨⟨by decide +kernel, by decide +kernel⟩, List.mem_of_getElem? (i := 180) (by decide +kernel), List.mem_of_getElem? (i := 759) (by decide +kernel), List.mem_of_getElem? (i := 760) (by decide +kernel)⟩
theorem lw_p26 : lw_okq (⟨"OneSunbeam$Keepers", "wordValue", "(LOneSunbeam$Town;II)J"⟩, 4) := ⟨⟨by decide +kernel, by decide +kernel⟩, List.mem_of_getElem? (i := 180) (by decide +kernel), List.mem_of_getElem? (i := 763) (by decide +kernel), List.mem_of_getElem? (i := 764) (by decide +kernel)⟩
theorem lw_p27 : lw_okq (⟨"OneSunbeam$Keepers", "gotByYard", "(I)J"⟩, 4) := ⟨⟨by decide +kernel, by decide +kernel⟩, List.mem_of_getElem? (i := 180) (by decide +kernel), List.mem_of_getElem? (i := 777) (by decide +kernel), List.mem_of_getElem? (i := 778) (by decide +kernel)⟩
theorem lw_p28 : lw_okq (⟨"OneSunbeam$Beams", "clear", "()V"⟩, 13) := ⟨⟨by decide +kernel, by decide +kernel⟩, List.mem_of_getElem? (i := 124) (by decide +kernel), List.mem_of_getElem? (i := 806) (by decide +kernel), List.mem_of_getElem? (i := 807) (by decide +kernel)⟩
theorem lw_p29 : lw_okq (⟨"OneSunbeam$Beams", "follow", "(LOneSunbeam$Town;IIII)V"⟩, 13) := ⟨⟨by decide +kernel, by decide +kernel⟩, List.mem_of_getElem? (i := 124) (by decide +kernel), List.mem_of_getElem? (i := 815) (by decide +kernel), List.mem_of_getElem? (i := 816) (by decide +kernel)⟩
theorem lw_p30 : lw_okq (⟨"OneSunbeam$Beams", "passAir", "(LOneSunbeam$Town;II)I"⟩, 13) := ⟨⟨by decide +kernel, by decide +kernel⟩, List.mem_of_getElem? (i := 124) (by decide +kernel), List.mem_of_getElem? (i := 824) (by decide +kernel), List.mem_of_getElem? (i := 825) (by decide +kernel)⟩
theorem lw_p31 : lw_okq (⟨"OneSunbeam$Beams", "passYard", "(LOneSunbeam$Town;II)I"⟩, 13) := ⟨⟨by decide +kernel, by decide +kernel⟩, List.mem_of_getElem? (i := 124) (by decide +kernel), List.mem_of_getElem? (i := 831) (by decide +kernel), List.mem_of_getElem? (i := 832) (by decide +kernel)⟩
def lw_privs_2 : List (MethodName × Nat) := [(⟨"OneSunbeam$LawReader", "push", "(I)V"⟩, 14), (⟨"OneSunbeam$LawReader", "takeBehind", "()V"⟩, 14), (⟨"OneSunbeam$LawReader", "takeSign", "(II)V"⟩, 14), (⟨"OneSunbeam$LawReader", "popDownTo", "(I)V"⟩, 14), (⟨"OneSunbeam$LawReader", "closeBracket", "()V"⟩, 14), (⟨"OneSunbeam$LawReader", "takeClauseEnd", "()V"⟩, 14), (⟨"OneSunbeam", "findLaw", "(I)LOneSunbeam$Law;"⟩, 16), (⟨"OneSunbeam$Keepers", "turnMirrors", "(LOneSunbeam$Town;LOneSunbeam$Law;)V"⟩, 4), (⟨"OneSunbeam$Keepers", "holds", "(LOneSunbeam$Town;LOneSunbeam$Law;I)Z"⟩, 4), (⟨"OneSunbeam$Keepers", "valueOf", "(LOneSunbeam$Town;LOneSunbeam$Law;III)J"⟩, 4), (⟨"OneSunbeam$Keepers", "wordValue", "(LOneSunbeam$Town;II)J"⟩, 4), (⟨"OneSunbeam$Keepers", "gotByYard", "(I)J"⟩, 4), (⟨"OneSunbeam$Beams", "clear", "()V"⟩, 13), (⟨"OneSunbeam$Beams", "follow", "(LOneSunbeam$Town;IIII)V"⟩, 13), (⟨"OneSunbeam$Beams", "passAir", "(LOneSunbeam$Town;II)I"⟩, 13), (⟨"OneSunbeam$Beams", "passYard", "(LOneSunbeam$Town;II)I"⟩, 13)]
theorem lw_r2 : ∀ q ∈ lw_privs_2, lw_okq q := List.forall_mem_cons.mpr ⟨lw_p16, List.forall_mem_cons.mpr ⟨lw_p17, List.forall_mem_cons.mpr ⟨lw_p18, List.forall_mem_cons.mpr ⟨lw_p19, List.forall_mem_cons.mpr ⟨lw_p20, List.forall_mem_cons.mpr ⟨lw_p21, List.forall_mem_cons.mpr ⟨lw_p22, List.forall_mem_cons.mpr ⟨lw_p23, List.forall_mem_cons.mpr ⟨lw_p24, List.forall_mem_cons.mpr ⟨lw_p25, List.forall_mem_cons.mpr ⟨lw_p26, List.forall_mem_cons.mpr ⟨lw_p27, List.forall_mem_cons.mpr ⟨lw_p28, List.forall_mem_cons.mpr ⟨lw_p29, List.forall_mem_cons.mpr ⟨lw_p30, List.forall_mem_cons.mpr ⟨lw_p31, fun _ h => absurd h List.not_mem_nil⟩⟩⟩⟩⟩⟩⟩⟩⟩⟩⟩⟩⟩⟩⟩⟩
theorem lw_p32 : lw_okq (⟨"OneSunbeam$Beams", "passMirror", "(LOneSunbeam$Town;III)I"⟩, 13) := ⟨⟨by decide +kernel, by decide +kernel⟩, List.mem_of_getElem? (i := 124) (by decide +kernel), List.mem_of_getElem? (i := 843) (by decide +kernel), List.mem_of_getElem? (i := 844) (by decide +kernel)⟩
theorem lw_p33 : lw_okq (⟨"OneSunbeam$Beams", "letWait", "(II)V"⟩, 13) := ⟨⟨by decide +kernel, by decide +kernel⟩, List.mem_of_getElem? (i := 124) (by decide +kernel), List.mem_of_getElem? (i := 852) (by decide +kernel), List.mem_of_getElem? (i := 853) (by decide +kernel)⟩
theorem lw_p34 : lw_okq (⟨"OneSunbeam$Beams", "isBlind", "(LOneSunbeam$Town;I)Z"⟩, 13) := ⟨⟨by decide +kernel, by decide +kernel⟩, List.mem_of_getElem? (i := 124) (by decide +kernel), List.mem_of_getElem? (i := 868) (by decide +kernel), List.mem_of_getElem? (i := 869) (by decide +kernel)⟩
theorem lw_p35 : lw_okq (⟨"OneSunbeam$Keepers", "addToday", "()V"⟩, 4) := ⟨⟨by decide +kernel, by decide +kernel⟩, List.mem_of_getElem? (i := 180) (by decide +kernel), List.mem_of_getElem? (i := 873) (by decide +kernel), List.mem_of_getElem? (i := 874) (by decide +kernel)⟩
theorem lw_p36 : lw_okq (⟨"OneSunbeam", "worthOfSet", "(II)I"⟩, 16) := ⟨⟨by decide +kernel, by decide +kernel⟩, List.mem_of_getElem? (i := 21) (by decide +kernel), List.mem_of_getElem? (i := 937) (by decide +kernel), List.mem_of_getElem? (i := 938) (by decide +kernel)⟩
theorem lw_p37 : lw_okq (⟨"OneSunbeam", "isPlaceOfSet", "(II)Z"⟩, 16) := ⟨⟨by decide +kernel, by decide +kernel⟩, List.mem_of_getElem? (i := 21) (by decide +kernel), List.mem_of_getElem? (i := 957) (by decide +kernel), List.mem_of_getElem? (i := 958) (by decide +kernel)⟩
theorem lw_p38 : lw_okq (⟨"OneSunbeam$Aiming", "gather", "(LOneSunbeam$Town;I)V"⟩, 7) := ⟨⟨by decide +kernel, by decide +kernel⟩, List.mem_of_getElem? (i := 200) (by decide +kernel), List.mem_of_getElem? (i := 971) (by decide +kernel), List.mem_of_getElem? (i := 972) (by decide +kernel)⟩
theorem lw_p39 : lw_okq (⟨"OneSunbeam$Aiming", "putSlants", "(LOneSunbeam$Town;[I)V"⟩, 7) := ⟨⟨by decide +kernel, by decide +kernel⟩, List.mem_of_getElem? (i := 200) (by decide +kernel), List.mem_of_getElem? (i := 976) (by decide +kernel), List.mem_of_getElem? (i := 977) (by decide +kernel)⟩
theorem lw_p40 : lw_okq (⟨"OneSunbeam$Aiming", "leastGot", "(LOneSunbeam$Town;)I"⟩, 7) := ⟨⟨by decide +kernel, by decide +kernel⟩, List.mem_of_getElem? (i := 200) (by decide +kernel), List.mem_of_getElem? (i := 982) (by decide +kernel), List.mem_of_getElem? (i := 983) (by decide +kernel)⟩
theorem lw_p41 : lw_okq (⟨"OneSunbeam$Aiming", "lastTouched", "()I"⟩, 7) := ⟨⟨by decide +kernel, by decide +kernel⟩, List.mem_of_getElem? (i := 200) (by decide +kernel), List.mem_of_getElem? (i := 988) (by decide +kernel), List.mem_of_getElem? (i := 989) (by decide +kernel)⟩
theorem lw_p42 : lw_okq (⟨"OneSunbeam$Aiming", "goOn", "(I)Z"⟩, 7) := ⟨⟨by decide +kernel, by decide +kernel⟩, List.mem_of_getElem? (i := 200) (by decide +kernel), List.mem_of_getElem? (i := 996) (by decide +kernel), List.mem_of_getElem? (i := 997) (by decide +kernel)⟩
theorem lw_p43 : lw_okq (⟨"OneSunbeam$Mending", "isEnough", "()Z"⟩, 9) := ⟨⟨by decide +kernel, by decide +kernel⟩, List.mem_of_getElem? (i := 228) (by decide +kernel), List.mem_of_getElem? (i := 1025) (by decide +kernel), List.mem_of_getElem? (i := 1026) (by decide +kernel)⟩
theorem lw_p44 : lw_okq (⟨"OneSunbeam$Mending", "isMendedBy", "(II)Z"⟩, 9) := ⟨⟨by decide +kernel, by decide +kernel⟩, List.mem_of_getElem? (i := 228) (by decide +kernel), List.mem_of_getElem? (i := 1040) (by decide +kernel), List.mem_of_getElem? (i := 1041) (by decide +kernel)⟩
theorem lw_p45 : lw_okq (⟨"OneSunbeam$Mending", "findSlants", "(II)Z"⟩, 9) := ⟨⟨by decide +kernel, by decide +kernel⟩, List.mem_of_getElem? (i := 228) (by decide +kernel), List.mem_of_getElem? (i := 1048) (by decide +kernel), List.mem_of_getElem? (i := 1049) (by decide +kernel)⟩
theorem lw_p46 : lw_okq (⟨"OneSunbeam$Mending", "doesPairMatter", "(IIII)Z"⟩, 9) := ⟨⟨by decide +kernel, by decide +kernel⟩, List.mem_of_getElem? (i := 228) (by decide +kernel), List.mem_of_getElem? (i := 1052) (by decide +kernel), List.mem_of_getElem? (i := 1053) (by decide +kernel)⟩
theorem lw_p47 : lw_okq (⟨"OneSunbeam$Opening", "tryWays", "(LOneSunbeam$Town;I)V"⟩, 4) := ⟨⟨by decide +kernel, by decide +kernel⟩, List.mem_of_getElem? (i := 263) (by decide +kernel), List.mem_of_getElem? (i := 1073) (by decide +kernel), List.mem_of_getElem? (i := 1074) (by decide +kernel)⟩
def lw_privs_3 : List (MethodName × Nat) := [(⟨"OneSunbeam$Beams", "passMirror", "(LOneSunbeam$Town;III)I"⟩, 13), (⟨"OneSunbeam$Beams", "letWait", "(II)V"⟩, 13), (⟨"OneSunbeam$Beams", "isBlind", "(LOneSunbeam$Town;I)Z"⟩, 13), (⟨"OneSunbeam$Keepers", "addToday", "()V"⟩, 4), (⟨"OneSunbeam", "worthOfSet", "(II)I"⟩, 16), (⟨"OneSunbeam", "isPlaceOfSet", "(II)Z"⟩, 16), (⟨"OneSunbeam$Aiming", "gather", "(LOneSunbeam$Town;I)V"⟩, 7), (⟨"OneSunbeam$Aiming", "putSlants", "(LOneSunbeam$Town;[I)V"⟩, 7), (⟨"OneSunbeam$Aiming", "leastGot", "(LOneSunbeam$Town;)I"⟩, 7), (⟨"OneSunbeam$Aiming", "lastTouched", "()I"⟩, 7), (⟨"OneSunbeam$Aiming", "goOn", "(I)Z"⟩, 7), (⟨"OneSunbeam$Mending", "isEnough", "()Z"⟩, 9), (⟨"OneSunbeam$Mending", "isMendedBy", "(II)Z"⟩, 9), (⟨"OneSunbeam$Mending", "findSlants", "(II)Z"⟩, 9), (⟨"OneSunbeam$Mending", "doesPairMatter", "(IIII)Z"⟩, 9), (⟨"OneSunbeam$Opening", "tryWays", "(LOneSunbeam$Town;I)V"⟩, 4)]
theorem lw_r3 : ∀ q ∈ lw_privs_3, lw_okq q := List.forall_mem_cons.mpr ⟨lw_p32, List.forall_mem_cons.mpr ⟨lw_p33, List.forall_mem_cons.mpr ⟨lw_p34, List.forall_mem_cons.mpr ⟨lw_p35, List.forall_mem_cons.mpr ⟨lw_p36, List.forall_mem_cons.mpr ⟨lw_p37, List.forall_mem_cons.mpr ⟨lw_p38, List.forall_mem_cons.mpr ⟨lw_p39, List.forall_mem_cons.mpr ⟨lw_p40, List.forall_mem_cons.mpr ⟨lw_p41, List.forall_mem_cons.mpr ⟨lw_p42, List.forall_mem_cons.mpr ⟨lw_p43, List.forall_mem_cons.mpr ⟨lw_p44, List.forall_mem_cons.mpr ⟨lw_p45, List.forall_mem_cons.mpr ⟨lw_p46, List.forall_mem_cons.mpr ⟨lw_p47, fun _ h => absurd h List.not_mem_nil⟩⟩⟩⟩⟩⟩⟩⟩⟩⟩⟩⟩⟩⟩⟩⟩
theorem lw_p48 : lw_okq (⟨"OneSunbeam$Theft", "walk", "(LOneSunbeam$Town;I)V"⟩, 6) := ⟨⟨by decide +kernel, by decide +kernel⟩, List.mem_of_getElem? (i := 285) (by decide +kernel), List.mem_of_getElem? (i := 1095) (by decide +kernel), List.mem_of_getElem? (i := 1096) (by decide +kernel)⟩
theorem lw_p49 : lw_okq (⟨"OneSunbeam$Theft", "meet", "(II)I"⟩, 6) := ⟨⟨by decide +kernel, by decide +kernel⟩, List.mem_of_getElem? (i := 285) (by decide +kernel), List.mem_of_getElem? (i := 1109) (by decide +kernel), List.mem_of_getElem? (i := 1110) (by decide +kernel)⟩
theorem lw_p50 : lw_okq (⟨"OneSunbeam$Theft", "isExplainedBehind", "(LOneSunbeam$Town;II)Z"⟩, 6) := ⟨⟨by decide +kernel, by decide +kernel⟩, List.mem_of_getElem? (i := 285) (by decide +kernel), List.mem_of_getElem? (i := 1118) (by decide +kernel), List.mem_of_getElem? (i := 1119) (by decide +kernel)⟩
theorem lw_p51 : lw_okq (⟨"OneSunbeam", "leastDust", "(IIII)I"⟩, 16) := ⟨⟨by decide +kernel, by decide +kernel⟩, List.mem_of_getElem? (i := 21) (by decide +kernel), List.mem_of_getElem? (i := 1127) (by decide +kernel), List.mem_of_getElem? (i := 1128) (by decide +kernel)⟩
theorem lw_p52 : lw_okq (⟨"OneSunbeam", "getWithDust", "(IIII)I"⟩, 16) := ⟨⟨by decide +kernel, by decide +kernel⟩, List.mem_of_getElem? (i := 21) (by decide +kernel), List.mem_of_getElem? (i := 1131) (by decide +kernel), List.mem_of_getElem? (i := 1132) (by decide +kernel)⟩
theorem lw_p53 : lw_okq (⟨"OneSunbeam", "leastDustOneByOne", "(IIII)I"⟩, 16) := ⟨⟨by decide +kernel, by decide +kernel⟩, List.mem_of_getElem? (i := 21) (by decide +kernel), List.mem_of_getElem? (i := 1136) (by decide +kernel), List.mem_of_getElem? (i := 1137) (by decide +kernel)⟩
theorem lw_p54 : lw_okq (⟨"OneSunbeam", "leastDustByHalves", "(IIII)I"⟩, 16) := ⟨⟨by decide +kernel, by decide +kernel⟩, List.mem_of_getElem? (i := 21) (by decide +kernel), List.mem_of_getElem? (i := 1140) (by decide +kernel), List.mem_of_getElem? (i := 1141) (by decide +kernel)⟩
theorem lw_p55 : lw_okq (⟨"OneSunbeam", "countOfTown", "(I)I"⟩, 16) := ⟨⟨by decide +kernel, by decide +kernel⟩, List.mem_of_getElem? (i := 21) (by decide +kernel), List.mem_of_getElem? (i := 1161) (by decide +kernel), List.mem_of_getElem? (i := 1162) (by decide +kernel)⟩
theorem lw_p56 : lw_okq (⟨"OneSunbeamModel", "isArea", "(IIII)Z"⟩, 80) := ⟨⟨by decide +kernel, by decide +kernel⟩, List.mem_of_getElem? (i := 1173) (by decide +kernel), List.mem_of_getElem? (i := 1434) (by decide +kernel), List.mem_of_getElem? (i := 1435) (by decide +kernel)⟩
theorem lw_p57 : lw_okq (⟨"OneSunbeamModel", "isCell", "(II)Z"⟩, 80) := ⟨⟨by decide +kernel, by decide +kernel⟩, List.mem_of_getElem? (i := 1173) (by decide +kernel), List.mem_of_getElem? (i := 1438) (by decide +kernel), List.mem_of_getElem? (i := 1439) (by decide +kernel)⟩
theorem lw_p58 : lw_okq (⟨"OneSunbeamModel", "isTown", "()Z"⟩, 80) := ⟨⟨by decide +kernel, by decide +kernel⟩, List.mem_of_getElem? (i := 1173) (by decide +kernel), List.mem_of_getElem? (i := 1442) (by decide +kernel), List.mem_of_getElem? (i := 1443) (by decide +kernel)⟩
theorem lw_p59 : lw_okq (⟨"OneSunbeamModel", "isMirror", "(I)Z"⟩, 80) := ⟨⟨by decide +kernel, by decide +kernel⟩, List.mem_of_getElem? (i := 1173) (by decide +kernel), List.mem_of_getElem? (i := 1463) (by decide +kernel), List.mem_of_getElem? (i := 1464) (by decide +kernel)⟩
theorem lw_p60 : lw_okq (⟨"OneSunbeamModel", "put", "(I)V"⟩, 80) := ⟨⟨by decide +kernel, by decide +kernel⟩, List.mem_of_getElem? (i := 1173) (by decide +kernel), List.mem_of_getElem? (i := 1491) (by decide +kernel), List.mem_of_getElem? (i := 1492) (by decide +kernel)⟩
theorem lw_p61 : lw_okq (⟨"OneSunbeamModel", "clause", "(I)V"⟩, 80) := ⟨⟨by decide +kernel, by decide +kernel⟩, List.mem_of_getElem? (i := 1173) (by decide +kernel), List.mem_of_getElem? (i := 1503) (by decide +kernel), List.mem_of_getElem? (i := 1504) (by decide +kernel)⟩
theorem lw_p62 : lw_okq (⟨"OneSunbeamModel", "blanks", "()V"⟩, 80) := ⟨⟨by decide +kernel, by decide +kernel⟩, List.mem_of_getElem? (i := 1173) (by decide +kernel), List.mem_of_getElem? (i := 1507) (by decide +kernel), List.mem_of_getElem? (i := 1508) (by decide +kernel)⟩
theorem lw_p63 : lw_okq (⟨"OneSunbeamModel", "sign", "()I"⟩, 80) := ⟨⟨by decide +kernel, by decide +kernel⟩, List.mem_of_getElem? (i := 1173) (by decide +kernel), List.mem_of_getElem? (i := 1511) (by decide +kernel), List.mem_of_getElem? (i := 1512) (by decide +kernel)⟩
def lw_privs_4 : List (MethodName × Nat) := [(⟨"OneSunbeam$Theft", "walk", "(LOneSunbeam$Town;I)V"⟩, 6), (⟨"OneSunbeam$Theft", "meet", "(II)I"⟩, 6), (⟨"OneSunbeam$Theft", "isExplainedBehind", "(LOneSunbeam$Town;II)Z"⟩, 6), (⟨"OneSunbeam", "leastDust", "(IIII)I"⟩, 16), (⟨"OneSunbeam", "getWithDust", "(IIII)I"⟩, 16), (⟨"OneSunbeam", "leastDustOneByOne", "(IIII)I"⟩, 16), (⟨"OneSunbeam", "leastDustByHalves", "(IIII)I"⟩, 16), (⟨"OneSunbeam", "countOfTown", "(I)I"⟩, 16), (⟨"OneSunbeamModel", "isArea", "(IIII)Z"⟩, 80), (⟨"OneSunbeamModel", "isCell", "(II)Z"⟩, 80), (⟨"OneSunbeamModel", "isTown", "()Z"⟩, 80), (⟨"OneSunbeamModel", "isMirror", "(I)Z"⟩, 80), (⟨"OneSunbeamModel", "put", "(I)V"⟩, 80), (⟨"OneSunbeamModel", "clause", "(I)V"⟩, 80), (⟨"OneSunbeamModel", "blanks", "()V"⟩, 80), (⟨"OneSunbeamModel", "sign", "()I"⟩, 80)]
theorem lw_r4 : ∀ q ∈ lw_privs_4, lw_okq q := List.forall_mem_cons.mpr ⟨lw_p48, List.forall_mem_cons.mpr ⟨lw_p49, List.forall_mem_cons.mpr ⟨lw_p50, List.forall_mem_cons.mpr ⟨lw_p51, List.forall_mem_cons.mpr ⟨lw_p52, List.forall_mem_cons.mpr ⟨lw_p53, List.forall_mem_cons.mpr ⟨lw_p54, List.forall_mem_cons.mpr ⟨lw_p55, List.forall_mem_cons.mpr ⟨lw_p56, List.forall_mem_cons.mpr ⟨lw_p57, List.forall_mem_cons.mpr ⟨lw_p58, List.forall_mem_cons.mpr ⟨lw_p59, List.forall_mem_cons.mpr ⟨lw_p60, List.forall_mem_cons.mpr ⟨lw_p61, List.forall_mem_cons.mpr ⟨lw_p62, List.forall_mem_cons.mpr ⟨lw_p63, fun _ h => absurd h List.not_mem_nil⟩⟩⟩⟩⟩⟩⟩⟩⟩⟩⟩⟩⟩⟩⟩⟩
theorem lw_p64 : lw_okq (⟨"OneSunbeamModel", "stands", "(Ljava/lang/String;)Z"⟩, 80) := ⟨⟨by decide +kernel, by decide +kernel⟩, List.mem_of_getElem? (i := 1173) (by decide +kernel), List.mem_of_getElem? (i := 1516) (by decide +kernel), List.mem_of_getElem? (i := 1517) (by decide +kernel)⟩
theorem lw_p65 : lw_okq (⟨"OneSunbeamModel", "fails", "(II)V"⟩, 80) := ⟨⟨by decide +kernel, by decide +kernel⟩, List.mem_of_getElem? (i := 1173) (by decide +kernel), List.mem_of_getElem? (i := 1522) (by decide +kernel), List.mem_of_getElem? (i := 1523) (by decide +kernel)⟩
theorem lw_p66 : lw_okq (⟨"OneSunbeamModel", "digits", "(I)I"⟩, 80) := ⟨⟨by decide +kernel, by decide +kernel⟩, List.mem_of_getElem? (i := 1173) (by decide +kernel), List.mem_of_getElem? (i := 1526) (by decide +kernel), List.mem_of_getElem? (i := 1527) (by decide +kernel)⟩
theorem lw_p67 : lw_okq (⟨"OneSunbeamModel", "isDigit", "()Z"⟩, 80) := ⟨⟨by decide +kernel, by decide +kernel⟩, List.mem_of_getElem? (i := 1173) (by decide +kernel), List.mem_of_getElem? (i := 1530) (by decide +kernel), List.mem_of_getElem? (i := 1531) (by decide +kernel)⟩
theorem lw_p68 : lw_okq (⟨"OneSunbeamModel", "sum", "()V"⟩, 80) := ⟨⟨by decide +kernel, by decide +kernel⟩, List.mem_of_getElem? (i := 1173) (by decide +kernel), List.mem_of_getElem? (i := 1536) (by decide +kernel), List.mem_of_getElem? (i := 1537) (by decide +kernel)⟩
theorem lw_p69 : lw_okq (⟨"OneSunbeamModel", "term", "()V"⟩, 80) := ⟨⟨by decide +kernel, by decide +kernel⟩, List.mem_of_getElem? (i := 1173) (by decide +kernel), List.mem_of_getElem? (i := 1540) (by decide +kernel), List.mem_of_getElem? (i := 1541) (by decide +kernel)⟩
theorem lw_p70 : lw_okq (⟨"OneSunbeamModel", "value", "()V"⟩, 80) := ⟨⟨by decide +kernel, by decide +kernel⟩, List.mem_of_getElem? (i := 1173) (by decide +kernel), List.mem_of_getElem? (i := 1544) (by decide +kernel), List.mem_of_getElem? (i := 1545) (by decide +kernel)⟩
theorem lw_p71 : lw_okq (⟨"OneSunbeamModel", "isCounted", "(I)V"⟩, 80) := ⟨⟨by decide +kernel, by decide +kernel⟩, List.mem_of_getElem? (i := 1173) (by decide +kernel), List.mem_of_getElem? (i := 1549) (by decide +kernel), List.mem_of_getElem? (i := 1550) (by decide +kernel)⟩
theorem lw_p72 : lw_okq (⟨"OneSunbeamModel", "entry", "(II)V"⟩, 80) := ⟨⟨by decide +kernel, by decide +kernel⟩, List.mem_of_getElem? (i := 1173) (by decide +kernel), List.mem_of_getElem? (i := 1553) (by decide +kernel), List.mem_of_getElem? (i := 1554) (by decide +kernel)⟩
theorem lw_p73 : lw_okq (⟨"OneSunbeamModel", "takes", "(Ljava/lang/String;)Z"⟩, 80) := ⟨⟨by decide +kernel, by decide +kernel⟩, List.mem_of_getElem? (i := 1173) (by decide +kernel), List.mem_of_getElem? (i := 1574) (by decide +kernel), List.mem_of_getElem? (i := 1575) (by decide +kernel)⟩
theorem lw_p74 : lw_okq (⟨"OneSunbeamModel", "test", "()V"⟩, 80) := ⟨⟨by decide +kernel, by decide +kernel⟩, List.mem_of_getElem? (i := 1173) (by decide +kernel), List.mem_of_getElem? (i := 1578) (by decide +kernel), List.mem_of_getElem? (i := 1579) (by decide +kernel)⟩
theorem lw_p75 : lw_okq (⟨"OneSunbeamModel", "fact", "()Z"⟩, 80) := ⟨⟨by decide +kernel, by decide +kernel⟩, List.mem_of_getElem? (i := 1173) (by decide +kernel), List.mem_of_getElem? (i := 1582) (by decide +kernel), List.mem_of_getElem? (i := 1583) (by decide +kernel)⟩
theorem lw_p76 : lw_okq (⟨"OneSunbeamModel", "opens", "(I)V"⟩, 80) := ⟨⟨by decide +kernel, by decide +kernel⟩, List.mem_of_getElem? (i := 1173) (by decide +kernel), List.mem_of_getElem? (i := 1587) (by decide +kernel), List.mem_of_getElem? (i := 1588) (by decide +kernel)⟩
theorem lw_p77 : lw_okq (⟨"OneSunbeamModel", "compared", "()V"⟩, 80) := ⟨⟨by decide +kernel, by decide +kernel⟩, List.mem_of_getElem? (i := 1173) (by decide +kernel), List.mem_of_getElem? (i := 1591) (by decide +kernel), List.mem_of_getElem? (i := 1592) (by decide +kernel)⟩
theorem lw_p78 : lw_okq (⟨"OneSunbeamModel", "answers", "(I)V"⟩, 80) := ⟨⟨by decide +kernel, by decide +kernel⟩, List.mem_of_getElem? (i := 1173) (by decide +kernel), List.mem_of_getElem? (i := 1595) (by decide +kernel), List.mem_of_getElem? (i := 1596) (by decide +kernel)⟩
theorem lw_p79 : lw_okq (⟨"OneSunbeamModel", "top", "()I"⟩, 80) := ⟨⟨by decide +kernel, by decide +kernel⟩, List.mem_of_getElem? (i := 1173) (by decide +kernel), List.mem_of_getElem? (i := 1599) (by decide +kernel), List.mem_of_getElem? (i := 1600) (by decide +kernel)⟩
def lw_privs_5 : List (MethodName × Nat) := [(⟨"OneSunbeamModel", "stands", "(Ljava/lang/String;)Z"⟩, 80), (⟨"OneSunbeamModel", "fails", "(II)V"⟩, 80), (⟨"OneSunbeamModel", "digits", "(I)I"⟩, 80), (⟨"OneSunbeamModel", "isDigit", "()Z"⟩, 80), (⟨"OneSunbeamModel", "sum", "()V"⟩, 80), (⟨"OneSunbeamModel", "term", "()V"⟩, 80), (⟨"OneSunbeamModel", "value", "()V"⟩, 80), (⟨"OneSunbeamModel", "isCounted", "(I)V"⟩, 80), (⟨"OneSunbeamModel", "entry", "(II)V"⟩, 80), (⟨"OneSunbeamModel", "takes", "(Ljava/lang/String;)Z"⟩, 80), (⟨"OneSunbeamModel", "test", "()V"⟩, 80), (⟨"OneSunbeamModel", "fact", "()Z"⟩, 80), (⟨"OneSunbeamModel", "opens", "(I)V"⟩, 80), (⟨"OneSunbeamModel", "compared", "()V"⟩, 80), (⟨"OneSunbeamModel", "answers", "(I)V"⟩, 80), (⟨"OneSunbeamModel", "top", "()I"⟩, 80)]
theorem lw_r5 : ∀ q ∈ lw_privs_5, lw_okq q := List.forall_mem_cons.mpr ⟨lw_p64, List.forall_mem_cons.mpr ⟨lw_p65, List.forall_mem_cons.mpr ⟨lw_p66, List.forall_mem_cons.mpr ⟨lw_p67, List.forall_mem_cons.mpr ⟨lw_p68, List.forall_mem_cons.mpr ⟨lw_p69, List.forall_mem_cons.mpr ⟨lw_p70, List.forall_mem_cons.mpr ⟨lw_p71, List.forall_mem_cons.mpr ⟨lw_p72, List.forall_mem_cons.mpr ⟨lw_p73, List.forall_mem_cons.mpr ⟨lw_p74, List.forall_mem_cons.mpr ⟨lw_p75, List.forall_mem_cons.mpr ⟨lw_p76, List.forall_mem_cons.mpr ⟨lw_p77, List.forall_mem_cons.mpr ⟨lw_p78, List.forall_mem_cons.mpr ⟨lw_p79, fun _ h => absurd h List.not_mem_nil⟩⟩⟩⟩⟩⟩⟩⟩⟩⟩⟩⟩⟩⟩⟩⟩
theorem lw_p80 : lw_okq (⟨"OneSunbeamModel", "isLaw", "(I)Z"⟩, 80) := ⟨⟨by decide +kernel, by decide +kernel⟩, List.mem_of_getElem? (i := 1173) (by decide +kernel), List.mem_of_getElem? (i := 1609) (by decide +kernel), List.mem_of_getElem? (i := 1610) (by decide +kernel)⟩
theorem lw_p81 : lw_okq (⟨"OneSunbeamModel", "goesDay", "(I)V"⟩, 80) := ⟨⟨by decide +kernel, by decide +kernel⟩, List.mem_of_getElem? (i := 1173) (by decide +kernel), List.mem_of_getElem? (i := 1614) (by decide +kernel), List.mem_of_getElem? (i := 1615) (by decide +kernel)⟩
theorem lw_p82 : lw_okq (⟨"OneSunbeamModel", "turns", "(III)V"⟩, 80) := ⟨⟨by decide +kernel, by decide +kernel⟩, List.mem_of_getElem? (i := 1173) (by decide +kernel), List.mem_of_getElem? (i := 1618) (by decide +kernel), List.mem_of_getElem? (i := 1619) (by decide +kernel)⟩
theorem lw_p83 : lw_okq (⟨"OneSunbeamModel", "asks", "(II)V"⟩, 80) := ⟨⟨by decide +kernel, by decide +kernel⟩, List.mem_of_getElem? (i := 1173) (by decide +kernel), List.mem_of_getElem? (i := 1622) (by decide +kernel), List.mem_of_getElem? (i := 1623) (by decide +kernel)⟩
theorem lw_p84 : lw_okq (⟨"OneSunbeamModel", "sunOf", "(I)I"⟩, 80) := ⟨⟨by decide +kernel, by decide +kernel⟩, List.mem_of_getElem? (i := 1173) (by decide +kernel), List.mem_of_getElem? (i := 1626) (by decide +kernel), List.mem_of_getElem? (i := 1627) (by decide +kernel)⟩
theorem lw_p85 : lw_okq (⟨"OneSunbeamModel", "answer", "(III)J"⟩, 80) := ⟨⟨by decide +kernel, by decide +kernel⟩, List.mem_of_getElem? (i := 1173) (by decide +kernel), List.mem_of_getElem? (i := 1631) (by decide +kernel), List.mem_of_getElem? (i := 1632) (by decide +kernel)⟩
theorem lw_p86 : lw_okq (⟨"OneSunbeamModel", "shines", "(I)V"⟩, 80) := ⟨⟨by decide +kernel, by decide +kernel⟩, List.mem_of_getElem? (i := 1173) (by decide +kernel), List.mem_of_getElem? (i := 1641) (by decide +kernel), List.mem_of_getElem? (i := 1642) (by decide +kernel)⟩
theorem lw_p87 : lw_okq (⟨"OneSunbeamModel", "traces", "(III)V"⟩, 80) := ⟨⟨by decide +kernel, by decide +kernel⟩, List.mem_of_getElem? (i := 1173) (by decide +kernel), List.mem_of_getElem? (i := 1645) (by decide +kernel), List.mem_of_getElem? (i := 1646) (by decide +kernel)⟩
theorem lw_p88 : lw_okq (⟨"OneSunbeamModel", "goes", "(IIII)V"⟩, 80) := ⟨⟨by decide +kernel, by decide +kernel⟩, List.mem_of_getElem? (i := 1173) (by decide +kernel), List.mem_of_getElem? (i := 1649) (by decide +kernel), List.mem_of_getElem? (i := 1650) (by decide +kernel)⟩
theorem lw_p89 : lw_okq (⟨"OneSunbeamModel", "yardOf", "(II)I"⟩, 80) := ⟨⟨by decide +kernel, by decide +kernel⟩, List.mem_of_getElem? (i := 1173) (by decide +kernel), List.mem_of_getElem? (i := 1653) (by decide +kernel), List.mem_of_getElem? (i := 1654) (by decide +kernel)⟩
theorem lw_p90 : lw_okq (⟨"OneSunbeamModel", "told", "(II)I"⟩, 80) := ⟨⟨by decide +kernel, by decide +kernel⟩, List.mem_of_getElem? (i := 1173) (by decide +kernel), List.mem_of_getElem? (i := 1657) (by decide +kernel), List.mem_of_getElem? (i := 1658) (by decide +kernel)⟩
theorem lw_p91 : lw_okq (⟨"OneSunbeamModel", "waitsFor", "(IIII)V"⟩, 80) := ⟨⟨by decide +kernel, by decide +kernel⟩, List.mem_of_getElem? (i := 1173) (by decide +kernel), List.mem_of_getElem? (i := 1667) (by decide +kernel), List.mem_of_getElem? (i := 1668) (by decide +kernel)⟩
theorem lw_p92 : lw_okq (⟨"OneSunbeamModel", "blindCells", "()I"⟩, 80) := ⟨⟨by decide +kernel, by decide +kernel⟩, List.mem_of_getElem? (i := 1173) (by decide +kernel), List.mem_of_getElem? (i := 1671) (by decide +kernel), List.mem_of_getElem? (i := 1672) (by decide +kernel)⟩
theorem lw_p93 : lw_okq (⟨"OneSunbeamModel", "met", "()I"⟩, 80) := ⟨⟨by decide +kernel, by decide +kernel⟩, List.mem_of_getElem? (i := 1173) (by decide +kernel), List.mem_of_getElem? (i := 1675) (by decide +kernel), List.mem_of_getElem? (i := 1676) (by decide +kernel)⟩
theorem lw_p94 : lw_okq (⟨"OneSunbeamModel", "isYard", "(I)Z"⟩, 80) := ⟨⟨by decide +kernel, by decide +kernel⟩, List.mem_of_getElem? (i := 1173) (by decide +kernel), List.mem_of_getElem? (i := 1687) (by decide +kernel), List.mem_of_getElem? (i := 1688) (by decide +kernel)⟩
theorem lw_p95 : lw_okq (⟨"OneSunbeamModel", "isBright", "(I)Z"⟩, 80) := ⟨⟨by decide +kernel, by decide +kernel⟩, List.mem_of_getElem? (i := 1173) (by decide +kernel), List.mem_of_getElem? (i := 1699) (by decide +kernel), List.mem_of_getElem? (i := 1700) (by decide +kernel)⟩
def lw_privs_6 : List (MethodName × Nat) := [(⟨"OneSunbeamModel", "isLaw", "(I)Z"⟩, 80), (⟨"OneSunbeamModel", "goesDay", "(I)V"⟩, 80), (⟨"OneSunbeamModel", "turns", "(III)V"⟩, 80), (⟨"OneSunbeamModel", "asks", "(II)V"⟩, 80), (⟨"OneSunbeamModel", "sunOf", "(I)I"⟩, 80), (⟨"OneSunbeamModel", "answer", "(III)J"⟩, 80), (⟨"OneSunbeamModel", "shines", "(I)V"⟩, 80), (⟨"OneSunbeamModel", "traces", "(III)V"⟩, 80), (⟨"OneSunbeamModel", "goes", "(IIII)V"⟩, 80), (⟨"OneSunbeamModel", "yardOf", "(II)I"⟩, 80), (⟨"OneSunbeamModel", "told", "(II)I"⟩, 80), (⟨"OneSunbeamModel", "waitsFor", "(IIII)V"⟩, 80), (⟨"OneSunbeamModel", "blindCells", "()I"⟩, 80), (⟨"OneSunbeamModel", "met", "()I"⟩, 80), (⟨"OneSunbeamModel", "isYard", "(I)Z"⟩, 80), (⟨"OneSunbeamModel", "isBright", "(I)Z"⟩, 80)]
theorem lw_r6 : ∀ q ∈ lw_privs_6, lw_okq q := List.forall_mem_cons.mpr ⟨lw_p80, List.forall_mem_cons.mpr ⟨lw_p81, List.forall_mem_cons.mpr ⟨lw_p82, List.forall_mem_cons.mpr ⟨lw_p83, List.forall_mem_cons.mpr ⟨lw_p84, List.forall_mem_cons.mpr ⟨lw_p85, List.forall_mem_cons.mpr ⟨lw_p86, List.forall_mem_cons.mpr ⟨lw_p87, List.forall_mem_cons.mpr ⟨lw_p88, List.forall_mem_cons.mpr ⟨lw_p89, List.forall_mem_cons.mpr ⟨lw_p90, List.forall_mem_cons.mpr ⟨lw_p91, List.forall_mem_cons.mpr ⟨lw_p92, List.forall_mem_cons.mpr ⟨lw_p93, List.forall_mem_cons.mpr ⟨lw_p94, List.forall_mem_cons.mpr ⟨lw_p95, fun _ h => absurd h List.not_mem_nil⟩⟩⟩⟩⟩⟩⟩⟩⟩⟩⟩⟩⟩⟩⟩⟩
theorem lw_p96 : lw_okq (⟨"OneSunbeamModel", "allGot", "()I"⟩, 80) := ⟨⟨by decide +kernel, by decide +kernel⟩, List.mem_of_getElem? (i := 1173) (by decide +kernel), List.mem_of_getElem? (i := 1708) (by decide +kernel), List.mem_of_getElem? (i := 1709) (by decide +kernel)⟩
theorem lw_p97 : lw_okq (⟨"OneSunbeamModel", "firstBlind", "()I"⟩, 80) := ⟨⟨by decide +kernel, by decide +kernel⟩, List.mem_of_getElem? (i := 1173) (by decide +kernel), List.mem_of_getElem? (i := 1712) (by decide +kernel), List.mem_of_getElem? (i := 1713) (by decide +kernel)⟩
theorem lw_p98 : lw_okq (⟨"OneSunbeamModel", "isSet", "(I)Z"⟩, 80) := ⟨⟨by decide +kernel, by decide +kernel⟩, List.mem_of_getElem? (i := 1173) (by decide +kernel), List.mem_of_getElem? (i := 1740) (by decide +kernel), List.mem_of_getElem? (i := 1741) (by decide +kernel)⟩
theorem lw_p99 : lw_okq (⟨"OneSunbeamModel", "searches", "(III)I"⟩, 80) := ⟨⟨by decide +kernel, by decide +kernel⟩, List.mem_of_getElem? (i := 1173) (by decide +kernel), List.mem_of_getElem? (i := 1747) (by decide +kernel), List.mem_of_getElem? (i := 1748) (by decide +kernel)⟩
theorem lw_p100 : lw_okq (⟨"OneSunbeamModel", "fairest", "()I"⟩, 80) := ⟨⟨by decide +kernel, by decide +kernel⟩, List.mem_of_getElem? (i := 1173) (by decide +kernel), List.mem_of_getElem? (i := 1754) (by decide +kernel), List.mem_of_getElem? (i := 1755) (by decide +kernel)⟩
theorem lw_p101 : lw_okq (⟨"OneSunbeamModel", "isMended", "(IIIII)V"⟩, 80) := ⟨⟨by decide +kernel, by decide +kernel⟩, List.mem_of_getElem? (i := 1173) (by decide +kernel), List.mem_of_getElem? (i := 1766) (by decide +kernel), List.mem_of_getElem? (i := 1767) (by decide +kernel)⟩
theorem lw_p102 : lw_okq (⟨"OneSunbeamModel", "isHalf", "(I)Z"⟩, 80) := ⟨⟨by decide +kernel, by decide +kernel⟩, List.mem_of_getElem? (i := 1173) (by decide +kernel), List.mem_of_getElem? (i := 1770) (by decide +kernel), List.mem_of_getElem? (i := 1771) (by decide +kernel)⟩
theorem lw_p103 : lw_okq (⟨"OneSunbeamModel", "mendsOne", "(I)Z"⟩, 80) := ⟨⟨by decide +kernel, by decide +kernel⟩, List.mem_of_getElem? (i := 1173) (by decide +kernel), List.mem_of_getElem? (i := 1774) (by decide +kernel), List.mem_of_getElem? (i := 1775) (by decide +kernel)⟩
theorem lw_p104 : lw_okq (⟨"OneSunbeamModel", "mendsTwo", "(I)Z"⟩, 80) := ⟨⟨by decide +kernel, by decide +kernel⟩, List.mem_of_getElem? (i := 1173) (by decide +kernel), List.mem_of_getElem? (i := 1778) (by decide +kernel), List.mem_of_getElem? (i := 1779) (by decide +kernel)⟩
theorem lw_p105 : lw_okq (⟨"OneSunbeamModel", "mendsPair", "(III)Z"⟩, 80) := ⟨⟨by decide +kernel, by decide +kernel⟩, List.mem_of_getElem? (i := 1173) (by decide +kernel), List.mem_of_getElem? (i := 1782) (by decide +kernel), List.mem_of_getElem? (i := 1783) (by decide +kernel)⟩
theorem lw_p106 : lw_okq (⟨"OneSunbeamModel", "follows", "(I)V"⟩, 80) := ⟨⟨by decide +kernel, by decide +kernel⟩, List.mem_of_getElem? (i := 1173) (by decide +kernel), List.mem_of_getElem? (i := 1795) (by decide +kernel), List.mem_of_getElem? (i := 1796) (by decide +kernel)⟩
theorem lw_p107 : lw_okq (⟨"OneSunbeamModel", "keeps", "()V"⟩, 80) := ⟨⟨by decide +kernel, by decide +kernel⟩, List.mem_of_getElem? (i := 1173) (by decide +kernel), List.mem_of_getElem? (i := 1807) (by decide +kernel), List.mem_of_getElem? (i := 1808) (by decide +kernel)⟩
theorem lw_p108 : lw_okq (⟨"OneSunbeamModel", "putsBack", "()V"⟩, 80) := ⟨⟨by decide +kernel, by decide +kernel⟩, List.mem_of_getElem? (i := 1173) (by decide +kernel), List.mem_of_getElem? (i := 1811) (by decide +kernel), List.mem_of_getElem? (i := 1812) (by decide +kernel)⟩
theorem lw_p109 : lw_okq (⟨"OneSunbeamModel", "carriesAll", "(IZ)V"⟩, 80) := ⟨⟨by decide +kernel, by decide +kernel⟩, List.mem_of_getElem? (i := 1173) (by decide +kernel), List.mem_of_getElem? (i := 1829) (by decide +kernel), List.mem_of_getElem? (i := 1830) (by decide +kernel)⟩
theorem lw_p110 : lw_okq (⟨"OneSunbeamModel", "carry", "([I)V"⟩, 80) := ⟨⟨by decide +kernel, by decide +kernel⟩, List.mem_of_getElem? (i := 1173) (by decide +kernel), List.mem_of_getElem? (i := 1833) (by decide +kernel), List.mem_of_getElem? (i := 1834) (by decide +kernel)⟩
def lw_privs_7 : List (MethodName × Nat) := [(⟨"OneSunbeamModel", "allGot", "()I"⟩, 80), (⟨"OneSunbeamModel", "firstBlind", "()I"⟩, 80), (⟨"OneSunbeamModel", "isSet", "(I)Z"⟩, 80), (⟨"OneSunbeamModel", "searches", "(III)I"⟩, 80), (⟨"OneSunbeamModel", "fairest", "()I"⟩, 80), (⟨"OneSunbeamModel", "isMended", "(IIIII)V"⟩, 80), (⟨"OneSunbeamModel", "isHalf", "(I)Z"⟩, 80), (⟨"OneSunbeamModel", "mendsOne", "(I)Z"⟩, 80), (⟨"OneSunbeamModel", "mendsTwo", "(I)Z"⟩, 80), (⟨"OneSunbeamModel", "mendsPair", "(III)Z"⟩, 80), (⟨"OneSunbeamModel", "follows", "(I)V"⟩, 80), (⟨"OneSunbeamModel", "keeps", "()V"⟩, 80), (⟨"OneSunbeamModel", "putsBack", "()V"⟩, 80), (⟨"OneSunbeamModel", "carriesAll", "(IZ)V"⟩, 80), (⟨"OneSunbeamModel", "carry", "([I)V"⟩, 80)]
theorem lw_r7 : ∀ q ∈ lw_privs_7, lw_okq q := List.forall_mem_cons.mpr ⟨lw_p96, List.forall_mem_cons.mpr ⟨lw_p97, List.forall_mem_cons.mpr ⟨lw_p98, List.forall_mem_cons.mpr ⟨lw_p99, List.forall_mem_cons.mpr ⟨lw_p100, List.forall_mem_cons.mpr ⟨lw_p101, List.forall_mem_cons.mpr ⟨lw_p102, List.forall_mem_cons.mpr ⟨lw_p103, List.forall_mem_cons.mpr ⟨lw_p104, List.forall_mem_cons.mpr ⟨lw_p105, List.forall_mem_cons.mpr ⟨lw_p106, List.forall_mem_cons.mpr ⟨lw_p107, List.forall_mem_cons.mpr ⟨lw_p108, List.forall_mem_cons.mpr ⟨lw_p109, List.forall_mem_cons.mpr ⟨lw_p110, fun _ h => absurd h List.not_mem_nil⟩⟩⟩⟩⟩⟩⟩⟩⟩⟩⟩⟩⟩⟩⟩
def lw_privs : List (MethodName × Nat) := lw_privs_1 ++ (lw_privs_2 ++ (lw_privs_3 ++ (lw_privs_4 ++ (lw_privs_5 ++ (lw_privs_6 ++ (lw_privs_7))))))
def lw_tbl : List Cond := k2_sels lw_privs ++ tables_1
theorem lw_privs_ok : ∀ q ∈ lw_privs, lw_okq q := by
  show ∀ q ∈ lw_privs_1 ++ (lw_privs_2 ++ (lw_privs_3 ++ (lw_privs_4 ++ (lw_privs_5 ++ (lw_privs_6 ++ (lw_privs_7)))))), lw_okq q
  exact List.forall_mem_append.mpr ⟨lw_r1, List.forall_mem_append.mpr ⟨lw_r2, List.forall_mem_append.mpr ⟨lw_r3, List.forall_mem_append.mpr ⟨lw_r4, List.forall_mem_append.mpr ⟨lw_r5, List.forall_mem_append.mpr ⟨lw_r6, lw_r7⟩⟩⟩⟩⟩⟩

def RX0 : String := "OneSunbeam$Aiming"
def TX0 : u_T := fun k => match k with
  | 0 => ("OneSunbeam$Aiming", "beams", "LOneSunbeam$Beams;", true)
  | 1 => ("OneSunbeam$Aiming", "members", "[I", true)
  | 2 => ("OneSunbeam$Aiming", "before", "[I", true)
  | 3 => ("OneSunbeam$Aiming", "tried", "[I", true)
  | 4 => ("OneSunbeam$Aiming", "best", "[I", true)
  | 5 => ("OneSunbeam$Aiming", "size", "I", false)
  | _ => ("OneSunbeam$Aiming", "most", "I", false)
def tyX0 : Nat → FieldType := fun k => match k with
  | 0 => .object "OneSunbeam$Beams"
  | 1 => .array .int
  | 2 => .array .int
  | 3 => .array .int
  | 4 => .array .int
  | 5 => .int
  | _ => .int
theorem nmX0 : ∀ a, a < 7 → ∀ b, b < 7 → a ≠ b → (TX0 a).2.1 ≠ (TX0 b).2.1 := by decide +kernel
theorem tyX0_ok : ∀ k, k < 7 → parseFieldDescriptor (TX0 k).2.2.1 = some (tyX0 k) := by decide +kernel
abbrev cX0_init : ByteArray := prog_2_method_1_code
def yX0_init : MethodName := ⟨RX0, "<init>", "(LOneSunbeam$Beams;)V"⟩
abbrev cX0_answer : ByteArray := prog_2_method_2_code
def yX0_answer : MethodName := ⟨RX0, "answer", "(I)I"⟩
abbrev cX0_search : ByteArray := prog_2_method_3_code
def yX0_search : MethodName := ⟨RX0, "search", "(LOneSunbeam$Town;III)V"⟩
abbrev cX0_gather : ByteArray := prog_2_method_4_code
def yX0_gather : MethodName := ⟨RX0, "gather", "(LOneSunbeam$Town;I)V"⟩
abbrev cX0_putSlants : ByteArray := prog_2_method_5_code
def yX0_putSlants : MethodName := ⟨RX0, "putSlants", "(LOneSunbeam$Town;[I)V"⟩
abbrev cX0_lastTouched : ByteArray := prog_2_method_6_code
def yX0_lastTouched : MethodName := ⟨RX0, "lastTouched", "()I"⟩
abbrev cX0_goOn : ByteArray := prog_2_method_7_code
def yX0_goOn : MethodName := ⟨RX0, "goOn", "(I)Z"⟩
abbrev cX0_leastGot : ByteArray := prog_2_method_8_code
def yX0_leastGot : MethodName := ⟨RX0, "leastGot", "(LOneSunbeam$Town;)I"⟩
def RX1 : String := "OneSunbeam$Beams"
def TX1 : u_T := fun k => match k with
  | 0 => ("OneSunbeam$Beams", "got", "[I", true)
  | 1 => ("OneSunbeam$Beams", "passed", "[I", true)
  | 2 => ("OneSunbeam$Beams", "lost", "I", false)
  | 3 => ("OneSunbeam$Beams", "spilt", "I", false)
  | 4 => ("OneSunbeam$Beams", "cellCount", "I", false)
  | 5 => ("OneSunbeam$Beams", "beamCount", "I", false)
  | 6 => ("OneSunbeam$Beams", "isCut", "Z", false)
  | 7 => ("OneSunbeam$Beams", "touched", "I", false)
  | 8 => ("OneSunbeam$Beams", "isWatching", "Z", false)
  | 9 => ("OneSunbeam$Beams", "waitingFrom", "[I", true)
  | 10 => ("OneSunbeam$Beams", "waitingLight", "[I", true)
  | 11 => ("OneSunbeam$Beams", "waitingHead", "I", false)
  | _ => ("OneSunbeam$Beams", "waitingCount", "I", false)
def tyX1 : Nat → FieldType := fun k => match k with
  | 0 => .array .int
  | 1 => .array .int
  | 2 => .int
  | 3 => .int
  | 4 => .int
  | 5 => .int
  | 6 => .boolean
  | 7 => .int
  | 8 => .boolean
  | 9 => .array .int
  | 10 => .array .int
  | 11 => .int
  | _ => .int
theorem nmX1 : ∀ a, a < 13 → ∀ b, b < 13 → a ≠ b → (TX1 a).2.1 ≠ (TX1 b).2.1 := by decide +kernel
theorem tyX1_ok : ∀ k, k < 13 → parseFieldDescriptor (TX1 k).2.2.1 = some (tyX1 k) := by decide +kernel
abbrev cX1_init : ByteArray := prog_3_method_1_code
def yX1_init : MethodName := ⟨RX1, "<init>", "()V"⟩
abbrev cX1_shine : ByteArray := prog_3_method_2_code
def yX1_shine : MethodName := ⟨RX1, "shine", "(LOneSunbeam$Town;I)V"⟩
abbrev cX1_shineWatched : ByteArray := prog_3_method_3_code
def yX1_shineWatched : MethodName := ⟨RX1, "shineWatched", "(LOneSunbeam$Town;I)V"⟩
abbrev cX1_total : ByteArray := prog_3_method_4_code
def yX1_total : MethodName := ⟨RX1, "total", "()I"⟩
abbrev cX1_touches : ByteArray := prog_3_method_5_code
def yX1_touches : MethodName := ⟨RX1, "touches", "(I)Z"⟩
abbrev cX1_touchedSet : ByteArray := prog_3_method_6_code
def yX1_touchedSet : MethodName := ⟨RX1, "touchedSet", "()I"⟩
abbrev cX1_blindCount : ByteArray := prog_3_method_7_code
def yX1_blindCount : MethodName := ⟨RX1, "blindCount", "(LOneSunbeam$Town;)I"⟩
abbrev cX1_firstBlind : ByteArray := prog_3_method_8_code
def yX1_firstBlind : MethodName := ⟨RX1, "firstBlind", "(LOneSunbeam$Town;)I"⟩
abbrev cX1_isBlind : ByteArray := prog_3_method_9_code
def yX1_isBlind : MethodName := ⟨RX1, "isBlind", "(LOneSunbeam$Town;I)Z"⟩
abbrev cX1_clear : ByteArray := prog_3_method_10_code
def yX1_clear : MethodName := ⟨RX1, "clear", "()V"⟩
abbrev cX1_follow : ByteArray := prog_3_method_11_code
def yX1_follow : MethodName := ⟨RX1, "follow", "(LOneSunbeam$Town;IIII)V"⟩
abbrev cX1_passAir : ByteArray := prog_3_method_12_code
def yX1_passAir : MethodName := ⟨RX1, "passAir", "(LOneSunbeam$Town;II)I"⟩
abbrev cX1_passYard : ByteArray := prog_3_method_13_code
def yX1_passYard : MethodName := ⟨RX1, "passYard", "(LOneSunbeam$Town;II)I"⟩
abbrev cX1_passMirror : ByteArray := prog_3_method_14_code
def yX1_passMirror : MethodName := ⟨RX1, "passMirror", "(LOneSunbeam$Town;III)I"⟩
abbrev cX1_letWait : ByteArray := prog_3_method_15_code
def yX1_letWait : MethodName := ⟨RX1, "letWait", "(II)V"⟩
def RX2 : String := "OneSunbeam$Keepers"
def TX2 : u_T := fun k => match k with
  | 0 => ("OneSunbeam$Keepers", "beams", "LOneSunbeam$Beams;", true)
  | 1 => ("OneSunbeam$Keepers", "gotToday", "[I", true)
  | 2 => ("OneSunbeam$Keepers", "stack", "[J", true)
  | _ => ("OneSunbeam$Keepers", "hour", "I", false)
def tyX2 : Nat → FieldType := fun k => match k with
  | 0 => .object "OneSunbeam$Beams"
  | 1 => .array .int
  | 2 => .array .long
  | _ => .int
theorem nmX2 : ∀ a, a < 4 → ∀ b, b < 4 → a ≠ b → (TX2 a).2.1 ≠ (TX2 b).2.1 := by decide +kernel
theorem tyX2_ok : ∀ k, k < 4 → parseFieldDescriptor (TX2 k).2.2.1 = some (tyX2 k) := by decide +kernel
abbrev cX2_init : ByteArray := prog_4_method_1_code
def yX2_init : MethodName := ⟨RX2, "<init>", "(LOneSunbeam$Beams;)V"⟩
abbrev cX2_passDay : ByteArray := prog_4_method_2_code
def yX2_passDay : MethodName := ⟨RX2, "passDay", "(LOneSunbeam$Town;LOneSunbeam$Law;Z)I"⟩
abbrev cX2_turnMirrors : ByteArray := prog_4_method_3_code
def yX2_turnMirrors : MethodName := ⟨RX2, "turnMirrors", "(LOneSunbeam$Town;LOneSunbeam$Law;)V"⟩
abbrev cX2_addToday : ByteArray := prog_4_method_4_code
def yX2_addToday : MethodName := ⟨RX2, "addToday", "()V"⟩
abbrev cX2_holds : ByteArray := prog_4_method_5_code
def yX2_holds : MethodName := ⟨RX2, "holds", "(LOneSunbeam$Town;LOneSunbeam$Law;I)Z"⟩
abbrev cX2_valueOf : ByteArray := prog_4_method_6_code
def yX2_valueOf : MethodName := ⟨RX2, "valueOf", "(LOneSunbeam$Town;LOneSunbeam$Law;III)J"⟩
abbrev cX2_wordValue : ByteArray := prog_4_method_7_code
def yX2_wordValue : MethodName := ⟨RX2, "wordValue", "(LOneSunbeam$Town;II)J"⟩
abbrev cX2_gotByYard : ByteArray := prog_4_method_8_code
def yX2_gotByYard : MethodName := ⟨RX2, "gotByYard", "(I)J"⟩
abbrev cX2_join : ByteArray := prog_4_method_9_code
def yX2_join : MethodName := ⟨RX2, "join", "(IJJ)J"⟩
abbrev cX2_joinTruth : ByteArray := prog_4_method_10_code
def yX2_joinTruth : MethodName := ⟨RX2, "joinTruth", "(IJJ)Z"⟩
def RX3 : String := "OneSunbeam$Law"
def TX3 : u_T := fun k => match k with
  | 0 => ("OneSunbeam$Law", "code", "[I", true)
  | 1 => ("OneSunbeam$Law", "mirror", "[I", true)
  | 2 => ("OneSunbeam$Law", "sumFrom", "[I", true)
  | 3 => ("OneSunbeam$Law", "testFrom", "[I", true)
  | 4 => ("OneSunbeam$Law", "testTo", "[I", true)
  | 5 => ("OneSunbeam$Law", "clauseCount", "I", false)
  | _ => ("OneSunbeam$Law", "length", "I", false)
def tyX3 : Nat → FieldType := fun k => match k with
  | 0 => .array .int
  | 1 => .array .int
  | 2 => .array .int
  | 3 => .array .int
  | 4 => .array .int
  | 5 => .int
  | _ => .int
theorem nmX3 : ∀ a, a < 7 → ∀ b, b < 7 → a ≠ b → (TX3 a).2.1 ≠ (TX3 b).2.1 := by decide +kernel
theorem tyX3_ok : ∀ k, k < 7 → parseFieldDescriptor (TX3 k).2.2.1 = some (tyX3 k) := by decide +kernel
abbrev cX3_init : ByteArray := prog_5_method_1_code
def yX3_init : MethodName := ⟨RX3, "<init>", "()V"⟩
abbrev cX3_clear : ByteArray := prog_5_method_2_code
def yX3_clear : MethodName := ⟨RX3, "clear", "()V"⟩
abbrev cX3_add : ByteArray := prog_5_method_3_code
def yX3_add : MethodName := ⟨RX3, "add", "(I)V"⟩
abbrev cX3_beginClause : ByteArray := prog_5_method_4_code
def yX3_beginClause : MethodName := ⟨RX3, "beginClause", "(I)V"⟩
abbrev cX3_beginTest : ByteArray := prog_5_method_5_code
def yX3_beginTest : MethodName := ⟨RX3, "beginTest", "()V"⟩
abbrev cX3_endClause : ByteArray := prog_5_method_6_code
def yX3_endClause : MethodName := ⟨RX3, "endClause", "()V"⟩
def RX4 : String := "OneSunbeam$LawReader"
def TX4 : u_T := fun k => match k with
  | 0 => ("OneSunbeam$LawReader", "text", "[B", true)
  | 1 => ("OneSunbeam$LawReader", "open", "[I", true)
  | 2 => ("OneSunbeam$LawReader", "openCount", "I", false)
  | 3 => ("OneSunbeam$LawReader", "length", "I", false)
  | 4 => ("OneSunbeam$LawReader", "place", "I", false)
  | 5 => ("OneSunbeam$LawReader", "token", "I", false)
  | 6 => ("OneSunbeam$LawReader", "tokenLength", "I", false)
  | 7 => ("OneSunbeam$LawReader", "awaited", "I", false)
  | 8 => ("OneSunbeam$LawReader", "part", "I", false)
  | 9 => ("OneSunbeam$LawReader", "depth", "I", false)
  | 10 => ("OneSunbeam$LawReader", "brackets", "I", false)
  | 11 => ("OneSunbeam$LawReader", "valueCount", "I", false)
  | 12 => ("OneSunbeam$LawReader", "fault", "I", false)
  | _ => ("OneSunbeam$LawReader", "draft", "LOneSunbeam$Law;", false)
def tyX4 : Nat → FieldType := fun k => match k with
  | 0 => .array .byte
  | 1 => .array .int
  | 2 => .int
  | 3 => .int
  | 4 => .int
  | 5 => .int
  | 6 => .int
  | 7 => .int
  | 8 => .int
  | 9 => .int
  | 10 => .int
  | 11 => .int
  | 12 => .int
  | _ => .object "OneSunbeam$Law"
theorem nmX4 : ∀ a, a < 14 → ∀ b, b < 14 → a ≠ b → (TX4 a).2.1 ≠ (TX4 b).2.1 := by decide +kernel
theorem tyX4_ok : ∀ k, k < 14 → parseFieldDescriptor (TX4 k).2.2.1 = some (tyX4 k) := by decide +kernel
abbrev cX4_init : ByteArray := prog_6_method_1_code
def yX4_init : MethodName := ⟨RX4, "<init>", "()V"⟩
abbrev cX4_read : ByteArray := prog_6_method_2_code
def yX4_read : MethodName := ⟨RX4, "read", "([BILOneSunbeam$Law;)I"⟩
abbrev cX4_fail : ByteArray := prog_6_method_3_code
def yX4_fail : MethodName := ⟨RX4, "fail", "(I)V"⟩
abbrev cX4_takeToken : ByteArray := prog_6_method_4_code
def yX4_takeToken : MethodName := ⟨RX4, "takeToken", "()V"⟩
abbrev cX4_takeTurn : ByteArray := prog_6_method_5_code
def yX4_takeTurn : MethodName := ⟨RX4, "takeTurn", "()V"⟩
abbrev cX4_takeMirror : ByteArray := prog_6_method_6_code
def yX4_takeMirror : MethodName := ⟨RX4, "takeMirror", "()V"⟩
abbrev cX4_takeFact : ByteArray := prog_6_method_7_code
def yX4_takeFact : MethodName := ⟨RX4, "takeFact", "()V"⟩
abbrev cX4_takeValue : ByteArray := prog_6_method_8_code
def yX4_takeValue : MethodName := ⟨RX4, "takeValue", "()V"⟩
abbrev cX4_takeBehind : ByteArray := prog_6_method_9_code
def yX4_takeBehind : MethodName := ⟨RX4, "takeBehind", "()V"⟩
abbrev cX4_takeSign : ByteArray := prog_6_method_10_code
def yX4_takeSign : MethodName := ⟨RX4, "takeSign", "(II)V"⟩
abbrev cX4_closeBracket : ByteArray := prog_6_method_11_code
def yX4_closeBracket : MethodName := ⟨RX4, "closeBracket", "()V"⟩
abbrev cX4_takeClauseEnd : ByteArray := prog_6_method_12_code
def yX4_takeClauseEnd : MethodName := ⟨RX4, "takeClauseEnd", "()V"⟩
abbrev cX4_countsOneMore : ByteArray := prog_6_method_13_code
def yX4_countsOneMore : MethodName := ⟨RX4, "countsOneMore", "()Z"⟩
abbrev cX4_push : ByteArray := prog_6_method_14_code
def yX4_push : MethodName := ⟨RX4, "push", "(I)V"⟩
abbrev cX4_popDownTo : ByteArray := prog_6_method_15_code
def yX4_popDownTo : MethodName := ⟨RX4, "popDownTo", "(I)V"⟩
abbrev cX4_rankOf : ByteArray := prog_6_method_16_code
def yX4_rankOf : MethodName := ⟨RX4, "rankOf", "(I)I"⟩
abbrev cX4_readToken : ByteArray := prog_6_method_17_code
def yX4_readToken : MethodName := ⟨RX4, "readToken", "()V"⟩
abbrev cX4_readNumber : ByteArray := prog_6_method_18_code
def yX4_readNumber : MethodName := ⟨RX4, "readNumber", "()V"⟩
abbrev cX4_yardHere : ByteArray := prog_6_method_19_code
def yX4_yardHere : MethodName := ⟨RX4, "yardHere", "()I"⟩
abbrev cX4_wordHere : ByteArray := prog_6_method_20_code
def yX4_wordHere : MethodName := ⟨RX4, "wordHere", "()I"⟩
abbrev cX4_isWord : ByteArray := prog_6_method_21_code
def yX4_isWord : MethodName := ⟨RX4, "isWord", "(Ljava/lang/String;)Z"⟩
abbrev cX4_signHere : ByteArray := prog_6_method_22_code
def yX4_signHere : MethodName := ⟨RX4, "signHere", "()I"⟩
abbrev cX4_byteAt : ByteArray := prog_6_method_23_code
def yX4_byteAt : MethodName := ⟨RX4, "byteAt", "(I)I"⟩
abbrev cX4_isDigit : ByteArray := prog_6_method_24_code
def yX4_isDigit : MethodName := ⟨RX4, "isDigit", "(I)Z"⟩
abbrev cX4_isLetter : ByteArray := prog_6_method_25_code
def yX4_isLetter : MethodName := ⟨RX4, "isLetter", "(I)Z"⟩
def RX5 : String := "OneSunbeam$Mending"
def TX5 : u_T := fun k => match k with
  | 0 => ("OneSunbeam$Mending", "answers", "[I", true)
  | 1 => ("OneSunbeam$Mending", "town", "LOneSunbeam$Town;", true)
  | 2 => ("OneSunbeam$Mending", "beams", "LOneSunbeam$Beams;", true)
  | 3 => ("OneSunbeam$Mending", "needed", "[I", true)
  | 4 => ("OneSunbeam$Mending", "touchedWith", "[I", true)
  | 5 => ("OneSunbeam$Mending", "hour", "I", false)
  | 6 => ("OneSunbeam$Mending", "breaking", "I", false)
  | 7 => ("OneSunbeam$Mending", "brokenBefore", "I", false)
  | _ => ("OneSunbeam$Mending", "touchedNow", "I", false)
def tyX5 : Nat → FieldType := fun k => match k with
  | 0 => .array .int
  | 1 => .object "OneSunbeam$Town"
  | 2 => .object "OneSunbeam$Beams"
  | 3 => .array .int
  | 4 => .array .int
  | 5 => .int
  | 6 => .int
  | 7 => .int
  | _ => .int
theorem nmX5 : ∀ a, a < 9 → ∀ b, b < 9 → a ≠ b → (TX5 a).2.1 ≠ (TX5 b).2.1 := by decide +kernel
theorem tyX5_ok : ∀ k, k < 9 → parseFieldDescriptor (TX5 k).2.2.1 = some (tyX5 k) := by decide +kernel
abbrev cX5_init : ByteArray := prog_7_method_1_code
def yX5_init : MethodName := ⟨RX5, "<init>", "(LOneSunbeam$Town;LOneSunbeam$Beams;)V"⟩
abbrev cX5_begin : ByteArray := prog_7_method_2_code
def yX5_begin : MethodName := ⟨RX5, "begin", "(II)V"⟩
abbrev cX5_restore : ByteArray := prog_7_method_3_code
def yX5_restore : MethodName := ⟨RX5, "restore", "()V"⟩
abbrev cX5_needsNone : ByteArray := prog_7_method_4_code
def yX5_needsNone : MethodName := ⟨RX5, "needsNone", "()Z"⟩
abbrev cX5_findOne : ByteArray := prog_7_method_5_code
def yX5_findOne : MethodName := ⟨RX5, "findOne", "()Z"⟩
abbrev cX5_findTwo : ByteArray := prog_7_method_6_code
def yX5_findTwo : MethodName := ⟨RX5, "findTwo", "()V"⟩
abbrev cX5_isEnough : ByteArray := prog_7_method_7_code
def yX5_isEnough : MethodName := ⟨RX5, "isEnough", "()Z"⟩
abbrev cX5_isMendedBy : ByteArray := prog_7_method_8_code
def yX5_isMendedBy : MethodName := ⟨RX5, "isMendedBy", "(II)Z"⟩
abbrev cX5_findSlants : ByteArray := prog_7_method_9_code
def yX5_findSlants : MethodName := ⟨RX5, "findSlants", "(II)Z"⟩
abbrev cX5_doesPairMatter : ByteArray := prog_7_method_10_code
def yX5_doesPairMatter : MethodName := ⟨RX5, "doesPairMatter", "(IIII)Z"⟩
abbrev cX5_isIn : ByteArray := prog_7_method_11_code
def yX5_isIn : MethodName := ⟨RX5, "isIn", "(II)Z"⟩
def RX6 : String := "OneSunbeam$Opening"
def TX6 : u_T := fun k => match k with
  | 0 => ("OneSunbeam$Opening", "cell", "I", false)
  | 1 => ("OneSunbeam$Opening", "way", "I", false)
  | 2 => ("OneSunbeam$Opening", "most", "I", false)
  | _ => ("OneSunbeam$Opening", "beams", "LOneSunbeam$Beams;", true)
def tyX6 : Nat → FieldType := fun k => match k with
  | 0 => .int
  | 1 => .int
  | 2 => .int
  | _ => .object "OneSunbeam$Beams"
theorem nmX6 : ∀ a, a < 4 → ∀ b, b < 4 → a ≠ b → (TX6 a).2.1 ≠ (TX6 b).2.1 := by decide +kernel
theorem tyX6_ok : ∀ k, k < 4 → parseFieldDescriptor (TX6 k).2.2.1 = some (tyX6 k) := by decide +kernel
abbrev cX6_init : ByteArray := prog_8_method_1_code
def yX6_init : MethodName := ⟨RX6, "<init>", "(LOneSunbeam$Beams;)V"⟩
abbrev cX6_search : ByteArray := prog_8_method_2_code
def yX6_search : MethodName := ⟨RX6, "search", "(LOneSunbeam$Town;I)V"⟩
abbrev cX6_isEdge : ByteArray := prog_8_method_3_code
def yX6_isEdge : MethodName := ⟨RX6, "isEdge", "(LOneSunbeam$Town;II)Z"⟩
abbrev cX6_tryWays : ByteArray := prog_8_method_4_code
def yX6_tryWays : MethodName := ⟨RX6, "tryWays", "(LOneSunbeam$Town;I)V"⟩
def RX7 : String := "OneSunbeam$Theft"
def TX7 : u_T := fun k => match k with
  | 0 => ("OneSunbeam$Theft", "mirror", "I", false)
  | 1 => ("OneSunbeam$Theft", "missing", "I", false)
  | 2 => ("OneSunbeam$Theft", "explains", "I", false)
  | 3 => ("OneSunbeam$Theft", "order", "[I", true)
  | 4 => ("OneSunbeam$Theft", "comes", "[I", true)
  | _ => ("OneSunbeam$Theft", "metCount", "I", false)
def tyX7 : Nat → FieldType := fun k => match k with
  | 0 => .int
  | 1 => .int
  | 2 => .int
  | 3 => .array .int
  | 4 => .array .int
  | _ => .int
theorem nmX7 : ∀ a, a < 6 → ∀ b, b < 6 → a ≠ b → (TX7 a).2.1 ≠ (TX7 b).2.1 := by decide +kernel
theorem tyX7_ok : ∀ k, k < 6 → parseFieldDescriptor (TX7 k).2.2.1 = some (tyX7 k) := by decide +kernel
abbrev cX7_init : ByteArray := prog_9_method_1_code
def yX7_init : MethodName := ⟨RX7, "<init>", "()V"⟩
abbrev cX7_search : ByteArray := prog_9_method_2_code
def yX7_search : MethodName := ⟨RX7, "search", "(LOneSunbeam$Town;I)V"⟩
abbrev cX7_isExplainedBehind : ByteArray := prog_9_method_3_code
def yX7_isExplainedBehind : MethodName := ⟨RX7, "isExplainedBehind", "(LOneSunbeam$Town;II)Z"⟩
abbrev cX7_walk : ByteArray := prog_9_method_4_code
def yX7_walk : MethodName := ⟨RX7, "walk", "(LOneSunbeam$Town;I)V"⟩
abbrev cX7_meet : ByteArray := prog_9_method_5_code
def yX7_meet : MethodName := ⟨RX7, "meet", "(II)I"⟩
def RX8 : String := "OneSunbeam$Town"
def TX8 : u_T := fun k => match k with
  | 0 => ("OneSunbeam$Town", "columns", "I", false)
  | 1 => ("OneSunbeam$Town", "rows", "I", false)
  | 2 => ("OneSunbeam$Town", "gapX", "I", false)
  | 3 => ("OneSunbeam$Town", "gapY", "I", false)
  | 4 => ("OneSunbeam$Town", "air", "I", false)
  | 5 => ("OneSunbeam$Town", "month", "I", false)
  | 6 => ("OneSunbeam$Town", "day", "I", false)
  | 7 => ("OneSunbeam$Town", "fall", "I", false)
  | 8 => ("OneSunbeam$Town", "mirrorCount", "I", false)
  | 9 => ("OneSunbeam$Town", "yardCount", "I", false)
  | 10 => ("OneSunbeam$Town", "rock", "[I", true)
  | 11 => ("OneSunbeam$Town", "eyes", "[I", true)
  | 12 => ("OneSunbeam$Town", "mirrorAt", "[I", true)
  | 13 => ("OneSunbeam$Town", "yardAt", "[I", true)
  | 14 => ("OneSunbeam$Town", "sunWay", "[I", true)
  | 15 => ("OneSunbeam$Town", "sunStrength", "[I", true)
  | 16 => ("OneSunbeam$Town", "mirrorTable", "[I", true)
  | _ => ("OneSunbeam$Town", "yardTable", "[I", true)
def tyX8 : Nat → FieldType := fun k => match k with
  | 0 => .int
  | 1 => .int
  | 2 => .int
  | 3 => .int
  | 4 => .int
  | 5 => .int
  | 6 => .int
  | 7 => .int
  | 8 => .int
  | 9 => .int
  | 10 => .array .int
  | 11 => .array .int
  | 12 => .array .int
  | 13 => .array .int
  | 14 => .array .int
  | 15 => .array .int
  | 16 => .array .int
  | _ => .array .int
theorem nmX8 : ∀ a, a < 18 → ∀ b, b < 18 → a ≠ b → (TX8 a).2.1 ≠ (TX8 b).2.1 := by decide +kernel
theorem tyX8_ok : ∀ k, k < 18 → parseFieldDescriptor (TX8 k).2.2.1 = some (tyX8 k) := by decide +kernel
abbrev cX8_init : ByteArray := prog_10_method_1_code
def yX8_init : MethodName := ⟨RX8, "<init>", "()V"⟩
abbrev cX8_begin : ByteArray := prog_10_method_2_code
def yX8_begin : MethodName := ⟨RX8, "begin", "(IIIII)V"⟩
abbrev cX8_copyFrom : ByteArray := prog_10_method_3_code
def yX8_copyFrom : MethodName := ⟨RX8, "copyFrom", "(LOneSunbeam$Town;)V"⟩
abbrev cX8_isBegun : ByteArray := prog_10_method_4_code
def yX8_isBegun : MethodName := ⟨RX8, "isBegun", "()Z"⟩
abbrev cX8_hasCell : ByteArray := prog_10_method_5_code
def yX8_hasCell : MethodName := ⟨RX8, "hasCell", "(II)Z"⟩
abbrev cX8_isOpen : ByteArray := prog_10_method_6_code
def yX8_isOpen : MethodName := ⟨RX8, "isOpen", "(II)Z"⟩
abbrev cX8_hasRectangle : ByteArray := prog_10_method_7_code
def yX8_hasRectangle : MethodName := ⟨RX8, "hasRectangle", "(IIII)Z"⟩
abbrev cX8_hasMirror : ByteArray := prog_10_method_8_code
def yX8_hasMirror : MethodName := ⟨RX8, "hasMirror", "(I)Z"⟩
abbrev cX8_hasYard : ByteArray := prog_10_method_9_code
def yX8_hasYard : MethodName := ⟨RX8, "hasYard", "(I)Z"⟩
abbrev cX8_isLit : ByteArray := prog_10_method_10_code
def yX8_isLit : MethodName := ⟨RX8, "isLit", "(I)Z"⟩
abbrev cX8_wayOf : ByteArray := prog_10_method_11_code
def yX8_wayOf : MethodName := ⟨RX8, "wayOf", "(I)I"⟩
abbrev cX8_strengthOf : ByteArray := prog_10_method_12_code
def yX8_strengthOf : MethodName := ⟨RX8, "strengthOf", "(I)I"⟩
abbrev cX8_setWay : ByteArray := prog_10_method_13_code
def yX8_setWay : MethodName := ⟨RX8, "setWay", "(II)V"⟩
abbrev cX8_ofMirror : ByteArray := prog_10_method_14_code
def yX8_ofMirror : MethodName := ⟨RX8, "ofMirror", "(II)I"⟩
abbrev cX8_setMirror : ByteArray := prog_10_method_15_code
def yX8_setMirror : MethodName := ⟨RX8, "setMirror", "(III)V"⟩
abbrev cX8_ofYard : ByteArray := prog_10_method_16_code
def yX8_ofYard : MethodName := ⟨RX8, "ofYard", "(II)I"⟩
abbrev cX8_setYard : ByteArray := prog_10_method_17_code
def yX8_setYard : MethodName := ⟨RX8, "setYard", "(III)V"⟩
abbrev cX8_setRock : ByteArray := prog_10_method_18_code
def yX8_setRock : MethodName := ⟨RX8, "setRock", "(IIIII)I"⟩
abbrev cX8_addMirror : ByteArray := prog_10_method_19_code
def yX8_addMirror : MethodName := ⟨RX8, "addMirror", "(II)I"⟩
abbrev cX8_addYard : ByteArray := prog_10_method_20_code
def yX8_addYard : MethodName := ⟨RX8, "addYard", "(IIII)I"⟩
abbrev cX8_isWhole : ByteArray := prog_10_method_21_code
def yX8_isWhole : MethodName := ⟨RX8, "isWhole", "(I)Z"⟩
abbrev cX8_takeAt : ByteArray := prog_10_method_22_code
def yX8_takeAt : MethodName := ⟨RX8, "takeAt", "(I)I"⟩
abbrev cX8_lossOf : ByteArray := prog_10_method_23_code
def yX8_lossOf : MethodName := ⟨RX8, "lossOf", "(I)I"⟩
abbrev cX8_wayFrom : ByteArray := prog_10_method_24_code
def yX8_wayFrom : MethodName := ⟨RX8, "wayFrom", "(II)I"⟩
abbrev cX8_mirrorsWith : ByteArray := prog_10_method_25_code
def yX8_mirrorsWith : MethodName := ⟨RX8, "mirrorsWith", "(II)I"⟩
abbrev cX8_setBroken : ByteArray := prog_10_method_26_code
def yX8_setBroken : MethodName := ⟨RX8, "setBroken", "(II)V"⟩
abbrev cX8_turnTowards : ByteArray := prog_10_method_27_code
def yX8_turnTowards : MethodName := ⟨RX8, "turnTowards", "(II)V"⟩
abbrev cX8_endDay : ByteArray := prog_10_method_28_code
def yX8_endDay : MethodName := ⟨RX8, "endDay", "([I)V"⟩
abbrev cX8_metCount : ByteArray := prog_10_method_29_code
def yX8_metCount : MethodName := ⟨RX8, "metCount", "()I"⟩
def RX9 : String := "OneSunbeam"
def TX9 : u_T := fun k => match k with
  | 0 => ("OneSunbeam", "town", "LOneSunbeam$Town;", true)
  | 1 => ("OneSunbeam", "trial", "LOneSunbeam$Town;", true)
  | 2 => ("OneSunbeam", "images", "[LOneSunbeam$Town;", true)
  | 3 => ("OneSunbeam", "beams", "LOneSunbeam$Beams;", true)
  | 4 => ("OneSunbeam", "keepers", "LOneSunbeam$Keepers;", true)
  | 5 => ("OneSunbeam", "aiming", "LOneSunbeam$Aiming;", true)
  | 6 => ("OneSunbeam", "mending", "LOneSunbeam$Mending;", true)
  | 7 => ("OneSunbeam", "opening", "LOneSunbeam$Opening;", true)
  | 8 => ("OneSunbeam", "theft", "LOneSunbeam$Theft;", true)
  | 9 => ("OneSunbeam", "reader", "LOneSunbeam$LawReader;", true)
  | 10 => ("OneSunbeam", "laws", "[LOneSunbeam$Law;", true)
  | 11 => ("OneSunbeam", "tape", "[B", true)
  | 12 => ("OneSunbeam", "gotNow", "[I", true)
  | 13 => ("OneSunbeam", "draft", "LOneSunbeam$Law;", false)
  | 14 => ("OneSunbeam", "lawCount", "I", false)
  | _ => ("OneSunbeam", "tapeLength", "I", false)
def tyX9 : Nat → FieldType := fun k => match k with
  | 0 => .object "OneSunbeam$Town"
  | 1 => .object "OneSunbeam$Town"
  | 2 => .array (.object "OneSunbeam$Town")
  | 3 => .object "OneSunbeam$Beams"
  | 4 => .object "OneSunbeam$Keepers"
  | 5 => .object "OneSunbeam$Aiming"
  | 6 => .object "OneSunbeam$Mending"
  | 7 => .object "OneSunbeam$Opening"
  | 8 => .object "OneSunbeam$Theft"
  | 9 => .object "OneSunbeam$LawReader"
  | 10 => .array (.object "OneSunbeam$Law")
  | 11 => .array .byte
  | 12 => .array .int
  | 13 => .object "OneSunbeam$Law"
  | 14 => .int
  | _ => .int
theorem nmX9 : ∀ a, a < 16 → ∀ b, b < 16 → a ≠ b → (TX9 a).2.1 ≠ (TX9 b).2.1 := by decide +kernel
theorem tyX9_ok : ∀ k, k < 16 → parseFieldDescriptor (TX9 k).2.2.1 = some (tyX9 k) := by decide +kernel
abbrev cX9_init : ByteArray := prog_1_method_1_code
def yX9_init : MethodName := ⟨RX9, "<init>", "()V"⟩
abbrev cX9_town : ByteArray := prog_1_method_2_code
def yX9_town : MethodName := ⟨RX9, "town", "(IIIII)Z"⟩
abbrev cX9_rock : ByteArray := prog_1_method_3_code
def yX9_rock : MethodName := ⟨RX9, "rock", "(IIIIZ)I"⟩
abbrev cX9_sun : ByteArray := prog_1_method_4_code
def yX9_sun : MethodName := ⟨RX9, "sun", "(IIII)Z"⟩
abbrev cX9_mirror : ByteArray := prog_1_method_5_code
def yX9_mirror : MethodName := ⟨RX9, "mirror", "(IIIIIII)I"⟩
abbrev cX9_sets : ByteArray := prog_1_method_6_code
def yX9_sets : MethodName := ⟨RX9, "sets", "(III)I"⟩
abbrev cX9_yard : ByteArray := prog_1_method_7_code
def yX9_yard : MethodName := ⟨RX9, "yard", "(IIIIII)I"⟩
abbrev cX9_eyes : ByteArray := prog_1_method_8_code
def yX9_eyes : MethodName := ⟨RX9, "eyes", "(III)I"⟩
abbrev cX9_month : ByteArray := prog_1_method_9_code
def yX9_month : MethodName := ⟨RX9, "month", "(I)I"⟩
abbrev cX9_falls : ByteArray := prog_1_method_10_code
def yX9_falls : MethodName := ⟨RX9, "falls", "(I)I"⟩
abbrev cX9_feed : ByteArray := prog_1_method_11_code
def yX9_feed : MethodName := ⟨RX9, "feed", "(IIIII)I"⟩
abbrev cX9_end : ByteArray := prog_1_method_12_code
def yX9_end : MethodName := ⟨RX9, "end", "(I)I"⟩
abbrev cX9_law : ByteArray := prog_1_method_13_code
def yX9_law : MethodName := ⟨RX9, "law", "()I"⟩
abbrev cX9_days : ByteArray := prog_1_method_14_code
def yX9_days : MethodName := ⟨RX9, "days", "(II)I"⟩
abbrev cX9_mirrors : ByteArray := prog_1_method_15_code
def yX9_mirrors : MethodName := ⟨RX9, "mirrors", "(II)I"⟩
abbrev cX9_yards : ByteArray := prog_1_method_16_code
def yX9_yards : MethodName := ⟨RX9, "yards", "(II)I"⟩
abbrev cX9_cell : ByteArray := prog_1_method_17_code
def yX9_cell : MethodName := ⟨RX9, "cell", "(III)I"⟩
abbrev cX9_gets : ByteArray := prog_1_method_18_code
def yX9_gets : MethodName := ⟨RX9, "gets", "(II)I"⟩
abbrev cX9_light : ByteArray := prog_1_method_19_code
def yX9_light : MethodName := ⟨RX9, "light", "(II)I"⟩
abbrev cX9_passes : ByteArray := prog_1_method_20_code
def yX9_passes : MethodName := ⟨RX9, "passes", "(III)I"⟩
abbrev cX9_sees : ByteArray := prog_1_method_21_code
def yX9_sees : MethodName := ⟨RX9, "sees", "(II)I"⟩
abbrev cX9_worth : ByteArray := prog_1_method_22_code
def yX9_worth : MethodName := ⟨RX9, "worth", "(II)I"⟩
abbrev cX9_owned : ByteArray := prog_1_method_23_code
def yX9_owned : MethodName := ⟨RX9, "owned", "(II)I"⟩
abbrev cX9_aim : ByteArray := prog_1_method_24_code
def yX9_aim : MethodName := ⟨RX9, "aim", "(IIII)I"⟩
abbrev cX9_fair : ByteArray := prog_1_method_25_code
def yX9_fair : MethodName := ⟨RX9, "fair", "(III)I"⟩
abbrev cX9_mends : ByteArray := prog_1_method_26_code
def yX9_mends : MethodName := ⟨RX9, "mends", "(III)I"⟩
abbrev cX9_second : ByteArray := prog_1_method_27_code
def yX9_second : MethodName := ⟨RX9, "second", "(II)I"⟩
abbrev cX9_thief : ByteArray := prog_1_method_28_code
def yX9_thief : MethodName := ⟨RX9, "thief", "(II)I"⟩
abbrev cX9_dusty : ByteArray := prog_1_method_29_code
def yX9_dusty : MethodName := ⟨RX9, "dusty", "(IIII)I"⟩
abbrev cX9_dark : ByteArray := prog_1_method_30_code
def yX9_dark : MethodName := ⟨RX9, "dark", "(III)I"⟩
abbrev cX9_ahead : ByteArray := prog_1_method_31_code
def yX9_ahead : MethodName := ⟨RX9, "ahead", "(III)I"⟩
abbrev cX9_count : ByteArray := prog_1_method_32_code
def yX9_count : MethodName := ⟨RX9, "count", "(I)I"⟩
abbrev cX9_image : ByteArray := prog_1_method_33_code
def yX9_image : MethodName := ⟨RX9, "image", "(I)I"⟩
abbrev cX9_back : ByteArray := prog_1_method_34_code
def yX9_back : MethodName := ⟨RX9, "back", "(I)I"⟩
abbrev cX9_isWithin : ByteArray := prog_1_method_35_code
def yX9_isWithin : MethodName := ⟨RX9, "isWithin", "(III)Z"⟩
abbrev cX9_cellOf : ByteArray := prog_1_method_36_code
def yX9_cellOf : MethodName := ⟨RX9, "cellOf", "(II)I"⟩
abbrev cX9_shareOf : ByteArray := prog_1_method_37_code
def yX9_shareOf : MethodName := ⟨RX9, "shareOf", "(II)I"⟩
abbrev cX9_changeMirror : ByteArray := prog_1_method_38_code
def yX9_changeMirror : MethodName := ⟨RX9, "changeMirror", "(IIIZ)I"⟩
abbrev cX9_putOnTape : ByteArray := prog_1_method_39_code
def yX9_putOnTape : MethodName := ⟨RX9, "putOnTape", "(I)V"⟩
abbrev cX9_findLaw : ByteArray := prog_1_method_40_code
def yX9_findLaw : MethodName := ⟨RX9, "findLaw", "(I)LOneSunbeam$Law;"⟩
abbrev cX9_isPlaceOfSet : ByteArray := prog_1_method_41_code
def yX9_isPlaceOfSet : MethodName := ⟨RX9, "isPlaceOfSet", "(II)Z"⟩
abbrev cX9_worthOfSet : ByteArray := prog_1_method_42_code
def yX9_worthOfSet : MethodName := ⟨RX9, "worthOfSet", "(II)I"⟩
abbrev cX9_leastDust : ByteArray := prog_1_method_43_code
def yX9_leastDust : MethodName := ⟨RX9, "leastDust", "(IIII)I"⟩
abbrev cX9_leastDustOneByOne : ByteArray := prog_1_method_44_code
def yX9_leastDustOneByOne : MethodName := ⟨RX9, "leastDustOneByOne", "(IIII)I"⟩
abbrev cX9_leastDustByHalves : ByteArray := prog_1_method_45_code
def yX9_leastDustByHalves : MethodName := ⟨RX9, "leastDustByHalves", "(IIII)I"⟩
abbrev cX9_getWithDust : ByteArray := prog_1_method_46_code
def yX9_getWithDust : MethodName := ⟨RX9, "getWithDust", "(IIII)I"⟩
abbrev cX9_countOfTown : ByteArray := prog_1_method_47_code
def yX9_countOfTown : MethodName := ⟨RX9, "countOfTown", "(I)I"⟩
def RX10 : String := "OneSunbeamModel"
def TX10 : u_T := fun k => match k with
  | 0 => ("OneSunbeamModel", "thrown", "I", false)
  | 1 => ("OneSunbeamModel", "scalar", "[I", true)
  | 2 => ("OneSunbeamModel", "rocky", "[I", true)
  | 3 => ("OneSunbeamModel", "eyed", "[I", true)
  | 4 => ("OneSunbeamModel", "sunWay", "[I", true)
  | 5 => ("OneSunbeamModel", "sunStrong", "[I", true)
  | 6 => ("OneSunbeamModel", "mirrorAt", "[I", true)
  | 7 => ("OneSunbeamModel", "mx", "[I", true)
  | 8 => ("OneSunbeamModel", "my", "[I", true)
  | 9 => ("OneSunbeamModel", "slant", "[I", true)
  | 10 => ("OneSunbeamModel", "loss", "[I", true)
  | 11 => ("OneSunbeamModel", "through", "[I", true)
  | 12 => ("OneSunbeamModel", "reach", "[I", true)
  | 13 => ("OneSunbeamModel", "owner", "[I", true)
  | 14 => ("OneSunbeamModel", "dust", "[I", true)
  | 15 => ("OneSunbeamModel", "broken", "[I", true)
  | 16 => ("OneSunbeamModel", "reading", "[I", true)
  | 17 => ("OneSunbeamModel", "yx", "[I", true)
  | 18 => ("OneSunbeamModel", "yy", "[I", true)
  | 19 => ("OneSunbeamModel", "yToX", "[I", true)
  | 20 => ("OneSunbeamModel", "yToY", "[I", true)
  | 21 => ("OneSunbeamModel", "take", "[I", true)
  | 22 => ("OneSunbeamModel", "want", "[I", true)
  | 23 => ("OneSunbeamModel", "lit", "[I", true)
  | 24 => ("OneSunbeamModel", "taped", "I", false)
  | 25 => ("OneSunbeamModel", "p", "I", false)
  | 26 => ("OneSunbeamModel", "fault", "I", false)
  | 27 => ("OneSunbeamModel", "slot", "I", false)
  | 28 => ("OneSunbeamModel", "laws", "I", false)
  | 29 => ("OneSunbeamModel", "entries", "I", false)
  | 30 => ("OneSunbeamModel", "deep", "I", false)
  | 31 => ("OneSunbeamModel", "counted", "I", false)
  | 32 => ("OneSunbeamModel", "opened", "I", false)
  | 33 => ("OneSunbeamModel", "words", "I", false)
  | 34 => ("OneSunbeamModel", "tape", "[B", true)
  | 35 => ("OneSunbeamModel", "sort", "[I", true)
  | 36 => ("OneSunbeamModel", "number", "[I", true)
  | 37 => ("OneSunbeamModel", "clauses", "[I", true)
  | 38 => ("OneSunbeamModel", "turned", "[I", true)
  | 39 => ("OneSunbeamModel", "sumAt", "[I", true)
  | 40 => ("OneSunbeamModel", "testAt", "[I", true)
  | 41 => ("OneSunbeamModel", "endAt", "[I", true)
  | 42 => ("OneSunbeamModel", "open", "[I", true)
  | 43 => ("OneSunbeamModel", "asked", "[J", true)
  | 44 => ("OneSunbeamModel", "stack", "[J", true)
  | 45 => ("OneSunbeamModel", "waitX", "[I", true)
  | 46 => ("OneSunbeamModel", "waitY", "[I", true)
  | 47 => ("OneSunbeamModel", "waitWay", "[I", true)
  | 48 => ("OneSunbeamModel", "waitStrong", "[I", true)
  | 49 => ("OneSunbeamModel", "passing", "[I", true)
  | 50 => ("OneSunbeamModel", "got", "[I", true)
  | 51 => ("OneSunbeamModel", "firstWaits", "I", false)
  | 52 => ("OneSunbeamModel", "waits", "I", false)
  | 53 => ("OneSunbeamModel", "lost", "I", false)
  | 54 => ("OneSunbeamModel", "spilt", "I", false)
  | 55 => ("OneSunbeamModel", "entered", "I", false)
  | 56 => ("OneSunbeamModel", "beams", "I", false)
  | 57 => ("OneSunbeamModel", "thief", "I", false)
  | 58 => ("OneSunbeamModel", "isMet", "[Z", true)
  | 59 => ("OneSunbeamModel", "seeks", "Z", false)
  | 60 => ("OneSunbeamModel", "order", "[I", true)
  | 61 => ("OneSunbeamModel", "comes", "[I", true)
  | 62 => ("OneSunbeamModel", "comesAt", "[I", true)
  | 63 => ("OneSunbeamModel", "manyMet", "I", false)
  | 64 => ("OneSunbeamModel", "dayGot", "[I", true)
  | 65 => ("OneSunbeamModel", "blindHours", "I", false)
  | 66 => ("OneSunbeamModel", "before", "[I", true)
  | 67 => ("OneSunbeamModel", "keptSlant", "[I", true)
  | 68 => ("OneSunbeamModel", "keptBroken", "[I", true)
  | 69 => ("OneSunbeamModel", "keptDust", "[I", true)
  | 70 => ("OneSunbeamModel", "keptLit", "[I", true)
  | 71 => ("OneSunbeamModel", "row", "[I", true)
  | 72 => ("OneSunbeamModel", "bestRow", "[I", true)
  | 73 => ("OneSunbeamModel", "mended", "[I", true)
  | 74 => ("OneSunbeamModel", "keptDay", "I", false)
  | 75 => ("OneSunbeamModel", "keptMonth", "I", false)
  | 76 => ("OneSunbeamModel", "images", "[I", true)
  | 77 => ("OneSunbeamModel", "isMade", "[Z", true)
  | 78 => ("OneSunbeamModel", "imageAt", "I", false)
  | _ => ("OneSunbeamModel", "goesBack", "Z", false)
def tyX10 : Nat → FieldType := fun k => match k with
  | 0 => .int
  | 1 => .array .int
  | 2 => .array .int
  | 3 => .array .int
  | 4 => .array .int
  | 5 => .array .int
  | 6 => .array .int
  | 7 => .array .int
  | 8 => .array .int
  | 9 => .array .int
  | 10 => .array .int
  | 11 => .array .int
  | 12 => .array .int
  | 13 => .array .int
  | 14 => .array .int
  | 15 => .array .int
  | 16 => .array .int
  | 17 => .array .int
  | 18 => .array .int
  | 19 => .array .int
  | 20 => .array .int
  | 21 => .array .int
  | 22 => .array .int
  | 23 => .array .int
  | 24 => .int
  | 25 => .int
  | 26 => .int
  | 27 => .int
  | 28 => .int
  | 29 => .int
  | 30 => .int
  | 31 => .int
  | 32 => .int
  | 33 => .int
  | 34 => .array .byte
  | 35 => .array .int
  | 36 => .array .int
  | 37 => .array .int
  | 38 => .array .int
  | 39 => .array .int
  | 40 => .array .int
  | 41 => .array .int
  | 42 => .array .int
  | 43 => .array .long
  | 44 => .array .long
  | 45 => .array .int
  | 46 => .array .int
  | 47 => .array .int
  | 48 => .array .int
  | 49 => .array .int
  | 50 => .array .int
  | 51 => .int
  | 52 => .int
  | 53 => .int
  | 54 => .int
  | 55 => .int
  | 56 => .int
  | 57 => .int
  | 58 => .array .boolean
  | 59 => .boolean
  | 60 => .array .int
  | 61 => .array .int
  | 62 => .array .int
  | 63 => .int
  | 64 => .array .int
  | 65 => .int
  | 66 => .array .int
  | 67 => .array .int
  | 68 => .array .int
  | 69 => .array .int
  | 70 => .array .int
  | 71 => .array .int
  | 72 => .array .int
  | 73 => .array .int
  | 74 => .int
  | 75 => .int
  | 76 => .array .int
  | 77 => .array .boolean
  | 78 => .int
  | _ => .boolean
theorem nmX10 : ∀ a, a < 80 → ∀ b, b < 80 → a ≠ b → (TX10 a).2.1 ≠ (TX10 b).2.1 := by decide +kernel
theorem tyX10_ok : ∀ k, k < 80 → parseFieldDescriptor (TX10 k).2.2.1 = some (tyX10 k) := by decide +kernel
abbrev cX10_init : ByteArray := prog_12_method_1_code
def yX10_init : MethodName := ⟨RX10, "<init>", "()V"⟩
abbrev cX10_in : ByteArray := prog_12_method_3_code
def yX10_in : MethodName := ⟨RX10, "in", "(JJJ)Z"⟩
abbrev cX10_has : ByteArray := prog_12_method_4_code
def yX10_has : MethodName := ⟨RX10, "has", "(II)Z"⟩
abbrev cX10_bits : ByteArray := prog_12_method_5_code
def yX10_bits : MethodName := ⟨RX10, "bits", "(I)I"⟩
abbrev cX10_isTown : ByteArray := prog_12_method_6_code
def yX10_isTown : MethodName := ⟨RX10, "isTown", "()Z"⟩
abbrev cX10_isCell : ByteArray := prog_12_method_7_code
def yX10_isCell : MethodName := ⟨RX10, "isCell", "(II)Z"⟩
abbrev cX10_isArea : ByteArray := prog_12_method_8_code
def yX10_isArea : MethodName := ⟨RX10, "isArea", "(IIII)Z"⟩
abbrev cX10_isMirror : ByteArray := prog_12_method_9_code
def yX10_isMirror : MethodName := ⟨RX10, "isMirror", "(I)Z"⟩
abbrev cX10_isYard : ByteArray := prog_12_method_10_code
def yX10_isYard : MethodName := ⟨RX10, "isYard", "(I)Z"⟩
abbrev cX10_town : ByteArray := prog_12_method_11_code
def yX10_town : MethodName := ⟨RX10, "town", "(IIIII)Z"⟩
abbrev cX10_rock : ByteArray := prog_12_method_12_code
def yX10_rock : MethodName := ⟨RX10, "rock", "(IIIIZ)I"⟩
abbrev cX10_sun : ByteArray := prog_12_method_13_code
def yX10_sun : MethodName := ⟨RX10, "sun", "(IIII)Z"⟩
abbrev cX10_mirror : ByteArray := prog_12_method_14_code
def yX10_mirror : MethodName := ⟨RX10, "mirror", "(IIIIIII)I"⟩
abbrev cX10_sets : ByteArray := prog_12_method_15_code
def yX10_sets : MethodName := ⟨RX10, "sets", "(III)I"⟩
abbrev cX10_yard : ByteArray := prog_12_method_16_code
def yX10_yard : MethodName := ⟨RX10, "yard", "(IIIIII)I"⟩
abbrev cX10_eyes : ByteArray := prog_12_method_17_code
def yX10_eyes : MethodName := ⟨RX10, "eyes", "(III)I"⟩
abbrev cX10_month : ByteArray := prog_12_method_18_code
def yX10_month : MethodName := ⟨RX10, "month", "(I)I"⟩
abbrev cX10_falls : ByteArray := prog_12_method_19_code
def yX10_falls : MethodName := ⟨RX10, "falls", "(I)I"⟩
abbrev cX10_feed : ByteArray := prog_12_method_20_code
def yX10_feed : MethodName := ⟨RX10, "feed", "(IIIII)I"⟩
abbrev cX10_put : ByteArray := prog_12_method_21_code
def yX10_put : MethodName := ⟨RX10, "put", "(I)V"⟩
abbrev cX10_end : ByteArray := prog_12_method_22_code
def yX10_end : MethodName := ⟨RX10, "end", "(I)I"⟩
abbrev cX10_wordOf : ByteArray := prog_12_method_23_code
def yX10_wordOf : MethodName := ⟨RX10, "wordOf", "(I)Ljava/lang/String;"⟩
abbrev cX10_fails : ByteArray := prog_12_method_24_code
def yX10_fails : MethodName := ⟨RX10, "fails", "(II)V"⟩
abbrev cX10_sign : ByteArray := prog_12_method_25_code
def yX10_sign : MethodName := ⟨RX10, "sign", "()I"⟩
abbrev cX10_blanks : ByteArray := prog_12_method_26_code
def yX10_blanks : MethodName := ⟨RX10, "blanks", "()V"⟩
abbrev cX10_isDigit : ByteArray := prog_12_method_27_code
def yX10_isDigit : MethodName := ⟨RX10, "isDigit", "()Z"⟩
abbrev cX10_stands : ByteArray := prog_12_method_28_code
def yX10_stands : MethodName := ⟨RX10, "stands", "(Ljava/lang/String;)Z"⟩
abbrev cX10_takes : ByteArray := prog_12_method_29_code
def yX10_takes : MethodName := ⟨RX10, "takes", "(Ljava/lang/String;)Z"⟩
abbrev cX10_entry : ByteArray := prog_12_method_30_code
def yX10_entry : MethodName := ⟨RX10, "entry", "(II)V"⟩
abbrev cX10_isCounted : ByteArray := prog_12_method_31_code
def yX10_isCounted : MethodName := ⟨RX10, "isCounted", "(I)V"⟩
abbrev cX10_digits : ByteArray := prog_12_method_32_code
def yX10_digits : MethodName := ⟨RX10, "digits", "(I)I"⟩
abbrev cX10_value : ByteArray := prog_12_method_33_code
def yX10_value : MethodName := ⟨RX10, "value", "()V"⟩
abbrev cX10_term : ByteArray := prog_12_method_34_code
def yX10_term : MethodName := ⟨RX10, "term", "()V"⟩
abbrev cX10_sum : ByteArray := prog_12_method_35_code
def yX10_sum : MethodName := ⟨RX10, "sum", "()V"⟩
abbrev cX10_compared : ByteArray := prog_12_method_36_code
def yX10_compared : MethodName := ⟨RX10, "compared", "()V"⟩
abbrev cX10_top : ByteArray := prog_12_method_37_code
def yX10_top : MethodName := ⟨RX10, "top", "()I"⟩
abbrev cX10_opens : ByteArray := prog_12_method_38_code
def yX10_opens : MethodName := ⟨RX10, "opens", "(I)V"⟩
abbrev cX10_answers : ByteArray := prog_12_method_39_code
def yX10_answers : MethodName := ⟨RX10, "answers", "(I)V"⟩
abbrev cX10_fact : ByteArray := prog_12_method_40_code
def yX10_fact : MethodName := ⟨RX10, "fact", "()Z"⟩
abbrev cX10_test : ByteArray := prog_12_method_41_code
def yX10_test : MethodName := ⟨RX10, "test", "()V"⟩
abbrev cX10_clause : ByteArray := prog_12_method_42_code
def yX10_clause : MethodName := ⟨RX10, "clause", "(I)V"⟩
abbrev cX10_law : ByteArray := prog_12_method_43_code
def yX10_law : MethodName := ⟨RX10, "law", "()I"⟩
abbrev cX10_isLaw : ByteArray := prog_12_method_44_code
def yX10_isLaw : MethodName := ⟨RX10, "isLaw", "(I)Z"⟩
abbrev cX10_truth : ByteArray := prog_12_method_45_code
def yX10_truth : MethodName := ⟨RX10, "truth", "(Z)J"⟩
abbrev cX10_both : ByteArray := prog_12_method_46_code
def yX10_both : MethodName := ⟨RX10, "both", "(IJJ)J"⟩
abbrev cX10_answer : ByteArray := prog_12_method_47_code
def yX10_answer : MethodName := ⟨RX10, "answer", "(III)J"⟩
abbrev cX10_stepX : ByteArray := prog_12_method_48_code
def yX10_stepX : MethodName := ⟨RX10, "stepX", "(I)I"⟩
abbrev cX10_stepY : ByteArray := prog_12_method_49_code
def yX10_stepY : MethodName := ⟨RX10, "stepY", "(I)I"⟩
abbrev cX10_yardOf : ByteArray := prog_12_method_50_code
def yX10_yardOf : MethodName := ⟨RX10, "yardOf", "(II)I"⟩
abbrev cX10_waitsFor : ByteArray := prog_12_method_51_code
def yX10_waitsFor : MethodName := ⟨RX10, "waitsFor", "(IIII)V"⟩
abbrev cX10_told : ByteArray := prog_12_method_52_code
def yX10_told : MethodName := ⟨RX10, "told", "(II)I"⟩
abbrev cX10_follows : ByteArray := prog_12_method_53_code
def yX10_follows : MethodName := ⟨RX10, "follows", "(I)V"⟩
abbrev cX10_goes : ByteArray := prog_12_method_54_code
def yX10_goes : MethodName := ⟨RX10, "goes", "(IIII)V"⟩
abbrev cX10_traces : ByteArray := prog_12_method_55_code
def yX10_traces : MethodName := ⟨RX10, "traces", "(III)V"⟩
abbrev cX10_sunOf : ByteArray := prog_12_method_56_code
def yX10_sunOf : MethodName := ⟨RX10, "sunOf", "(I)I"⟩
abbrev cX10_shines : ByteArray := prog_12_method_57_code
def yX10_shines : MethodName := ⟨RX10, "shines", "(I)V"⟩
abbrev cX10_allGot : ByteArray := prog_12_method_58_code
def yX10_allGot : MethodName := ⟨RX10, "allGot", "()I"⟩
abbrev cX10_blindCells : ByteArray := prog_12_method_59_code
def yX10_blindCells : MethodName := ⟨RX10, "blindCells", "()I"⟩
abbrev cX10_firstBlind : ByteArray := prog_12_method_60_code
def yX10_firstBlind : MethodName := ⟨RX10, "firstBlind", "()I"⟩
abbrev cX10_asks : ByteArray := prog_12_method_61_code
def yX10_asks : MethodName := ⟨RX10, "asks", "(II)V"⟩
abbrev cX10_turns : ByteArray := prog_12_method_62_code
def yX10_turns : MethodName := ⟨RX10, "turns", "(III)V"⟩
abbrev cX10_goesDay : ByteArray := prog_12_method_63_code
def yX10_goesDay : MethodName := ⟨RX10, "goesDay", "(I)V"⟩
abbrev cX10_met : ByteArray := prog_12_method_64_code
def yX10_met : MethodName := ⟨RX10, "met", "()I"⟩
abbrev cX10_days : ByteArray := prog_12_method_65_code
def yX10_days : MethodName := ⟨RX10, "days", "(II)I"⟩
abbrev cX10_mirrors : ByteArray := prog_12_method_66_code
def yX10_mirrors : MethodName := ⟨RX10, "mirrors", "(II)I"⟩
abbrev cX10_yards : ByteArray := prog_12_method_67_code
def yX10_yards : MethodName := ⟨RX10, "yards", "(II)I"⟩
abbrev cX10_cell : ByteArray := prog_12_method_68_code
def yX10_cell : MethodName := ⟨RX10, "cell", "(III)I"⟩
abbrev cX10_isBright : ByteArray := prog_12_method_69_code
def yX10_isBright : MethodName := ⟨RX10, "isBright", "(I)Z"⟩
abbrev cX10_gets : ByteArray := prog_12_method_70_code
def yX10_gets : MethodName := ⟨RX10, "gets", "(II)I"⟩
abbrev cX10_light : ByteArray := prog_12_method_71_code
def yX10_light : MethodName := ⟨RX10, "light", "(II)I"⟩
abbrev cX10_passes : ByteArray := prog_12_method_72_code
def yX10_passes : MethodName := ⟨RX10, "passes", "(III)I"⟩
abbrev cX10_copy : ByteArray := prog_12_method_73_code
def yX10_copy : MethodName := ⟨RX10, "copy", "([I[I)V"⟩
abbrev cX10_sees : ByteArray := prog_12_method_74_code
def yX10_sees : MethodName := ⟨RX10, "sees", "(II)I"⟩
abbrev cX10_worth : ByteArray := prog_12_method_75_code
def yX10_worth : MethodName := ⟨RX10, "worth", "(II)I"⟩
abbrev cX10_owned : ByteArray := prog_12_method_76_code
def yX10_owned : MethodName := ⟨RX10, "owned", "(II)I"⟩
abbrev cX10_isSet : ByteArray := prog_12_method_77_code
def yX10_isSet : MethodName := ⟨RX10, "isSet", "(I)Z"⟩
abbrev cX10_fairest : ByteArray := prog_12_method_78_code
def yX10_fairest : MethodName := ⟨RX10, "fairest", "()I"⟩
abbrev cX10_searches : ByteArray := prog_12_method_79_code
def yX10_searches : MethodName := ⟨RX10, "searches", "(III)I"⟩
abbrev cX10_aim : ByteArray := prog_12_method_80_code
def yX10_aim : MethodName := ⟨RX10, "aim", "(IIII)I"⟩
abbrev cX10_fair : ByteArray := prog_12_method_81_code
def yX10_fair : MethodName := ⟨RX10, "fair", "(III)I"⟩
abbrev cX10_isHalf : ByteArray := prog_12_method_82_code
def yX10_isHalf : MethodName := ⟨RX10, "isHalf", "(I)Z"⟩
abbrev cX10_isMended : ByteArray := prog_12_method_83_code
def yX10_isMended : MethodName := ⟨RX10, "isMended", "(IIIII)V"⟩
abbrev cX10_mendsOne : ByteArray := prog_12_method_84_code
def yX10_mendsOne : MethodName := ⟨RX10, "mendsOne", "(I)Z"⟩
abbrev cX10_mendsPair : ByteArray := prog_12_method_85_code
def yX10_mendsPair : MethodName := ⟨RX10, "mendsPair", "(III)Z"⟩
abbrev cX10_mendsTwo : ByteArray := prog_12_method_86_code
def yX10_mendsTwo : MethodName := ⟨RX10, "mendsTwo", "(I)Z"⟩
abbrev cX10_mends : ByteArray := prog_12_method_87_code
def yX10_mends : MethodName := ⟨RX10, "mends", "(III)I"⟩
abbrev cX10_second : ByteArray := prog_12_method_88_code
def yX10_second : MethodName := ⟨RX10, "second", "(II)I"⟩
abbrev cX10_thief : ByteArray := prog_12_method_89_code
def yX10_thief : MethodName := ⟨RX10, "thief", "(II)I"⟩
abbrev cX10_dusty : ByteArray := prog_12_method_90_code
def yX10_dusty : MethodName := ⟨RX10, "dusty", "(IIII)I"⟩
abbrev cX10_keeps : ByteArray := prog_12_method_91_code
def yX10_keeps : MethodName := ⟨RX10, "keeps", "()V"⟩
abbrev cX10_putsBack : ByteArray := prog_12_method_92_code
def yX10_putsBack : MethodName := ⟨RX10, "putsBack", "()V"⟩
abbrev cX10_dark : ByteArray := prog_12_method_93_code
def yX10_dark : MethodName := ⟨RX10, "dark", "(III)I"⟩
abbrev cX10_ahead : ByteArray := prog_12_method_94_code
def yX10_ahead : MethodName := ⟨RX10, "ahead", "(III)I"⟩
abbrev cX10_count : ByteArray := prog_12_method_95_code
def yX10_count : MethodName := ⟨RX10, "count", "(I)I"⟩
abbrev cX10_carry : ByteArray := prog_12_method_96_code
def yX10_carry : MethodName := ⟨RX10, "carry", "([I)V"⟩
abbrev cX10_carriesAll : ByteArray := prog_12_method_97_code
def yX10_carriesAll : MethodName := ⟨RX10, "carriesAll", "(IZ)V"⟩
abbrev cX10_image : ByteArray := prog_12_method_98_code
def yX10_image : MethodName := ⟨RX10, "image", "(I)I"⟩
abbrev cX10_back : ByteArray := prog_12_method_99_code
def yX10_back : MethodName := ⟨RX10, "back", "(I)I"⟩
def RJ6 : String := "java/lang/Integer"
abbrev cJ6_bitCount_0f7a4 : ByteArray := prog_13_method_49_code
def yJ6_bitCount_0f7a4 : MethodName := ⟨RJ6, "bitCount", "(I)I"⟩
def RJ0 : String := "java/lang/String"
abbrev cJ0_length_8abf5 : ByteArray := prog_15_method_54_code
def yJ0_length_8abf5 : MethodName := ⟨RJ0, "length", "()I"⟩
abbrev cJ0_charAt_5068e : ByteArray := prog_15_method_56_code
def yJ0_charAt_5068e : MethodName := ⟨RJ0, "charAt", "(I)C"⟩
abbrev cJ0_coder_7d493 : ByteArray := prog_15_method_152_code
def yJ0_coder_7d493 : MethodName := ⟨RJ0, "coder", "()B"⟩
abbrev cJ0_isLatin1_aae02 : ByteArray := prog_15_method_154_code
def yJ0_isLatin1_aae02 : MethodName := ⟨RJ0, "isLatin1", "()Z"⟩
abbrev cJ0_checkIndex_df160 : ByteArray := prog_15_method_155_code
def yJ0_checkIndex_df160 : MethodName := ⟨RJ0, "checkIndex", "(II)V"⟩
def RJ1 : String := "java/lang/StringLatin1"
abbrev cJ1_charAt_3b067 : ByteArray := prog_16_method_2_code
def yJ1_charAt_3b067 : MethodName := ⟨RJ1, "charAt", "([BI)C"⟩
def RJ7 : String := "java/util/Arrays"
abbrev cJ7_fill_53178 : ByteArray := prog_19_method_103_code
def yJ7_fill_53178 : MethodName := ⟨RJ7, "fill", "([II)V"⟩
def RJ3 : String := "jdk/internal/util/Preconditions"
abbrev cJ3_checkIndex_8e157 : ByteArray := prog_20_method_11_code
def yJ3_checkIndex_8e157 : MethodName := ⟨RJ3, "checkIndex", "(IILjava/util/function/BiFunction;)I"⟩
abbrev cL_law : ByteArray := code

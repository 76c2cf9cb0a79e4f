section
-- ===== PART A: goes FIRST, ahead of the names: the tables' words, and 'selects' of the private methods out of them =====
/-- a private method of a class that the tables say can be made, by its rows of tables_1 -/
def lw_okq (q : MethodName × Nat) : Prop := (q.1.cls ≠ "java/lang/invoke/MethodHandle" ∧ q.1.cls ≠ "java/lang/invoke/VarHandle") ∧ Cond.instantiable q.1.cls q.2 ∈ tables_1 ∧ Cond.privateMethod q.1 ∈ tables_1 ∧ Cond.instanceMethod q.1 ∈ tables_1
theorem lw_p0 : lw_okq (⟨"OneSunbeam", "changeMirror", "(IIIZ)I"⟩, 16) := ⟨⟨by decide +kernel, by decide +kernel⟩, List.mem_of_getElem? (i := 21) (by decide +kernel), List.mem_of_getElem? (i := 513) (by decide +kernel), List.mem_of_getElem? (i := 514) (by decide +kernel)⟩
theorem lw_p1 : lw_okq (⟨"OneSunbeam", "putOnTape", "(I)V"⟩, 16) := ⟨⟨by decide +kernel, by decide +kernel⟩, List.mem_of_getElem? (i := 21) (by decide +kernel), List.mem_of_getElem? (i := 551) (by decide +kernel), List.mem_of_getElem? (i := 552) (by decide +kernel)⟩
theorem lw_p2 : lw_okq (⟨"OneSunbeam$LawReader", "readToken", "()V"⟩, 14) := ⟨⟨by decide +kernel, by decide +kernel⟩, List.mem_of_getElem? (i := 313) (by decide +kernel), List.mem_of_getElem? (i := 574) (by decide +kernel), List.mem_of_getElem? (i := 575) (by decide +kernel)⟩
theorem lw_p3 : lw_okq (⟨"OneSunbeam$LawReader", "byteAt", "(I)I"⟩, 14) := ⟨⟨by decide +kernel, by decide +kernel⟩, List.mem_of_getElem? (i := 313) (by decide +kernel), List.mem_of_getElem? (i := 578) (by decide +kernel), List.mem_of_getElem? (i := 579) (by decide +kernel)⟩
theorem lw_p4 : lw_okq (⟨"OneSunbeam$LawReader", "readNumber", "()V"⟩, 14) := ⟨⟨by decide +kernel, by decide +kernel⟩, List.mem_of_getElem? (i := 313) (by decide +kernel), List.mem_of_getElem? (i := 585) (by decide +kernel), List.mem_of_getElem? (i := 586) (by decide +kernel)⟩
theorem lw_p5 : lw_okq (⟨"OneSunbeam$LawReader", "yardHere", "()I"⟩, 14) := ⟨⟨by decide +kernel, by decide +kernel⟩, List.mem_of_getElem? (i := 313) (by decide +kernel), List.mem_of_getElem? (i := 592) (by decide +kernel), List.mem_of_getElem? (i := 593) (by decide +kernel)⟩
theorem lw_p6 : lw_okq (⟨"OneSunbeam$LawReader", "wordHere", "()I"⟩, 14) := ⟨⟨by decide +kernel, by decide +kernel⟩, List.mem_of_getElem? (i := 313) (by decide +kernel), List.mem_of_getElem? (i := 596) (by decide +kernel), List.mem_of_getElem? (i := 597) (by decide +kernel)⟩
theorem lw_p7 : lw_okq (⟨"OneSunbeam$LawReader", "isWord", "(Ljava/lang/String;)Z"⟩, 14) := ⟨⟨by decide +kernel, by decide +kernel⟩, List.mem_of_getElem? (i := 313) (by decide +kernel), List.mem_of_getElem? (i := 601) (by decide +kernel), List.mem_of_getElem? (i := 602) (by decide +kernel)⟩
theorem lw_p8 : lw_okq (⟨"OneSunbeam$LawReader", "signHere", "()I"⟩, 14) := ⟨⟨by decide +kernel, by decide +kernel⟩, List.mem_of_getElem? (i := 313) (by decide +kernel), List.mem_of_getElem? (i := 662) (by decide +kernel), List.mem_of_getElem? (i := 663) (by decide +kernel)⟩
theorem lw_p9 : lw_okq (⟨"OneSunbeam$LawReader", "takeToken", "()V"⟩, 14) := ⟨⟨by decide +kernel, by decide +kernel⟩, List.mem_of_getElem? (i := 313) (by decide +kernel), List.mem_of_getElem? (i := 666) (by decide +kernel), List.mem_of_getElem? (i := 667) (by decide +kernel)⟩
theorem lw_p10 : lw_okq (⟨"OneSunbeam$LawReader", "takeTurn", "()V"⟩, 14) := ⟨⟨by decide +kernel, by decide +kernel⟩, List.mem_of_getElem? (i := 313) (by decide +kernel), List.mem_of_getElem? (i := 670) (by decide +kernel), List.mem_of_getElem? (i := 671) (by decide +kernel)⟩
theorem lw_p11 : lw_okq (⟨"OneSunbeam$LawReader", "fail", "(I)V"⟩, 14) := ⟨⟨by decide +kernel, by decide +kernel⟩, List.mem_of_getElem? (i := 313) (by decide +kernel), List.mem_of_getElem? (i := 674) (by decide +kernel), List.mem_of_getElem? (i := 675) (by decide +kernel)⟩
theorem lw_p12 : lw_okq (⟨"OneSunbeam$LawReader", "takeMirror", "()V"⟩, 14) := ⟨⟨by decide +kernel, by decide +kernel⟩, List.mem_of_getElem? (i := 313) (by decide +kernel), List.mem_of_getElem? (i := 678) (by decide +kernel), List.mem_of_getElem? (i := 679) (by decide +kernel)⟩
theorem lw_p13 : lw_okq (⟨"OneSunbeam$LawReader", "takeFact", "()V"⟩, 14) := ⟨⟨by decide +kernel, by decide +kernel⟩, List.mem_of_getElem? (i := 313) (by decide +kernel), List.mem_of_getElem? (i := 686) (by decide +kernel), List.mem_of_getElem? (i := 687) (by decide +kernel)⟩
theorem lw_p14 : lw_okq (⟨"OneSunbeam$LawReader", "takeValue", "()V"⟩, 14) := ⟨⟨by decide +kernel, by decide +kernel⟩, List.mem_of_getElem? (i := 313) (by decide +kernel), List.mem_of_getElem? (i := 690) (by decide +kernel), List.mem_of_getElem? (i := 691) (by decide +kernel)⟩
theorem lw_p15 : lw_okq (⟨"OneSunbeam$LawReader", "countsOneMore", "()Z"⟩, 14) := ⟨⟨by decide +kernel, by decide +kernel⟩, List.mem_of_getElem? (i := 313) (by decide +kernel), List.mem_of_getElem? (i := 694) (by decide +kernel), List.mem_of_getElem? (i := 695) (by decide +kernel)⟩
def lw_privs_1 : List (MethodName × Nat) := [(⟨"OneSunbeam", "changeMirror", "(IIIZ)I"⟩, 16), (⟨"OneSunbeam", "putOnTape", "(I)V"⟩, 16), (⟨"OneSunbeam$LawReader", "readToken", "()V"⟩, 14), (⟨"OneSunbeam$LawReader", "byteAt", "(I)I"⟩, 14), (⟨"OneSunbeam$LawReader", "readNumber", "()V"⟩, 14), (⟨"OneSunbeam$LawReader", "yardHere", "()I"⟩, 14), (⟨"OneSunbeam$LawReader", "wordHere", "()I"⟩, 14), (⟨"OneSunbeam$LawReader", "isWord", "(Ljava/lang/String;)Z"⟩, 14), (⟨"OneSunbeam$LawReader", "signHere", "()I"⟩, 14), (⟨"OneSunbeam$LawReader", "takeToken", "()V"⟩, 14), (⟨"OneSunbeam$LawReader", "takeTurn", "()V"⟩, 14), (⟨"OneSunbeam$LawReader", "fail", "(I)V"⟩, 14), (⟨"OneSunbeam$LawReader", "takeMirror", "()V"⟩, 14), (⟨"OneSunbeam$LawReader", "takeFact", "()V"⟩, 14), (⟨"OneSunbeam$LawReader", "takeValue", "()V"⟩, 14), (⟨"OneSunbeam$LawReader", "countsOneMore", "()Z"⟩, 14)]
theorem lw_r1 : ∀ q ∈ lw_privs_1, lw_okq q := List.forall_mem_cons.mpr ⟨lw_p0, List.forall_mem_cons.mpr ⟨lw_p1, List.forall_mem_cons.mpr ⟨lw_p2, List.forall_mem_cons.mpr ⟨lw_p3, List.forall_mem_cons.mpr ⟨lw_p4, List.forall_mem_cons.mpr ⟨lw_p5, List.forall_mem_cons.mpr ⟨lw_p6, List.forall_mem_cons.mpr ⟨lw_p7, List.forall_mem_cons.mpr ⟨lw_p8, List.forall_mem_cons.mpr ⟨lw_p9, List.forall_mem_cons.mpr ⟨lw_p10, List.forall_mem_cons.mpr ⟨lw_p11, List.forall_mem_cons.mpr ⟨lw_p12, List.forall_mem_cons.mpr ⟨lw_p13, List.forall_mem_cons.mpr ⟨lw_p14, List.forall_mem_cons.mpr ⟨lw_p15, fun _ h => absurd h List.not_mem_nil⟩⟩⟩⟩⟩⟩⟩⟩⟩⟩⟩⟩⟩⟩⟩⟩
theorem lw_p16 : lw_okq (⟨"OneSunbeam$LawReader", "push", "(I)V"⟩, 14) := ⟨⟨by decide +kernel, by decide +kernel⟩, List.mem_of_getElem? (i := 313) (by decide +kernel), List.mem_of_getElem? (i := 702) (by decide +kernel), List.mem_of_getElem? (i := 703) (by decide +kernel)⟩
theorem lw_p17 : lw_okq (⟨"OneSunbeam$LawReader", "takeBehind", "()V"⟩, 14) := ⟨⟨by decide +kernel, by decide +kernel⟩, List.mem_of_getElem? (i := 313) (by decide +kernel), List.mem_of_getElem? (i := 706) (by decide +kernel), List.mem_of_getElem? (i := 707) (by decide +kernel)⟩
theorem lw_p18 : lw_okq (⟨"OneSunbeam$LawReader", "takeSign", "(II)V"⟩, 14) := ⟨⟨by decide +kernel, by decide +kernel⟩, List.mem_of_getElem? (i := 313) (by decide +kernel), List.mem_of_getElem? (i := 710) (by decide +kernel), List.mem_of_getElem? (i := 711) (by decide +kernel)⟩
theorem lw_p19 : lw_okq (⟨"OneSunbeam$LawReader", "popDownTo", "(I)V"⟩, 14) := ⟨⟨by decide +kernel, by decide +kernel⟩, List.mem_of_getElem? (i := 313) (by decide +kernel), List.mem_of_getElem? (i := 717) (by decide +kernel), List.mem_of_getElem? (i := 718) (by decide +kernel)⟩
theorem lw_p20 : lw_okq (⟨"OneSunbeam$LawReader", "closeBracket", "()V"⟩, 14) := ⟨⟨by decide +kernel, by decide +kernel⟩, List.mem_of_getElem? (i := 313) (by decide +kernel), List.mem_of_getElem? (i := 721) (by decide +kernel), List.mem_of_getElem? (i := 722) (by decide +kernel)⟩
theorem lw_p21 : lw_okq (⟨"OneSunbeam$LawReader", "takeClauseEnd", "()V"⟩, 14) := ⟨⟨by decide +kernel, by decide +kernel⟩, List.mem_of_getElem? (i := 313) (by decide +kernel), List.mem_of_getElem? (i := 729) (by decide +kernel), List.mem_of_getElem? (i := 730) (by decide +kernel)⟩
theorem lw_p22 : lw_okq (⟨"OneSunbeam", "findLaw", "(I)LOneSunbeam$Law;"⟩, 16) := ⟨⟨by decide +kernel, by decide +kernel⟩, List.mem_of_getElem? (i := 21) (by decide +kernel), List.mem_of_getElem? (i := 741) (by decide +kernel), List.mem_of_getElem? (i := 742) (by decide +kernel)⟩
theorem lw_p23 : lw_okq (⟨"OneSunbeam$Keepers", "turnMirrors", "(LOneSunbeam$Town;LOneSunbeam$Law;)V"⟩, 4) := ⟨⟨by decide +kernel, by decide +kernel⟩, List.mem_of_getElem? (i := 180) (by decide +kernel), List.mem_of_getElem? (i := 750) (by decide +kernel), List.mem_of_getElem? (i := 751) (by decide +kernel)⟩
theorem lw_p24 : lw_okq (⟨"OneSunbeam$Keepers", "holds", "(LOneSunbeam$Town;LOneSunbeam$Law;I)Z"⟩, 4) := ⟨⟨by decide +kernel, by decide +kernel⟩, List.mem_of_getElem? (i := 180) (by decide +kernel), List.mem_of_getElem? (i := 755) (by decide +kernel), List.mem_of_getElem? (i := 756) (by decide +kernel)⟩
theorem lw_p25 : lw_okq (⟨"OneSunbeam$Keepers", "valueOf", "(LOneSunbeam$Town;LOneSunbeam$Law;III)J"⟩, 4) := ⟨⟨by decide +kernel, by decide +kernel⟩, List.mem_of_getElem? (i := 180) (by decide +kernel), List.mem_of_getElem? (i := 759) (by decide +kernel), List.mem_of_getElem? (i := 760) (by decide +kernel)⟩
theorem lw_p26 : lw_okq (⟨"OneSunbeam$Keepers", "wordValue", "(LOneSunbeam$Town;II)J"⟩, 4) := ⟨⟨by decide +kernel, by decide +kernel⟩, List.mem_of_getElem? (i := 180) (by decide +kernel), List.mem_of_getElem? (i := 763) (by decide +kernel), List.mem_of_getElem? (i := 764) (by decide +kernel)⟩
theorem lw_p27 : lw_okq (⟨"OneSunbeam$Keepers", "gotByYard", "(I)J"⟩, 4) := ⟨⟨by decide +kernel, by decide +kernel⟩, List.mem_of_getElem? (i := 180) (by decide +kernel), List.mem_of_getElem? (i := 777) (by decide +kernel), List.mem_of_getElem? (i := 778) (by decide +kernel)⟩
theorem lw_p28 : lw_okq (⟨"OneSunbeam$Beams", "clear", "()V"⟩, 13) := ⟨⟨by decide +kernel, by decide +kernel⟩, List.mem_of_getElem? (i := 124) (by decide +kernel), List.mem_of_getElem? (i := 806) (by decide +kernel), List.mem_of_getElem? (i := 807) (by decide +kernel)⟩
theorem lw_p29 : lw_okq (⟨"OneSunbeam$Beams", "follow", "(LOneSunbeam$Town;IIII)V"⟩, 13) := ⟨⟨by decide +kernel, by decide +kernel⟩, List.mem_of_getElem? (i := 124) (by decide +kernel), List.mem_of_getElem? (i := 815) (by decide +kernel), List.mem_of_getElem? (i := 816) (by decide +kernel)⟩
theorem lw_p30 : lw_okq (⟨"OneSunbeam$Beams", "passAir", "(LOneSunbeam$Town;II)I"⟩, 13) := ⟨⟨by decide +kernel, by decide +kernel⟩, List.mem_of_getElem? (i := 124) (by decide +kernel), List.mem_of_getElem? (i := 824) (by decide +kernel), List.mem_of_getElem? (i := 825) (by decide +kernel)⟩
theorem lw_p31 : lw_okq (⟨"OneSunbeam$Beams", "passYard", "(LOneSunbeam$Town;II)I"⟩, 13) := ⟨⟨by decide +kernel, by decide +kernel⟩, List.mem_of_getElem? (i := 124) (by decide +kernel), List.mem_of_getElem? (i := 831) (by decide +kernel), List.mem_of_getElem? (i := 832) (by decide +kernel)⟩
def lw_privs_2 : List (MethodName × Nat) := [(⟨"OneSunbeam$LawReader", "push", "(I)V"⟩, 14), (⟨"OneSunbeam$LawReader", "takeBehind", "()V"⟩, 14), (⟨"OneSunbeam$LawReader", "takeSign", "(II)V"⟩, 14), (⟨"OneSunbeam$LawReader", "popDownTo", "(I)V"⟩, 14), (⟨"OneSunbeam$LawReader", "closeBracket", "()V"⟩, 14), (⟨"OneSunbeam$LawReader", "takeClauseEnd", "()V"⟩, 14), (⟨"OneSunbeam", "findLaw", "(I)LOneSunbeam$Law;"⟩, 16), (⟨"OneSunbeam$Keepers", "turnMirrors", "(LOneSunbeam$Town;LOneSunbeam$Law;)V"⟩, 4), (⟨"OneSunbeam$Keepers", "holds", "(LOneSunbeam$Town;LOneSunbeam$Law;I)Z"⟩, 4), (⟨"OneSunbeam$Keepers", "valueOf", "(LOneSunbeam$Town;LOneSunbeam$Law;III)J"⟩, 4), (⟨"OneSunbeam$Keepers", "wordValue", "(LOneSunbeam$Town;II)J"⟩, 4), (⟨"OneSunbeam$Keepers", "gotByYard", "(I)J"⟩, 4), (⟨"OneSunbeam$Beams", "clear", "()V"⟩, 13), (⟨"OneSunbeam$Beams", "follow", "(LOneSunbeam$Town;IIII)V"⟩, 13), (⟨"OneSunbeam$Beams", "passAir", "(LOneSunbeam$Town;II)I"⟩, 13), (⟨"OneSunbeam$Beams", "passYard", "(LOneSunbeam$Town;II)I"⟩, 13)]
theorem lw_r2 : ∀ q ∈ lw_privs_2, lw_okq q := List.forall_mem_cons.mpr ⟨lw_p16, List.forall_mem_cons.mpr ⟨lw_p17, List.forall_mem_cons.mpr ⟨lw_p18, List.forall_mem_cons.mpr ⟨lw_p19, List.forall_mem_cons.mpr ⟨lw_p20, List.forall_mem_cons.mpr ⟨lw_p21, List.forall_mem_cons.mpr ⟨lw_p22, List.forall_mem_cons.mpr ⟨lw_p23, List.forall_mem_cons.mpr ⟨lw_p24, List.forall_mem_cons.mpr ⟨lw_p25, List.forall_mem_cons.mpr ⟨lw_p26, List.forall_mem_cons.mpr ⟨lw_p27, List.forall_mem_cons.mpr ⟨lw_p28, List.forall_mem_cons.mpr ⟨lw_p29, List.forall_mem_cons.mpr ⟨lw_p30, List.forall_mem_cons.mpr ⟨lw_p31, fun _ h => absurd h List.not_mem_nil⟩⟩⟩⟩⟩⟩⟩⟩⟩⟩⟩⟩⟩⟩⟩⟩
theorem lw_p32 : lw_okq (⟨"OneSunbeam$Beams", "passMirror", "(LOneSunbeam$Town;III)I"⟩, 13) := ⟨⟨by decide +kernel, by decide +kernel⟩, List.mem_of_getElem? (i := 124) (by decide +kernel), List.mem_of_getElem? (i := 843) (by decide +kernel), List.mem_of_getElem? (i := 844) (by decide +kernel)⟩
theorem lw_p33 : lw_okq (⟨"OneSunbeam$Beams", "letWait", "(II)V"⟩, 13) := ⟨⟨by decide +kernel, by decide +kernel⟩, List.mem_of_getElem? (i := 124) (by decide +kernel), List.mem_of_getElem? (i := 852) (by decide +kernel), List.mem_of_getElem? (i := 853) (by decide +kernel)⟩
theorem lw_p34 : lw_okq (⟨"OneSunbeam$Beams", "isBlind", "(LOneSunbeam$Town;I)Z"⟩, 13) := ⟨⟨by decide +kernel, by decide +kernel⟩, List.mem_of_getElem? (i := 124) (by decide +kernel), List.mem_of_getElem? (i := 868) (by decide +kernel), List.mem_of_getElem? (i := 869) (by decide +kernel)⟩
theorem lw_p35 : lw_okq (⟨"OneSunbeam$Keepers", "addToday", "()V"⟩, 4) := ⟨⟨by decide +kernel, by decide +kernel⟩, List.mem_of_getElem? (i := 180) (by decide +kernel), List.mem_of_getElem? (i := 873) (by decide +kernel), List.mem_of_getElem? (i := 874) (by decide +kernel)⟩
theorem lw_p36 : lw_okq (⟨"OneSunbeam", "worthOfSet", "(II)I"⟩, 16) := ⟨⟨by decide +kernel, by decide +kernel⟩, List.mem_of_getElem? (i := 21) (by decide +kernel), List.mem_of_getElem? (i := 937) (by decide +kernel), List.mem_of_getElem? (i := 938) (by decide +kernel)⟩
theorem lw_p37 : lw_okq (⟨"OneSunbeam", "isPlaceOfSet", "(II)Z"⟩, 16) := ⟨⟨by decide +kernel, by decide +kernel⟩, List.mem_of_getElem? (i := 21) (by decide +kernel), List.mem_of_getElem? (i := 957) (by decide +kernel), List.mem_of_getElem? (i := 958) (by decide +kernel)⟩
theorem lw_p38 : lw_okq (⟨"OneSunbeam$Aiming", "gather", "(LOneSunbeam$Town;I)V"⟩, 7) := ⟨⟨by decide +kernel, by decide +kernel⟩, List.mem_of_getElem? (i := 200) (by decide +kernel), List.mem_of_getElem? (i := 971) (by decide +kernel), List.mem_of_getElem? (i := 972) (by decide +kernel)⟩
theorem lw_p39 : lw_okq (⟨"OneSunbeam$Aiming", "putSlants", "(LOneSunbeam$Town;[I)V"⟩, 7) := ⟨⟨by decide +kernel, by decide +kernel⟩, List.mem_of_getElem? (i := 200) (by decide +kernel), List.mem_of_getElem? (i := 976) (by decide +kernel), List.mem_of_getElem? (i := 977) (by decide +kernel)⟩
theorem lw_p40 : lw_okq (⟨"OneSunbeam$Aiming", "leastGot", "(LOneSunbeam$Town;)I"⟩, 7) := ⟨⟨by decide +kernel, by decide +kernel⟩, List.mem_of_getElem? (i := 200) (by decide +kernel), List.mem_of_getElem? (i := 982) (by decide +kernel), List.mem_of_getElem? (i := 983) (by decide +kernel)⟩
theorem lw_p41 : lw_okq (⟨"OneSunbeam$Aiming", "lastTouched", "()I"⟩, 7) := ⟨⟨by decide +kernel, by decide +kernel⟩, List.mem_of_getElem? (i := 200) (by decide +kernel), List.mem_of_getElem? (i := 988) (by decide +kernel), List.mem_of_getElem? (i := 989) (by decide +kernel)⟩
theorem lw_p42 : lw_okq (⟨"OneSunbeam$Aiming", "goOn", "(I)Z"⟩, 7) := ⟨⟨by decide +kernel, by decide +kernel⟩, List.mem_of_getElem? (i := 200) (by decide +kernel), List.mem_of_getElem? (i := 996) (by decide +kernel), List.mem_of_getElem? (i := 997) (by decide +kernel)⟩
theorem lw_p43 : lw_okq (⟨"OneSunbeam$Mending", "isEnough", "()Z"⟩, 9) := ⟨⟨by decide +kernel, by decide +kernel⟩, List.mem_of_getElem? (i := 228) (by decide +kernel), List.mem_of_getElem? (i := 1025) (by decide +kernel), List.mem_of_getElem? (i := 1026) (by decide +kernel)⟩
theorem lw_p44 : lw_okq (⟨"OneSunbeam$Mending", "isMendedBy", "(II)Z"⟩, 9) := ⟨⟨by decide +kernel, by decide +kernel⟩, List.mem_of_getElem? (i := 228) (by decide +kernel), List.mem_of_getElem? (i := 1040) (by decide +kernel), List.mem_of_getElem? (i := 1041) (by decide +kernel)⟩
theorem lw_p45 : lw_okq (⟨"OneSunbeam$Mending", "findSlants", "(II)Z"⟩, 9) := ⟨⟨by decide +kernel, by decide +kernel⟩, List.mem_of_getElem? (i := 228) (by decide +kernel), List.mem_of_getElem? (i := 1048) (by decide +kernel), List.mem_of_getElem? (i := 1049) (by decide +kernel)⟩
theorem lw_p46 : lw_okq (⟨"OneSunbeam$Mending", "doesPairMatter", "(IIII)Z"⟩, 9) := ⟨⟨by decide +kernel, by decide +kernel⟩, List.mem_of_getElem? (i := 228) (by decide +kernel), List.mem_of_getElem? (i := 1052) (by decide +kernel), List.mem_of_getElem? (i := 1053) (by decide +kernel)⟩
theorem lw_p47 : lw_okq (⟨"OneSunbeam$Opening", "tryWays", "(LOneSunbeam$Town;I)V"⟩, 4) := ⟨⟨by decide +kernel, by decide +kernel⟩, List.mem_of_getElem? (i := 263) (by decide +kernel), List.mem_of_getElem? (i := 1073) (by decide +kernel), List.mem_of_getElem? (i := 1074) (by decide +kernel)⟩
def lw_privs_3 : List (MethodName × Nat) := [(⟨"OneSunbeam$Beams", "passMirror", "(LOneSunbeam$Town;III)I"⟩, 13), (⟨"OneSunbeam$Beams", "letWait", "(II)V"⟩, 13), (⟨"OneSunbeam$Beams", "isBlind", "(LOneSunbeam$Town;I)Z"⟩, 13), (⟨"OneSunbeam$Keepers", "addToday", "()V"⟩, 4), (⟨"OneSunbeam", "worthOfSet", "(II)I"⟩, 16), (⟨"OneSunbeam", "isPlaceOfSet", "(II)Z"⟩, 16), (⟨"OneSunbeam$Aiming", "gather", "(LOneSunbeam$Town;I)V"⟩, 7), (⟨"OneSunbeam$Aiming", "putSlants", "(LOneSunbeam$Town;[I)V"⟩, 7), (⟨"OneSunbeam$Aiming", "leastGot", "(LOneSunbeam$Town;)I"⟩, 7), (⟨"OneSunbeam$Aiming", "lastTouched", "()I"⟩, 7), (⟨"OneSunbeam$Aiming", "goOn", "(I)Z"⟩, 7), (⟨"OneSunbeam$Mending", "isEnough", "()Z"⟩, 9), (⟨"OneSunbeam$Mending", "isMendedBy", "(II)Z"⟩, 9), (⟨"OneSunbeam$Mending", "findSlants", "(II)Z"⟩, 9), (⟨"OneSunbeam$Mending", "doesPairMatter", "(IIII)Z"⟩, 9), (⟨"OneSunbeam$Opening", "tryWays", "(LOneSunbeam$Town;I)V"⟩, 4)]
theorem lw_r3 : ∀ q ∈ lw_privs_3, lw_okq q := List.forall_mem_cons.mpr ⟨lw_p32, List.forall_mem_cons.mpr ⟨lw_p33, List.forall_mem_cons.mpr ⟨lw_p34, List.forall_mem_cons.mpr ⟨lw_p35, List.forall_mem_cons.mpr ⟨lw_p36, List.forall_mem_cons.mpr ⟨lw_p37, List.forall_mem_cons.mpr ⟨lw_p38, List.forall_mem_cons.mpr ⟨lw_p39, List.forall_mem_cons.mpr ⟨lw_p40, List.forall_mem_cons.mpr ⟨lw_p41, List.forall_mem_cons.mpr ⟨lw_p42, List.forall_mem_cons.mpr ⟨lw_p43, List.forall_mem_cons.mpr ⟨lw_p44, List.forall_mem_cons.mpr ⟨lw_p45, List.forall_mem_cons.mpr ⟨lw_p46, List.forall_mem_cons.mpr ⟨lw_p47, fun _ h => absurd h List.not_mem_nil⟩⟩⟩⟩⟩⟩⟩⟩⟩⟩⟩⟩⟩⟩⟩⟩
theorem lw_p48 : lw_okq (⟨"OneSunbeam$Theft", "walk", "(LOneSunbeam$Town;I)V"⟩, 6) := ⟨⟨by decide +kernel, by decide +kernel⟩, List.mem_of_getElem? (i := 285) (by decide +kernel), List.mem_of_getElem? (i := 1095) (by decide +kernel), List.mem_of_getElem? (i := 1096) (by decide +kernel)⟩
theorem lw_p49 : lw_okq (⟨"OneSunbeam$Theft", "meet", "(II)I"⟩, 6) := ⟨⟨by decide +kernel, by decide +kernel⟩, List.mem_of_getElem? (i := 285) (by decide +kernel), List.mem_of_getElem? (i := 1109) (by decide +kernel), List.mem_of_getElem? (i := 1110) (by decide +kernel)⟩
theorem lw_p50 : lw_okq (⟨"OneSunbeam$Theft", "isExplainedBehind", "(LOneSunbeam$Town;II)Z"⟩, 6) := ⟨⟨by decide +kernel, by decide +kernel⟩, List.mem_of_getElem? (i := 285) (by decide +kernel), List.mem_of_getElem? (i := 1118) (by decide +kernel), List.mem_of_getElem? (i := 1119) (by decide +kernel)⟩
theorem lw_p51 : lw_okq (⟨"OneSunbeam", "leastDust", "(IIII)I"⟩, 16) := ⟨⟨by decide +kernel, by decide +kernel⟩, List.mem_of_getElem? (i := 21) (by decide +kernel), List.mem_of_getElem? (i := 1127) (by decide +kernel), List.mem_of_getElem? (i := 1128) (by decide +kernel)⟩
theorem lw_p52 : lw_okq (⟨"OneSunbeam", "getWithDust", "(IIII)I"⟩, 16) := ⟨⟨by decide +kernel, by decide +kernel⟩, List.mem_of_getElem? (i := 21) (by decide +kernel), List.mem_of_getElem? (i := 1131) (by decide +kernel), List.mem_of_getElem? (i := 1132) (by decide +kernel)⟩
theorem lw_p53 : lw_okq (⟨"OneSunbeam", "leastDustOneByOne", "(IIII)I"⟩, 16) := ⟨⟨by decide +kernel, by decide +kernel⟩, List.mem_of_getElem? (i := 21) (by decide +kernel), List.mem_of_getElem? (i := 1136) (by decide +kernel), List.mem_of_getElem? (i := 1137) (by decide +kernel)⟩
theorem lw_p54 : lw_okq (⟨"OneSunbeam", "leastDustByHalves", "(IIII)I"⟩, 16) := ⟨⟨by decide +kernel, by decide +kernel⟩, List.mem_of_getElem? (i := 21) (by decide +kernel), List.mem_of_getElem? (i := 1140) (by decide +kernel), List.mem_of_getElem? (i := 1141) (by decide +kernel)⟩
theorem lw_p55 : lw_okq (⟨"OneSunbeam", "countOfTown", "(I)I"⟩, 16) := ⟨⟨by decide +kernel, by decide +kernel⟩, List.mem_of_getElem? (i := 21) (by decide +kernel), List.mem_of_getElem? (i := 1161) (by decide +kernel), List.mem_of_getElem? (i := 1162) (by decide +kernel)⟩
theorem lw_p56 : lw_okq (⟨"OneSunbeamModel", "isArea", "(IIII)Z"⟩, 80) := ⟨⟨by decide +kernel, by decide +kernel⟩, List.mem_of_getElem? (i := 1173) (by decide +kernel), List.mem_of_getElem? (i := 1434) (by decide +kernel), List.mem_of_getElem? (i := 1435) (by decide +kernel)⟩
theorem lw_p57 : lw_okq (⟨"OneSunbeamModel", "isCell", "(II)Z"⟩, 80) := ⟨⟨by decide +kernel, by decide +kernel⟩, List.mem_of_getElem? (i := 1173) (by decide +kernel), List.mem_of_getElem? (i := 1438) (by decide +kernel), List.mem_of_getElem? (i := 1439) (by decide +kernel)⟩
theorem lw_p58 : lw_okq (⟨"OneSunbeamModel", "isTown", "()Z"⟩, 80) := ⟨⟨by decide +kernel, by decide +kernel⟩, List.mem_of_getElem? (i := 1173) (by decide +kernel), List.mem_of_getElem? (i := 1442) (by decide +kernel), List.mem_of_getElem? (i := 1443) (by decide +kernel)⟩
theorem lw_p59 : lw_okq (⟨"OneSunbeamModel", "isMirror", "(I)Z"⟩, 80) := ⟨⟨by decide +kernel, by decide +kernel⟩, List.mem_of_getElem? (i := 1173) (by decide +kernel), List.mem_of_getElem? (i := 1463) (by decide +kernel), List.mem_of_getElem? (i := 1464) (by decide +kernel)⟩
theorem lw_p60 : lw_okq (⟨"OneSunbeamModel", "put", "(I)V"⟩, 80) := ⟨⟨by decide +kernel, by decide +kernel⟩, List.mem_of_getElem? (i := 1173) (by decide +kernel), List.mem_of_getElem? (i := 1491) (by decide +kernel), List.mem_of_getElem? (i := 1492) (by decide +kernel)⟩
theorem lw_p61 : lw_okq (⟨"OneSunbeamModel", "clause", "(I)V"⟩, 80) := ⟨⟨by decide +kernel, by decide +kernel⟩, List.mem_of_getElem? (i := 1173) (by decide +kernel), List.mem_of_getElem? (i := 1503) (by decide +kernel), List.mem_of_getElem? (i := 1504) (by decide +kernel)⟩
theorem lw_p62 : lw_okq (⟨"OneSunbeamModel", "blanks", "()V"⟩, 80) := ⟨⟨by decide +kernel, by decide +kernel⟩, List.mem_of_getElem? (i := 1173) (by decide +kernel), List.mem_of_getElem? (i := 1507) (by decide +kernel), List.mem_of_getElem? (i := 1508) (by decide +kernel)⟩
theorem lw_p63 : lw_okq (⟨"OneSunbeamModel", "sign", "()I"⟩, 80) := ⟨⟨by decide +kernel, by decide +kernel⟩, List.mem_of_getElem? (i := 1173) (by decide +kernel), List.mem_of_getElem? (i := 1511) (by decide +kernel), List.mem_of_getElem? (i := 1512) (by decide +kernel)⟩
def lw_privs_4 : List (MethodName × Nat) := [(⟨"OneSunbeam$Theft", "walk", "(LOneSunbeam$Town;I)V"⟩, 6), (⟨"OneSunbeam$Theft", "meet", "(II)I"⟩, 6), (⟨"OneSunbeam$Theft", "isExplainedBehind", "(LOneSunbeam$Town;II)Z"⟩, 6), (⟨"OneSunbeam", "leastDust", "(IIII)I"⟩, 16), (⟨"OneSunbeam", "getWithDust", "(IIII)I"⟩, 16), (⟨"OneSunbeam", "leastDustOneByOne", "(IIII)I"⟩, 16), (⟨"OneSunbeam", "leastDustByHalves", "(IIII)I"⟩, 16), (⟨"OneSunbeam", "countOfTown", "(I)I"⟩, 16), (⟨"OneSunbeamModel", "isArea", "(IIII)Z"⟩, 80), (⟨"OneSunbeamModel", "isCell", "(II)Z"⟩, 80), (⟨"OneSunbeamModel", "isTown", "()Z"⟩, 80), (⟨"OneSunbeamModel", "isMirror", "(I)Z"⟩, 80), (⟨"OneSunbeamModel", "put", "(I)V"⟩, 80), (⟨"OneSunbeamModel", "clause", "(I)V"⟩, 80), (⟨"OneSunbeamModel", "blanks", "()V"⟩, 80), (⟨"OneSunbeamModel", "sign", "()I"⟩, 80)]
theorem lw_r4 : ∀ q ∈ lw_privs_4, lw_okq q := List.forall_mem_cons.mpr ⟨lw_p48, List.forall_mem_cons.mpr ⟨lw_p49, List.forall_mem_cons.mpr ⟨lw_p50, List.forall_mem_cons.mpr ⟨lw_p51, List.forall_mem_cons.mpr ⟨lw_p52, List.forall_mem_cons.mpr ⟨lw_p53, List.forall_mem_cons.mpr ⟨lw_p54, List.forall_mem_cons.mpr ⟨lw_p55, List.forall_mem_cons.mpr ⟨lw_p56, List.forall_mem_cons.mpr ⟨lw_p57, List.forall_mem_cons.mpr ⟨lw_p58, List.forall_mem_cons.mpr ⟨lw_p59, List.forall_mem_cons.mpr ⟨lw_p60, List.forall_mem_cons.mpr ⟨lw_p61, List.forall_mem_cons.mpr ⟨lw_p62, List.forall_mem_cons.mpr ⟨lw_p63, fun _ h => absurd h List.not_mem_nil⟩⟩⟩⟩⟩⟩⟩⟩⟩⟩⟩⟩⟩⟩⟩⟩
theorem lw_p64 : lw_okq (⟨"OneSunbeamModel", "stands", "(Ljava/lang/String;)Z"⟩, 80) := ⟨⟨by decide +kernel, by decide +kernel⟩, List.mem_of_getElem? (i := 1173) (by decide +kernel), List.mem_of_getElem? (i := 1516) (by decide +kernel), List.mem_of_getElem? (i := 1517) (by decide +kernel)⟩
theorem lw_p65 : lw_okq (⟨"OneSunbeamModel", "fails", "(II)V"⟩, 80) := ⟨⟨by decide +kernel, by decide +kernel⟩, List.mem_of_getElem? (i := 1173) (by decide +kernel), List.mem_of_getElem? (i := 1522) (by decide +kernel), List.mem_of_getElem? (i := 1523) (by decide +kernel)⟩
theorem lw_p66 : lw_okq (⟨"OneSunbeamModel", "digits", "(I)I"⟩, 80) := ⟨⟨by decide +kernel, by decide +kernel⟩, List.mem_of_getElem? (i := 1173) (by decide +kernel), List.mem_of_getElem? (i := 1526) (by decide +kernel), List.mem_of_getElem? (i := 1527) (by decide +kernel)⟩
theorem lw_p67 : lw_okq (⟨"OneSunbeamModel", "isDigit", "()Z"⟩, 80) := ⟨⟨by decide +kernel, by decide +kernel⟩, List.mem_of_getElem? (i := 1173) (by decide +kernel), List.mem_of_getElem? (i := 1530) (by decide +kernel), List.mem_of_getElem? (i := 1531) (by decide +kernel)⟩
theorem lw_p68 : lw_okq (⟨"OneSunbeamModel", "sum", "()V"⟩, 80) := ⟨⟨by decide +kernel, by decide +kernel⟩, List.mem_of_getElem? (i := 1173) (by decide +kernel), List.mem_of_getElem? (i := 1536) (by decide +kernel), List.mem_of_getElem? (i := 1537) (by decide +kernel)⟩
theorem lw_p69 : lw_okq (⟨"OneSunbeamModel", "term", "()V"⟩, 80) := ⟨⟨by decide +kernel, by decide +kernel⟩, List.mem_of_getElem? (i := 1173) (by decide +kernel), List.mem_of_getElem? (i := 1540) (by decide +kernel), List.mem_of_getElem? (i := 1541) (by decide +kernel)⟩
theorem lw_p70 : lw_okq (⟨"OneSunbeamModel", "value", "()V"⟩, 80) := ⟨⟨by decide +kernel, by decide +kernel⟩, List.mem_of_getElem? (i := 1173) (by decide +kernel), List.mem_of_getElem? (i := 1544) (by decide +kernel), List.mem_of_getElem? (i := 1545) (by decide +kernel)⟩
theorem lw_p71 : lw_okq (⟨"OneSunbeamModel", "isCounted", "(I)V"⟩, 80) := ⟨⟨by decide +kernel, by decide +kernel⟩, List.mem_of_getElem? (i := 1173) (by decide +kernel), List.mem_of_getElem? (i := 1549) (by decide +kernel), List.mem_of_getElem? (i := 1550) (by decide +kernel)⟩
theorem lw_p72 : lw_okq (⟨"OneSunbeamModel", "entry", "(II)V"⟩, 80) := ⟨⟨by decide +kernel, by decide +kernel⟩, List.mem_of_getElem? (i := 1173) (by decide +kernel), List.mem_of_getElem? (i := 1553) (by decide +kernel), List.mem_of_getElem? (i := 1554) (by decide +kernel)⟩
theorem lw_p73 : lw_okq (⟨"OneSunbeamModel", "takes", "(Ljava/lang/String;)Z"⟩, 80) := ⟨⟨by decide +kernel, by decide +kernel⟩, List.mem_of_getElem? (i := 1173) (by decide +kernel), List.mem_of_getElem? (i := 1574) (by decide +kernel), List.mem_of_getElem? (i := 1575) (by decide +kernel)⟩
theorem lw_p74 : lw_okq (⟨"OneSunbeamModel", "test", "()V"⟩, 80) := ⟨⟨by decide +kernel, by decide +kernel⟩, List.mem_of_getElem? (i := 1173) (by decide +kernel), List.mem_of_getElem? (i := 1578) (by decide +kernel), List.mem_of_getElem? (i := 1579) (by decide +kernel)⟩
theorem lw_p75 : lw_okq (⟨"OneSunbeamModel", "fact", "()Z"⟩, 80) := ⟨⟨by decide +kernel, by decide +kernel⟩, List.mem_of_getElem? (i := 1173) (by decide +kernel), List.mem_of_getElem? (i := 1582) (by decide +kernel), List.mem_of_getElem? (i := 1583) (by decide +kernel)⟩
theorem lw_p76 : lw_okq (⟨"OneSunbeamModel", "opens", "(I)V"⟩, 80) := ⟨⟨by decide +kernel, by decide +kernel⟩, List.mem_of_getElem? (i := 1173) (by decide +kernel), List.mem_of_getElem? (i := 1587) (by decide +kernel), List.mem_of_getElem? (i := 1588) (by decide +kernel)⟩
theorem lw_p77 : lw_okq (⟨"OneSunbeamModel", "compared", "()V"⟩, 80) := ⟨⟨by decide +kernel, by decide +kernel⟩, List.mem_of_getElem? (i := 1173) (by decide +kernel), List.mem_of_getElem? (i := 1591) (by decide +kernel), List.mem_of_getElem? (i := 1592) (by decide +kernel)⟩
theorem lw_p78 : lw_okq (⟨"OneSunbeamModel", "answers", "(I)V"⟩, 80) := ⟨⟨by decide +kernel, by decide +kernel⟩, List.mem_of_getElem? (i := 1173) (by decide +kernel), List.mem_of_getElem? (i := 1595) (by decide +kernel), List.mem_of_getElem? (i := 1596) (by decide +kernel)⟩
theorem lw_p79 : lw_okq (⟨"OneSunbeamModel", "top", "()I"⟩, 80) := ⟨⟨by decide +kernel, by decide +kernel⟩, List.mem_of_getElem? (i := 1173) (by decide +kernel), List.mem_of_getElem? (i := 1599) (by decide +kernel), List.mem_of_getElem? (i := 1600) (by decide +kernel)⟩
def lw_privs_5 : List (MethodName × Nat) := [(⟨"OneSunbeamModel", "stands", "(Ljava/lang/String;)Z"⟩, 80), (⟨"OneSunbeamModel", "fails", "(II)V"⟩, 80), (⟨"OneSunbeamModel", "digits", "(I)I"⟩, 80), (⟨"OneSunbeamModel", "isDigit", "()Z"⟩, 80), (⟨"OneSunbeamModel", "sum", "()V"⟩, 80), (⟨"OneSunbeamModel", "term", "()V"⟩, 80), (⟨"OneSunbeamModel", "value", "()V"⟩, 80), (⟨"OneSunbeamModel", "isCounted", "(I)V"⟩, 80), (⟨"OneSunbeamModel", "entry", "(II)V"⟩, 80), (⟨"OneSunbeamModel", "takes", "(Ljava/lang/String;)Z"⟩, 80), (⟨"OneSunbeamModel", "test", "()V"⟩, 80), (⟨"OneSunbeamModel", "fact", "()Z"⟩, 80), (⟨"OneSunbeamModel", "opens", "(I)V"⟩, 80), (⟨"OneSunbeamModel", "compared", "()V"⟩, 80), (⟨"OneSunbeamModel", "answers", "(I)V"⟩, 80), (⟨"OneSunbeamModel", "top", "()I"⟩, 80)]
theorem lw_r5 : ∀ q ∈ lw_privs_5, lw_okq q := List.forall_mem_cons.mpr ⟨lw_p64, List.forall_mem_cons.mpr ⟨lw_p65, List.forall_mem_cons.mpr ⟨lw_p66, List.forall_mem_cons.mpr ⟨lw_p67, List.forall_mem_cons.mpr ⟨lw_p68, List.forall_mem_cons.mpr ⟨lw_p69, List.forall_mem_cons.mpr ⟨lw_p70, List.forall_mem_cons.mpr ⟨lw_p71, List.forall_mem_cons.mpr ⟨lw_p72, List.forall_mem_cons.mpr ⟨lw_p73, List.forall_mem_cons.mpr ⟨lw_p74, List.forall_mem_cons.mpr ⟨lw_p75, List.forall_mem_cons.mpr ⟨lw_p76, List.forall_mem_cons.mpr ⟨lw_p77, List.forall_mem_cons.mpr ⟨lw_p78, List.forall_mem_cons.mpr ⟨lw_p79, fun _ h => absurd h List.not_mem_nil⟩⟩⟩⟩⟩⟩⟩⟩⟩⟩⟩⟩⟩⟩⟩⟩
theorem lw_p80 : lw_okq (⟨"OneSunbeamModel", "isLaw", "(I)Z"⟩, 80) := ⟨⟨by decide +kernel, by decide +kernel⟩, List.mem_of_getElem? (i := 1173) (by decide +kernel), List.mem_of_getElem? (i := 1609) (by decide +kernel), List.mem_of_getElem? (i := 1610) (by decide +kernel)⟩
theorem lw_p81 : lw_okq (⟨"OneSunbeamModel", "goesDay", "(I)V"⟩, 80) := ⟨⟨by decide +kernel, by decide +kernel⟩, List.mem_of_getElem? (i := 1173) (by decide +kernel), List.mem_of_getElem? (i := 1614) (by decide +kernel), List.mem_of_getElem? (i := 1615) (by decide +kernel)⟩
theorem lw_p82 : lw_okq (⟨"OneSunbeamModel", "turns", "(III)V"⟩, 80) := ⟨⟨by decide +kernel, by decide +kernel⟩, List.mem_of_getElem? (i := 1173) (by decide +kernel), List.mem_of_getElem? (i := 1618) (by decide +kernel), List.mem_of_getElem? (i := 1619) (by decide +kernel)⟩
theorem lw_p83 : lw_okq (⟨"OneSunbeamModel", "asks", "(II)V"⟩, 80) := ⟨⟨by decide +kernel, by decide +kernel⟩, List.mem_of_getElem? (i := 1173) (by decide +kernel), List.mem_of_getElem? (i := 1622) (by decide +kernel), List.mem_of_getElem? (i := 1623) (by decide +kernel)⟩
theorem lw_p84 : lw_okq (⟨"OneSunbeamModel", "sunOf", "(I)I"⟩, 80) := ⟨⟨by decide +kernel, by decide +kernel⟩, List.mem_of_getElem? (i := 1173) (by decide +kernel), List.mem_of_getElem? (i := 1626) (by decide +kernel), List.mem_of_getElem? (i := 1627) (by decide +kernel)⟩
theorem lw_p85 : lw_okq (⟨"OneSunbeamModel", "answer", "(III)J"⟩, 80) := ⟨⟨by decide +kernel, by decide +kernel⟩, List.mem_of_getElem? (i := 1173) (by decide +kernel), List.mem_of_getElem? (i := 1631) (by decide +kernel), List.mem_of_getElem? (i := 1632) (by decide +kernel)⟩
theorem lw_p86 : lw_okq (⟨"OneSunbeamModel", "shines", "(I)V"⟩, 80) := ⟨⟨by decide +kernel, by decide +kernel⟩, List.mem_of_getElem? (i := 1173) (by decide +kernel), List.mem_of_getElem? (i := 1641) (by decide +kernel), List.mem_of_getElem? (i := 1642) (by decide +kernel)⟩
theorem lw_p87 : lw_okq (⟨"OneSunbeamModel", "traces", "(III)V"⟩, 80) := ⟨⟨by decide +kernel, by decide +kernel⟩, List.mem_of_getElem? (i := 1173) (by decide +kernel), List.mem_of_getElem? (i := 1645) (by decide +kernel), List.mem_of_getElem? (i := 1646) (by decide +kernel)⟩
theorem lw_p88 : lw_okq (⟨"OneSunbeamModel", "goes", "(IIII)V"⟩, 80) := ⟨⟨by decide +kernel, by decide +kernel⟩, List.mem_of_getElem? (i := 1173) (by decide +kernel), List.mem_of_getElem? (i := 1649) (by decide +kernel), List.mem_of_getElem? (i := 1650) (by decide +kernel)⟩
theorem lw_p89 : lw_okq (⟨"OneSunbeamModel", "yardOf", "(II)I"⟩, 80) := ⟨⟨by decide +kernel, by decide +kernel⟩, List.mem_of_getElem? (i := 1173) (by decide +kernel), List.mem_of_getElem? (i := 1653) (by decide +kernel), List.mem_of_getElem? (i := 1654) (by decide +kernel)⟩
theorem lw_p90 : lw_okq (⟨"OneSunbeamModel", "told", "(II)I"⟩, 80) := ⟨⟨by decide +kernel, by decide +kernel⟩, List.mem_of_getElem? (i := 1173) (by decide +kernel), List.mem_of_getElem? (i := 1657) (by decide +kernel), List.mem_of_getElem? (i := 1658) (by decide +kernel)⟩
theorem lw_p91 : lw_okq (⟨"OneSunbeamModel", "waitsFor", "(IIII)V"⟩, 80) := ⟨⟨by decide +kernel, by decide +kernel⟩, List.mem_of_getElem? (i := 1173) (by decide +kernel), List.mem_of_getElem? (i := 1667) (by decide +kernel), List.mem_of_getElem? (i := 1668) (by decide +kernel)⟩
theorem lw_p92 : lw_okq (⟨"OneSunbeamModel", "blindCells", "()I"⟩, 80) := ⟨⟨by decide +kernel, by decide +kernel⟩, List.mem_of_getElem? (i := 1173) (by decide +kernel), List.mem_of_getElem? (i := 1671) (by decide +kernel), List.mem_of_getElem? (i := 1672) (by decide +kernel)⟩
theorem lw_p93 : lw_okq (⟨"OneSunbeamModel", "met", "()I"⟩, 80) := ⟨⟨by decide +kernel, by decide +kernel⟩, List.mem_of_getElem? (i := 1173) (by decide +kernel), List.mem_of_getElem? (i := 1675) (by decide +kernel), List.mem_of_getElem? (i := 1676) (by decide +kernel)⟩
theorem lw_p94 : lw_okq (⟨"OneSunbeamModel", "isYard", "(I)Z"⟩, 80) := ⟨⟨by decide +kernel, by decide +kernel⟩, List.mem_of_getElem? (i := 1173) (by decide +kernel), List.mem_of_getElem? (i := 1687) (by decide +kernel), List.mem_of_getElem? (i := 1688) (by decide +kernel)⟩
theorem lw_p95 : lw_okq (⟨"OneSunbeamModel", "isBright", "(I)Z"⟩, 80) := ⟨⟨by decide +kernel, by decide +kernel⟩, List.mem_of_getElem? (i := 1173) (by decide +kernel), List.mem_of_getElem? (i := 1699) (by decide +kernel), List.mem_of_getElem? (i := 1700) (by decide +kernel)⟩
def lw_privs_6 : List (MethodName × Nat) := [(⟨"OneSunbeamModel", "isLaw", "(I)Z"⟩, 80), (⟨"OneSunbeamModel", "goesDay", "(I)V"⟩, 80), (⟨"OneSunbeamModel", "turns", "(III)V"⟩, 80), (⟨"OneSunbeamModel", "asks", "(II)V"⟩, 80), (⟨"OneSunbeamModel", "sunOf", "(I)I"⟩, 80), (⟨"OneSunbeamModel", "answer", "(III)J"⟩, 80), (⟨"OneSunbeamModel", "shines", "(I)V"⟩, 80), (⟨"OneSunbeamModel", "traces", "(III)V"⟩, 80), (⟨"OneSunbeamModel", "goes", "(IIII)V"⟩, 80), (⟨"OneSunbeamModel", "yardOf", "(II)I"⟩, 80), (⟨"OneSunbeamModel", "told", "(II)I"⟩, 80), (⟨"OneSunbeamModel", "waitsFor", "(IIII)V"⟩, 80), (⟨"OneSunbeamModel", "blindCells", "()I"⟩, 80), (⟨"OneSunbeamModel", "met", "()I"⟩, 80), (⟨"OneSunbeamModel", "isYard", "(I)Z"⟩, 80), (⟨"OneSunbeamModel", "isBright", "(I)Z"⟩, 80)]
theorem lw_r6 : ∀ q ∈ lw_privs_6, lw_okq q := List.forall_mem_cons.mpr ⟨lw_p80, List.forall_mem_cons.mpr ⟨lw_p81, List.forall_mem_cons.mpr ⟨lw_p82, List.forall_mem_cons.mpr ⟨lw_p83, List.forall_mem_cons.mpr ⟨lw_p84, List.forall_mem_cons.mpr ⟨lw_p85, List.forall_mem_cons.mpr ⟨lw_p86, List.forall_mem_cons.mpr ⟨lw_p87, List.forall_mem_cons.mpr ⟨lw_p88, List.forall_mem_cons.mpr ⟨lw_p89, List.forall_mem_cons.mpr ⟨lw_p90, List.forall_mem_cons.mpr ⟨lw_p91, List.forall_mem_cons.mpr ⟨lw_p92, List.forall_mem_cons.mpr ⟨lw_p93, List.forall_mem_cons.mpr ⟨lw_p94, List.forall_mem_cons.mpr ⟨lw_p95, fun _ h => absurd h List.not_mem_nil⟩⟩⟩⟩⟩⟩⟩⟩⟩⟩⟩⟩⟩⟩⟩⟩
theorem lw_p96 : lw_okq (⟨"OneSunbeamModel", "allGot", "()I"⟩, 80) := ⟨⟨by decide +kernel, by decide +kernel⟩, List.mem_of_getElem? (i := 1173) (by decide +kernel), List.mem_of_getElem? (i := 1708) (by decide +kernel), List.mem_of_getElem? (i := 1709) (by decide +kernel)⟩
theorem lw_p97 : lw_okq (⟨"OneSunbeamModel", "firstBlind", "()I"⟩, 80) := ⟨⟨by decide +kernel, by decide +kernel⟩, List.mem_of_getElem? (i := 1173) (by decide +kernel), List.mem_of_getElem? (i := 1712) (by decide +kernel), List.mem_of_getElem? (i := 1713) (by decide +kernel)⟩
theorem lw_p98 : lw_okq (⟨"OneSunbeamModel", "isSet", "(I)Z"⟩, 80) := ⟨⟨by decide +kernel, by decide +kernel⟩, List.mem_of_getElem? (i := 1173) (by decide +kernel), List.mem_of_getElem? (i := 1740) (by decide +kernel), List.mem_of_getElem? (i := 1741) (by decide +kernel)⟩
theorem lw_p99 : lw_okq (⟨"OneSunbeamModel", "searches", "(III)I"⟩, 80) := ⟨⟨by decide +kernel, by decide +kernel⟩, List.mem_of_getElem? (i := 1173) (by decide +kernel), List.mem_of_getElem? (i := 1747) (by decide +kernel), List.mem_of_getElem? (i := 1748) (by decide +kernel)⟩
theorem lw_p100 : lw_okq (⟨"OneSunbeamModel", "fairest", "()I"⟩, 80) := ⟨⟨by decide +kernel, by decide +kernel⟩, List.mem_of_getElem? (i := 1173) (by decide +kernel), List.mem_of_getElem? (i := 1754) (by decide +kernel), List.mem_of_getElem? (i := 1755) (by decide +kernel)⟩
theorem lw_p101 : lw_okq (⟨"OneSunbeamModel", "isMended", "(IIIII)V"⟩, 80) := ⟨⟨by decide +kernel, by decide +kernel⟩, List.mem_of_getElem? (i := 1173) (by decide +kernel), List.mem_of_getElem? (i := 1766) (by decide +kernel), List.mem_of_getElem? (i := 1767) (by decide +kernel)⟩
theorem lw_p102 : lw_okq (⟨"OneSunbeamModel", "isHalf", "(I)Z"⟩, 80) := ⟨⟨by decide +kernel, by decide +kernel⟩, List.mem_of_getElem? (i := 1173) (by decide +kernel), List.mem_of_getElem? (i := 1770) (by decide +kernel), List.mem_of_getElem? (i := 1771) (by decide +kernel)⟩
theorem lw_p103 : lw_okq (⟨"OneSunbeamModel", "mendsOne", "(I)Z"⟩, 80) := ⟨⟨by decide +kernel, by decide +kernel⟩, List.mem_of_getElem? (i := 1173) (by decide +kernel), List.mem_of_getElem? (i := 1774) (by decide +kernel), List.mem_of_getElem? (i := 1775) (by decide +kernel)⟩
theorem lw_p104 : lw_okq (⟨"OneSunbeamModel", "mendsTwo", "(I)Z"⟩, 80) := ⟨⟨by decide +kernel, by decide +kernel⟩, List.mem_of_getElem? (i := 1173) (by decide +kernel), List.mem_of_getElem? (i := 1778) (by decide +kernel), List.mem_of_getElem? (i := 1779) (by decide +kernel)⟩
theorem lw_p105 : lw_okq (⟨"OneSunbeamModel", "mendsPair", "(III)Z"⟩, 80) := ⟨⟨by decide +kernel, by decide +kernel⟩, List.mem_of_getElem? (i := 1173) (by decide +kernel), List.mem_of_getElem? (i := 1782) (by decide +kernel), List.mem_of_getElem? (i := 1783) (by decide +kernel)⟩
theorem lw_p106 : lw_okq (⟨"OneSunbeamModel", "follows", "(I)V"⟩, 80) := ⟨⟨by decide +kernel, by decide +kernel⟩, List.mem_of_getElem? (i := 1173) (by decide +kernel), List.mem_of_getElem? (i := 1795) (by decide +kernel), List.mem_of_getElem? (i := 1796) (by decide +kernel)⟩
theorem lw_p107 : lw_okq (⟨"OneSunbeamModel", "keeps", "()V"⟩, 80) := ⟨⟨by decide +kernel, by decide +kernel⟩, List.mem_of_getElem? (i := 1173) (by decide +kernel), List.mem_of_getElem? (i := 1807) (by decide +kernel), List.mem_of_getElem? (i := 1808) (by decide +kernel)⟩
theorem lw_p108 : lw_okq (⟨"OneSunbeamModel", "putsBack", "()V"⟩, 80) := ⟨⟨by decide +kernel, by decide +kernel⟩, List.mem_of_getElem? (i := 1173) (by decide +kernel), List.mem_of_getElem? (i := 1811) (by decide +kernel), List.mem_of_getElem? (i := 1812) (by decide +kernel)⟩
theorem lw_p109 : lw_okq (⟨"OneSunbeamModel", "carriesAll", "(IZ)V"⟩, 80) := ⟨⟨by decide +kernel, by decide +kernel⟩, List.mem_of_getElem? (i := 1173) (by decide +kernel), List.mem_of_getElem? (i := 1829) (by decide +kernel), List.mem_of_getElem? (i := 1830) (by decide +kernel)⟩
theorem lw_p110 : lw_okq (⟨"OneSunbeamModel", "carry", "([I)V"⟩, 80) := ⟨⟨by decide +kernel, by decide +kernel⟩, List.mem_of_getElem? (i := 1173) (by decide +kernel), List.mem_of_getElem? (i := 1833) (by decide +kernel), List.mem_of_getElem? (i := 1834) (by decide +kernel)⟩
def lw_privs_7 : List (MethodName × Nat) := [(⟨"OneSunbeamModel", "allGot", "()I"⟩, 80), (⟨"OneSunbeamModel", "firstBlind", "()I"⟩, 80), (⟨"OneSunbeamModel", "isSet", "(I)Z"⟩, 80), (⟨"OneSunbeamModel", "searches", "(III)I"⟩, 80), (⟨"OneSunbeamModel", "fairest", "()I"⟩, 80), (⟨"OneSunbeamModel", "isMended", "(IIIII)V"⟩, 80), (⟨"OneSunbeamModel", "isHalf", "(I)Z"⟩, 80), (⟨"OneSunbeamModel", "mendsOne", "(I)Z"⟩, 80), (⟨"OneSunbeamModel", "mendsTwo", "(I)Z"⟩, 80), (⟨"OneSunbeamModel", "mendsPair", "(III)Z"⟩, 80), (⟨"OneSunbeamModel", "follows", "(I)V"⟩, 80), (⟨"OneSunbeamModel", "keeps", "()V"⟩, 80), (⟨"OneSunbeamModel", "putsBack", "()V"⟩, 80), (⟨"OneSunbeamModel", "carriesAll", "(IZ)V"⟩, 80), (⟨"OneSunbeamModel", "carry", "([I)V"⟩, 80)]
theorem lw_r7 : ∀ q ∈ lw_privs_7, lw_okq q := List.forall_mem_cons.mpr ⟨lw_p96, List.forall_mem_cons.mpr ⟨lw_p97, List.forall_mem_cons.mpr ⟨lw_p98, List.forall_mem_cons.mpr ⟨lw_p99, List.forall_mem_cons.mpr ⟨lw_p100, List.forall_mem_cons.mpr ⟨lw_p101, List.forall_mem_cons.mpr ⟨lw_p102, List.forall_mem_cons.mpr ⟨lw_p103, List.forall_mem_cons.mpr ⟨lw_p104, List.forall_mem_cons.mpr ⟨lw_p105, List.forall_mem_cons.mpr ⟨lw_p106, List.forall_mem_cons.mpr ⟨lw_p107, List.forall_mem_cons.mpr ⟨lw_p108, List.forall_mem_cons.mpr ⟨lw_p109, List.forall_mem_cons.mpr ⟨lw_p110, fun _ h => absurd h List.not_mem_nil⟩⟩⟩⟩⟩⟩⟩⟩⟩⟩⟩⟩⟩⟩⟩
def lw_privs : List (MethodName × Nat) := lw_privs_1 ++ (lw_privs_2 ++ (lw_privs_3 ++ (lw_privs_4 ++ (lw_privs_5 ++ (lw_privs_6 ++ (lw_privs_7))))))
def lw_tbl : List Cond := k2_sels lw_privs ++ tables_1
theorem lw_privs_ok : ∀ q ∈ lw_privs, lw_okq q := by
  show ∀ q ∈ lw_privs_1 ++ (lw_privs_2 ++ (lw_privs_3 ++ (lw_privs_4 ++ (lw_privs_5 ++ (lw_privs_6 ++ (lw_privs_7)))))), lw_okq q
  exact List.forall_mem_append.mpr ⟨lw_r1, List.forall_mem_append.mpr ⟨lw_r2, List.forall_mem_append.mpr ⟨lw_r3, List.forall_mem_append.mpr ⟨lw_r4, List.forall_mem_append.mpr ⟨lw_r5, List.forall_mem_append.mpr ⟨lw_r6, lw_r7⟩⟩⟩⟩⟩⟩

def RX0 : String := "OneSunbeam$Aiming"
def TX0 : u_T := fun k => match k with
  | 0 => ("OneSunbeam$Aiming", "beams", "LOneSunbeam$Beams;", true)
  | 1 => ("OneSunbeam$Aiming", "members", "[I", true)
  | 2 => ("OneSunbeam$Aiming", "before", "[I", true)
  | 3 => ("OneSunbeam$Aiming", "tried", "[I", true)
  | 4 => ("OneSunbeam$Aiming", "best", "[I", true)
  | 5 => ("OneSunbeam$Aiming", "size", "I", false)
  | _ => ("OneSunbeam$Aiming", "most", "I", false)
def tyX0 : Nat → FieldType := fun k => match k with
  | 0 => .object "OneSunbeam$Beams"
  | 1 => .array .int
  | 2 => .array .int
  | 3 => .array .int
  | 4 => .array .int
  | 5 => .int
  | _ => .int
abbrev wsX00 : List Cond := u_ws RX0 TX0 7
theorem nmX0 : ∀ a, a < 7 → ∀ b, b < 7 → a ≠ b → (TX0 a).2.1 ≠ (TX0 b).2.1 := by decide +kernel
theorem tyX0_ok : ∀ k, k < 7 → parseFieldDescriptor (TX0 k).2.2.1 = some (tyX0 k) := by decide +kernel
abbrev cX0_init : ByteArray := prog_2_method_1_code
def yX0_init : MethodName := ⟨RX0, "<init>", "(LOneSunbeam$Beams;)V"⟩
abbrev cX0_answer : ByteArray := prog_2_method_2_code
def yX0_answer : MethodName := ⟨RX0, "answer", "(I)I"⟩
abbrev cX0_search : ByteArray := prog_2_method_3_code
def yX0_search : MethodName := ⟨RX0, "search", "(LOneSunbeam$Town;III)V"⟩
abbrev cX0_gather : ByteArray := prog_2_method_4_code
def yX0_gather : MethodName := ⟨RX0, "gather", "(LOneSunbeam$Town;I)V"⟩
abbrev cX0_putSlants : ByteArray := prog_2_method_5_code
def yX0_putSlants : MethodName := ⟨RX0, "putSlants", "(LOneSunbeam$Town;[I)V"⟩
abbrev cX0_lastTouched : ByteArray := prog_2_method_6_code
def yX0_lastTouched : MethodName := ⟨RX0, "lastTouched", "()I"⟩
abbrev cX0_goOn : ByteArray := prog_2_method_7_code
def yX0_goOn : MethodName := ⟨RX0, "goOn", "(I)Z"⟩
abbrev cX0_leastGot : ByteArray := prog_2_method_8_code
def yX0_leastGot : MethodName := ⟨RX0, "leastGot", "(LOneSunbeam$Town;)I"⟩
def RX1 : String := "OneSunbeam$Beams"
def TX1 : u_T := fun k => match k with
  | 0 => ("OneSunbeam$Beams", "got", "[I", true)
  | 1 => ("OneSunbeam$Beams", "passed", "[I", true)
  | 2 => ("OneSunbeam$Beams", "lost", "I", false)
  | 3 => ("OneSunbeam$Beams", "spilt", "I", false)
  | 4 => ("OneSunbeam$Beams", "cellCount", "I", false)
  | 5 => ("OneSunbeam$Beams", "beamCount", "I", false)
  | 6 => ("OneSunbeam$Beams", "isCut", "Z", false)
  | 7 => ("OneSunbeam$Beams", "touched", "I", false)
  | 8 => ("OneSunbeam$Beams", "isWatching", "Z", false)
  | 9 => ("OneSunbeam$Beams", "waitingFrom", "[I", true)
  | 10 => ("OneSunbeam$Beams", "waitingLight", "[I", true)
  | 11 => ("OneSunbeam$Beams", "waitingHead", "I", false)
  | _ => ("OneSunbeam$Beams", "waitingCount", "I", false)
def tyX1 : Nat → FieldType := fun k => match k with
  | 0 => .array .int
  | 1 => .array .int
  | 2 => .int
  | 3 => .int
  | 4 => .int
  | 5 => .int
  | 6 => .boolean
  | 7 => .int
  | 8 => .boolean
  | 9 => .array .int
  | 10 => .array .int
  | 11 => .int
  | _ => .int
abbrev wsX10 : List Cond := u_ws RX1 TX1 13
theorem nmX1 : ∀ a, a < 13 → ∀ b, b < 13 → a ≠ b → (TX1 a).2.1 ≠ (TX1 b).2.1 := by decide +kernel
theorem tyX1_ok : ∀ k, k < 13 → parseFieldDescriptor (TX1 k).2.2.1 = some (tyX1 k) := by decide +kernel
abbrev cX1_init : ByteArray := prog_3_method_1_code
def yX1_init : MethodName := ⟨RX1, "<init>", "()V"⟩
abbrev cX1_shine : ByteArray := prog_3_method_2_code
def yX1_shine : MethodName := ⟨RX1, "shine", "(LOneSunbeam$Town;I)V"⟩
abbrev cX1_shineWatched : ByteArray := prog_3_method_3_code
def yX1_shineWatched : MethodName := ⟨RX1, "shineWatched", "(LOneSunbeam$Town;I)V"⟩
abbrev cX1_total : ByteArray := prog_3_method_4_code
def yX1_total : MethodName := ⟨RX1, "total", "()I"⟩
abbrev cX1_touches : ByteArray := prog_3_method_5_code
def yX1_touches : MethodName := ⟨RX1, "touches", "(I)Z"⟩
abbrev cX1_touchedSet : ByteArray := prog_3_method_6_code
def yX1_touchedSet : MethodName := ⟨RX1, "touchedSet", "()I"⟩
abbrev cX1_blindCount : ByteArray := prog_3_method_7_code
def yX1_blindCount : MethodName := ⟨RX1, "blindCount", "(LOneSunbeam$Town;)I"⟩
abbrev cX1_firstBlind : ByteArray := prog_3_method_8_code
def yX1_firstBlind : MethodName := ⟨RX1, "firstBlind", "(LOneSunbeam$Town;)I"⟩
abbrev cX1_isBlind : ByteArray := prog_3_method_9_code
def yX1_isBlind : MethodName := ⟨RX1, "isBlind", "(LOneSunbeam$Town;I)Z"⟩
abbrev cX1_clear : ByteArray := prog_3_method_10_code
def yX1_clear : MethodName := ⟨RX1, "clear", "()V"⟩
abbrev cX1_follow : ByteArray := prog_3_method_11_code
def yX1_follow : MethodName := ⟨RX1, "follow", "(LOneSunbeam$Town;IIII)V"⟩
abbrev cX1_passAir : ByteArray := prog_3_method_12_code
def yX1_passAir : MethodName := ⟨RX1, "passAir", "(LOneSunbeam$Town;II)I"⟩
abbrev cX1_passYard : ByteArray := prog_3_method_13_code
def yX1_passYard : MethodName := ⟨RX1, "passYard", "(LOneSunbeam$Town;II)I"⟩
abbrev cX1_passMirror : ByteArray := prog_3_method_14_code
def yX1_passMirror : MethodName := ⟨RX1, "passMirror", "(LOneSunbeam$Town;III)I"⟩
abbrev cX1_letWait : ByteArray := prog_3_method_15_code
def yX1_letWait : MethodName := ⟨RX1, "letWait", "(II)V"⟩
def RX2 : String := "OneSunbeam$Keepers"
def TX2 : u_T := fun k => match k with
  | 0 => ("OneSunbeam$Keepers", "beams", "LOneSunbeam$Beams;", true)
  | 1 => ("OneSunbeam$Keepers", "gotToday", "[I", true)
  | 2 => ("OneSunbeam$Keepers", "stack", "[J", true)
  | _ => ("OneSunbeam$Keepers", "hour", "I", false)
def tyX2 : Nat → FieldType := fun k => match k with
  | 0 => .object "OneSunbeam$Beams"
  | 1 => .array .int
  | 2 => .array .long
  | _ => .int
abbrev wsX20 : List Cond := u_ws RX2 TX2 4
theorem nmX2 : ∀ a, a < 4 → ∀ b, b < 4 → a ≠ b → (TX2 a).2.1 ≠ (TX2 b).2.1 := by decide +kernel
theorem tyX2_ok : ∀ k, k < 4 → parseFieldDescriptor (TX2 k).2.2.1 = some (tyX2 k) := by decide +kernel
abbrev cX2_init : ByteArray := prog_4_method_1_code
def yX2_init : MethodName := ⟨RX2, "<init>", "(LOneSunbeam$Beams;)V"⟩
abbrev cX2_passDay : ByteArray := prog_4_method_2_code
def yX2_passDay : MethodName := ⟨RX2, "passDay", "(LOneSunbeam$Town;LOneSunbeam$Law;Z)I"⟩
abbrev cX2_turnMirrors : ByteArray := prog_4_method_3_code
def yX2_turnMirrors : MethodName := ⟨RX2, "turnMirrors", "(LOneSunbeam$Town;LOneSunbeam$Law;)V"⟩
abbrev cX2_addToday : ByteArray := prog_4_method_4_code
def yX2_addToday : MethodName := ⟨RX2, "addToday", "()V"⟩
abbrev cX2_holds : ByteArray := prog_4_method_5_code
def yX2_holds : MethodName := ⟨RX2, "holds", "(LOneSunbeam$Town;LOneSunbeam$Law;I)Z"⟩
abbrev cX2_valueOf : ByteArray := prog_4_method_6_code
def yX2_valueOf : MethodName := ⟨RX2, "valueOf", "(LOneSunbeam$Town;LOneSunbeam$Law;III)J"⟩
abbrev cX2_wordValue : ByteArray := prog_4_method_7_code
def yX2_wordValue : MethodName := ⟨RX2, "wordValue", "(LOneSunbeam$Town;II)J"⟩
abbrev cX2_gotByYard : ByteArray := prog_4_method_8_code
def yX2_gotByYard : MethodName := ⟨RX2, "gotByYard", "(I)J"⟩
abbrev cX2_join : ByteArray := prog_4_method_9_code
def yX2_join : MethodName := ⟨RX2, "join", "(IJJ)J"⟩
abbrev cX2_joinTruth : ByteArray := prog_4_method_10_code
def yX2_joinTruth : MethodName := ⟨RX2, "joinTruth", "(IJJ)Z"⟩
def RX3 : String := "OneSunbeam$Law"
def TX3 : u_T := fun k => match k with
  | 0 => ("OneSunbeam$Law", "code", "[I", true)
  | 1 => ("OneSunbeam$Law", "mirror", "[I", true)
  | 2 => ("OneSunbeam$Law", "sumFrom", "[I", true)
  | 3 => ("OneSunbeam$Law", "testFrom", "[I", true)
  | 4 => ("OneSunbeam$Law", "testTo", "[I", true)
  | 5 => ("OneSunbeam$Law", "clauseCount", "I", false)
  | _ => ("OneSunbeam$Law", "length", "I", false)
def tyX3 : Nat → FieldType := fun k => match k with
  | 0 => .array .int
  | 1 => .array .int
  | 2 => .array .int
  | 3 => .array .int
  | 4 => .array .int
  | 5 => .int
  | _ => .int
abbrev wsX30 : List Cond := u_ws RX3 TX3 7
theorem nmX3 : ∀ a, a < 7 → ∀ b, b < 7 → a ≠ b → (TX3 a).2.1 ≠ (TX3 b).2.1 := by decide +kernel
theorem tyX3_ok : ∀ k, k < 7 → parseFieldDescriptor (TX3 k).2.2.1 = some (tyX3 k) := by decide +kernel
abbrev cX3_init : ByteArray := prog_5_method_1_code
def yX3_init : MethodName := ⟨RX3, "<init>", "()V"⟩
abbrev cX3_clear : ByteArray := prog_5_method_2_code
def yX3_clear : MethodName := ⟨RX3, "clear", "()V"⟩
abbrev cX3_add : ByteArray := prog_5_method_3_code
def yX3_add : MethodName := ⟨RX3, "add", "(I)V"⟩
abbrev cX3_beginClause : ByteArray := prog_5_method_4_code
def yX3_beginClause : MethodName := ⟨RX3, "beginClause", "(I)V"⟩
abbrev cX3_beginTest : ByteArray := prog_5_method_5_code
def yX3_beginTest : MethodName := ⟨RX3, "beginTest", "()V"⟩
abbrev cX3_endClause : ByteArray := prog_5_method_6_code
def yX3_endClause : MethodName := ⟨RX3, "endClause", "()V"⟩
def RX4 : String := "OneSunbeam$LawReader"
def TX4 : u_T := fun k => match k with
  | 0 => ("OneSunbeam$LawReader", "text", "[B", true)
  | 1 => ("OneSunbeam$LawReader", "open", "[I", true)
  | 2 => ("OneSunbeam$LawReader", "openCount", "I", false)
  | 3 => ("OneSunbeam$LawReader", "length", "I", false)
  | 4 => ("OneSunbeam$LawReader", "place", "I", false)
  | 5 => ("OneSunbeam$LawReader", "token", "I", false)
  | 6 => ("OneSunbeam$LawReader", "tokenLength", "I", false)
  | 7 => ("OneSunbeam$LawReader", "awaited", "I", false)
  | 8 => ("OneSunbeam$LawReader", "part", "I", false)
  | 9 => ("OneSunbeam$LawReader", "depth", "I", false)
  | 10 => ("OneSunbeam$LawReader", "brackets", "I", false)
  | 11 => ("OneSunbeam$LawReader", "valueCount", "I", false)
  | 12 => ("OneSunbeam$LawReader", "fault", "I", false)
  | _ => ("OneSunbeam$LawReader", "draft", "LOneSunbeam$Law;", false)
def tyX4 : Nat → FieldType := fun k => match k with
  | 0 => .array .byte
  | 1 => .array .int
  | 2 => .int
  | 3 => .int
  | 4 => .int
  | 5 => .int
  | 6 => .int
  | 7 => .int
  | 8 => .int
  | 9 => .int
  | 10 => .int
  | 11 => .int
  | 12 => .int
  | _ => .object "OneSunbeam$Law"
abbrev wsX40 : List Cond := u_ws RX4 TX4 14
theorem nmX4 : ∀ a, a < 14 → ∀ b, b < 14 → a ≠ b → (TX4 a).2.1 ≠ (TX4 b).2.1 := by decide +kernel
theorem tyX4_ok : ∀ k, k < 14 → parseFieldDescriptor (TX4 k).2.2.1 = some (tyX4 k) := by decide +kernel
abbrev cX4_init : ByteArray := prog_6_method_1_code
def yX4_init : MethodName := ⟨RX4, "<init>", "()V"⟩
abbrev cX4_read : ByteArray := prog_6_method_2_code
def yX4_read : MethodName := ⟨RX4, "read", "([BILOneSunbeam$Law;)I"⟩
abbrev cX4_fail : ByteArray := prog_6_method_3_code
def yX4_fail : MethodName := ⟨RX4, "fail", "(I)V"⟩
abbrev cX4_takeToken : ByteArray := prog_6_method_4_code
def yX4_takeToken : MethodName := ⟨RX4, "takeToken", "()V"⟩
abbrev cX4_takeTurn : ByteArray := prog_6_method_5_code
def yX4_takeTurn : MethodName := ⟨RX4, "takeTurn", "()V"⟩
abbrev cX4_takeMirror : ByteArray := prog_6_method_6_code
def yX4_takeMirror : MethodName := ⟨RX4, "takeMirror", "()V"⟩
abbrev cX4_takeFact : ByteArray := prog_6_method_7_code
def yX4_takeFact : MethodName := ⟨RX4, "takeFact", "()V"⟩
abbrev cX4_takeValue : ByteArray := prog_6_method_8_code
def yX4_takeValue : MethodName := ⟨RX4, "takeValue", "()V"⟩
abbrev cX4_takeBehind : ByteArray := prog_6_method_9_code
def yX4_takeBehind : MethodName := ⟨RX4, "takeBehind", "()V"⟩
abbrev cX4_takeSign : ByteArray := prog_6_method_10_code
def yX4_takeSign : MethodName := ⟨RX4, "takeSign", "(II)V"⟩
abbrev cX4_closeBracket : ByteArray := prog_6_method_11_code
def yX4_closeBracket : MethodName := ⟨RX4, "closeBracket", "()V"⟩
abbrev cX4_takeClauseEnd : ByteArray := prog_6_method_12_code
def yX4_takeClauseEnd : MethodName := ⟨RX4, "takeClauseEnd", "()V"⟩
abbrev cX4_countsOneMore : ByteArray := prog_6_method_13_code
def yX4_countsOneMore : MethodName := ⟨RX4, "countsOneMore", "()Z"⟩
abbrev cX4_push : ByteArray := prog_6_method_14_code
def yX4_push : MethodName := ⟨RX4, "push", "(I)V"⟩
abbrev cX4_popDownTo : ByteArray := prog_6_method_15_code
def yX4_popDownTo : MethodName := ⟨RX4, "popDownTo", "(I)V"⟩
abbrev cX4_rankOf : ByteArray := prog_6_method_16_code
def yX4_rankOf : MethodName := ⟨RX4, "rankOf", "(I)I"⟩
abbrev cX4_readToken : ByteArray := prog_6_method_17_code
def yX4_readToken : MethodName := ⟨RX4, "readToken", "()V"⟩
abbrev cX4_readNumber : ByteArray := prog_6_method_18_code
def yX4_readNumber : MethodName := ⟨RX4, "readNumber", "()V"⟩
abbrev cX4_yardHere : ByteArray := prog_6_method_19_code
def yX4_yardHere : MethodName := ⟨RX4, "yardHere", "()I"⟩
abbrev cX4_wordHere : ByteArray := prog_6_method_20_code
def yX4_wordHere : MethodName := ⟨RX4, "wordHere", "()I"⟩
abbrev cX4_isWord : ByteArray := prog_6_method_21_code
def yX4_isWord : MethodName := ⟨RX4, "isWord", "(Ljava/lang/String;)Z"⟩
abbrev cX4_signHere : ByteArray := prog_6_method_22_code
def yX4_signHere : MethodName := ⟨RX4, "signHere", "()I"⟩
abbrev cX4_byteAt : ByteArray := prog_6_method_23_code
def yX4_byteAt : MethodName := ⟨RX4, "byteAt", "(I)I"⟩
abbrev cX4_isDigit : ByteArray := prog_6_method_24_code
def yX4_isDigit : MethodName := ⟨RX4, "isDigit", "(I)Z"⟩
abbrev cX4_isLetter : ByteArray := prog_6_method_25_code
def yX4_isLetter : MethodName := ⟨RX4, "isLetter", "(I)Z"⟩
def RX5 : String := "OneSunbeam$Mending"
def TX5 : u_T := fun k => match k with
  | 0 => ("OneSunbeam$Mending", "answers", "[I", true)
  | 1 => ("OneSunbeam$Mending", "town", "LOneSunbeam$Town;", true)
  | 2 => ("OneSunbeam$Mending", "beams", "LOneSunbeam$Beams;", true)
  | 3 => ("OneSunbeam$Mending", "needed", "[I", true)
  | 4 => ("OneSunbeam$Mending", "touchedWith", "[I", true)
  | 5 => ("OneSunbeam$Mending", "hour", "I", false)
  | 6 => ("OneSunbeam$Mending", "breaking", "I", false)
  | 7 => ("OneSunbeam$Mending", "brokenBefore", "I", false)
  | _ => ("OneSunbeam$Mending", "touchedNow", "I", false)
def tyX5 : Nat → FieldType := fun k => match k with
  | 0 => .array .int
  | 1 => .object "OneSunbeam$Town"
  | 2 => .object "OneSunbeam$Beams"
  | 3 => .array .int
  | 4 => .array .int
  | 5 => .int
  | 6 => .int
  | 7 => .int
  | _ => .int
abbrev wsX50 : List Cond := u_ws RX5 TX5 9
theorem nmX5 : ∀ a, a < 9 → ∀ b, b < 9 → a ≠ b → (TX5 a).2.1 ≠ (TX5 b).2.1 := by decide +kernel
theorem tyX5_ok : ∀ k, k < 9 → parseFieldDescriptor (TX5 k).2.2.1 = some (tyX5 k) := by decide +kernel
abbrev cX5_init : ByteArray := prog_7_method_1_code
def yX5_init : MethodName := ⟨RX5, "<init>", "(LOneSunbeam$Town;LOneSunbeam$Beams;)V"⟩
abbrev cX5_begin : ByteArray := prog_7_method_2_code
def yX5_begin : MethodName := ⟨RX5, "begin", "(II)V"⟩
abbrev cX5_restore : ByteArray := prog_7_method_3_code
def yX5_restore : MethodName := ⟨RX5, "restore", "()V"⟩
abbrev cX5_needsNone : ByteArray := prog_7_method_4_code
def yX5_needsNone : MethodName := ⟨RX5, "needsNone", "()Z"⟩
abbrev cX5_findOne : ByteArray := prog_7_method_5_code
def yX5_findOne : MethodName := ⟨RX5, "findOne", "()Z"⟩
abbrev cX5_findTwo : ByteArray := prog_7_method_6_code
def yX5_findTwo : MethodName := ⟨RX5, "findTwo", "()V"⟩
abbrev cX5_isEnough : ByteArray := prog_7_method_7_code
def yX5_isEnough : MethodName := ⟨RX5, "isEnough", "()Z"⟩
abbrev cX5_isMendedBy : ByteArray := prog_7_method_8_code
def yX5_isMendedBy : MethodName := ⟨RX5, "isMendedBy", "(II)Z"⟩
abbrev cX5_findSlants : ByteArray := prog_7_method_9_code
def yX5_findSlants : MethodName := ⟨RX5, "findSlants", "(II)Z"⟩
abbrev cX5_doesPairMatter : ByteArray := prog_7_method_10_code
def yX5_doesPairMatter : MethodName := ⟨RX5, "doesPairMatter", "(IIII)Z"⟩
abbrev cX5_isIn : ByteArray := prog_7_method_11_code
def yX5_isIn : MethodName := ⟨RX5, "isIn", "(II)Z"⟩
def RX6 : String := "OneSunbeam$Opening"
def TX6 : u_T := fun k => match k with
  | 0 => ("OneSunbeam$Opening", "cell", "I", false)
  | 1 => ("OneSunbeam$Opening", "way", "I", false)
  | 2 => ("OneSunbeam$Opening", "most", "I", false)
  | _ => ("OneSunbeam$Opening", "beams", "LOneSunbeam$Beams;", true)
def tyX6 : Nat → FieldType := fun k => match k with
  | 0 => .int
  | 1 => .int
  | 2 => .int
  | _ => .object "OneSunbeam$Beams"
abbrev wsX60 : List Cond := u_ws RX6 TX6 4
theorem nmX6 : ∀ a, a < 4 → ∀ b, b < 4 → a ≠ b → (TX6 a).2.1 ≠ (TX6 b).2.1 := by decide +kernel
theorem tyX6_ok : ∀ k, k < 4 → parseFieldDescriptor (TX6 k).2.2.1 = some (tyX6 k) := by decide +kernel
abbrev cX6_init : ByteArray := prog_8_method_1_code
def yX6_init : MethodName := ⟨RX6, "<init>", "(LOneSunbeam$Beams;)V"⟩
abbrev cX6_search : ByteArray := prog_8_method_2_code
def yX6_search : MethodName := ⟨RX6, "search", "(LOneSunbeam$Town;I)V"⟩
abbrev cX6_isEdge : ByteArray := prog_8_method_3_code
def yX6_isEdge : MethodName := ⟨RX6, "isEdge", "(LOneSunbeam$Town;II)Z"⟩
abbrev cX6_tryWays : ByteArray := prog_8_method_4_code
def yX6_tryWays : MethodName := ⟨RX6, "tryWays", "(LOneSunbeam$Town;I)V"⟩
def RX7 : String := "OneSunbeam$Theft"
def TX7 : u_T := fun k => match k with
  | 0 => ("OneSunbeam$Theft", "mirror", "I", false)
  | 1 => ("OneSunbeam$Theft", "missing", "I", false)
  | 2 => ("OneSunbeam$Theft", "explains", "I", false)
  | 3 => ("OneSunbeam$Theft", "order", "[I", true)
  | 4 => ("OneSunbeam$Theft", "comes", "[I", true)
  | _ => ("OneSunbeam$Theft", "metCount", "I", false)
def tyX7 : Nat → FieldType := fun k => match k with
  | 0 => .int
  | 1 => .int
  | 2 => .int
  | 3 => .array .int
  | 4 => .array .int
  | _ => .int
abbrev wsX70 : List Cond := u_ws RX7 TX7 6
theorem nmX7 : ∀ a, a < 6 → ∀ b, b < 6 → a ≠ b → (TX7 a).2.1 ≠ (TX7 b).2.1 := by decide +kernel
theorem tyX7_ok : ∀ k, k < 6 → parseFieldDescriptor (TX7 k).2.2.1 = some (tyX7 k) := by decide +kernel
abbrev cX7_init : ByteArray := prog_9_method_1_code
def yX7_init : MethodName := ⟨RX7, "<init>", "()V"⟩
abbrev cX7_search : ByteArray := prog_9_method_2_code
def yX7_search : MethodName := ⟨RX7, "search", "(LOneSunbeam$Town;I)V"⟩
abbrev cX7_isExplainedBehind : ByteArray := prog_9_method_3_code
def yX7_isExplainedBehind : MethodName := ⟨RX7, "isExplainedBehind", "(LOneSunbeam$Town;II)Z"⟩
abbrev cX7_walk : ByteArray := prog_9_method_4_code
def yX7_walk : MethodName := ⟨RX7, "walk", "(LOneSunbeam$Town;I)V"⟩
abbrev cX7_meet : ByteArray := prog_9_method_5_code
def yX7_meet : MethodName := ⟨RX7, "meet", "(II)I"⟩
def RX8 : String := "OneSunbeam$Town"
def TX8 : u_T := fun k => match k with
  | 0 => ("OneSunbeam$Town", "columns", "I", false)
  | 1 => ("OneSunbeam$Town", "rows", "I", false)
  | 2 => ("OneSunbeam$Town", "gapX", "I", false)
  | 3 => ("OneSunbeam$Town", "gapY", "I", false)
  | 4 => ("OneSunbeam$Town", "air", "I", false)
  | 5 => ("OneSunbeam$Town", "month", "I", false)
  | 6 => ("OneSunbeam$Town", "day", "I", false)
  | 7 => ("OneSunbeam$Town", "fall", "I", false)
  | 8 => ("OneSunbeam$Town", "mirrorCount", "I", false)
  | 9 => ("OneSunbeam$Town", "yardCount", "I", false)
  | 10 => ("OneSunbeam$Town", "rock", "[I", true)
  | 11 => ("OneSunbeam$Town", "eyes", "[I", true)
  | 12 => ("OneSunbeam$Town", "mirrorAt", "[I", true)
  | 13 => ("OneSunbeam$Town", "yardAt", "[I", true)
  | 14 => ("OneSunbeam$Town", "sunWay", "[I", true)
  | 15 => ("OneSunbeam$Town", "sunStrength", "[I", true)
  | 16 => ("OneSunbeam$Town", "mirrorTable", "[I", true)
  | _ => ("OneSunbeam$Town", "yardTable", "[I", true)
def tyX8 : Nat → FieldType := fun k => match k with
  | 0 => .int
  | 1 => .int
  | 2 => .int
  | 3 => .int
  | 4 => .int
  | 5 => .int
  | 6 => .int
  | 7 => .int
  | 8 => .int
  | 9 => .int
  | 10 => .array .int
  | 11 => .array .int
  | 12 => .array .int
  | 13 => .array .int
  | 14 => .array .int
  | 15 => .array .int
  | 16 => .array .int
  | _ => .array .int
abbrev wsX80 : List Cond := u_ws RX8 TX8 18
theorem nmX8 : ∀ a, a < 18 → ∀ b, b < 18 → a ≠ b → (TX8 a).2.1 ≠ (TX8 b).2.1 := by decide +kernel
theorem tyX8_ok : ∀ k, k < 18 → parseFieldDescriptor (TX8 k).2.2.1 = some (tyX8 k) := by decide +kernel
abbrev cX8_init : ByteArray := prog_10_method_1_code
def yX8_init : MethodName := ⟨RX8, "<init>", "()V"⟩
abbrev cX8_begin : ByteArray := prog_10_method_2_code
def yX8_begin : MethodName := ⟨RX8, "begin", "(IIIII)V"⟩
abbrev cX8_copyFrom : ByteArray := prog_10_method_3_code
def yX8_copyFrom : MethodName := ⟨RX8, "copyFrom", "(LOneSunbeam$Town;)V"⟩
abbrev cX8_isBegun : ByteArray := prog_10_method_4_code
def yX8_isBegun : MethodName := ⟨RX8, "isBegun", "()Z"⟩
abbrev cX8_hasCell : ByteArray := prog_10_method_5_code
def yX8_hasCell : MethodName := ⟨RX8, "hasCell", "(II)Z"⟩
abbrev cX8_isOpen : ByteArray := prog_10_method_6_code
def yX8_isOpen : MethodName := ⟨RX8, "isOpen", "(II)Z"⟩
abbrev cX8_hasRectangle : ByteArray := prog_10_method_7_code
def yX8_hasRectangle : MethodName := ⟨RX8, "hasRectangle", "(IIII)Z"⟩
abbrev cX8_hasMirror : ByteArray := prog_10_method_8_code
def yX8_hasMirror : MethodName := ⟨RX8, "hasMirror", "(I)Z"⟩
abbrev cX8_hasYard : ByteArray := prog_10_method_9_code
def yX8_hasYard : MethodName := ⟨RX8, "hasYard", "(I)Z"⟩
abbrev cX8_isLit : ByteArray := prog_10_method_10_code
def yX8_isLit : MethodName := ⟨RX8, "isLit", "(I)Z"⟩
abbrev cX8_wayOf : ByteArray := prog_10_method_11_code
def yX8_wayOf : MethodName := ⟨RX8, "wayOf", "(I)I"⟩
abbrev cX8_strengthOf : ByteArray := prog_10_method_12_code
def yX8_strengthOf : MethodName := ⟨RX8, "strengthOf", "(I)I"⟩
abbrev cX8_setWay : ByteArray := prog_10_method_13_code
def yX8_setWay : MethodName := ⟨RX8, "setWay", "(II)V"⟩
abbrev cX8_ofMirror : ByteArray := prog_10_method_14_code
def yX8_ofMirror : MethodName := ⟨RX8, "ofMirror", "(II)I"⟩
abbrev cX8_setMirror : ByteArray := prog_10_method_15_code
def yX8_setMirror : MethodName := ⟨RX8, "setMirror", "(III)V"⟩
abbrev cX8_ofYard : ByteArray := prog_10_method_16_code
def yX8_ofYard : MethodName := ⟨RX8, "ofYard", "(II)I"⟩
abbrev cX8_setYard : ByteArray := prog_10_method_17_code
def yX8_setYard : MethodName := ⟨RX8, "setYard", "(III)V"⟩
abbrev cX8_setRock : ByteArray := prog_10_method_18_code
def yX8_setRock : MethodName := ⟨RX8, "setRock", "(IIIII)I"⟩
abbrev cX8_addMirror : ByteArray := prog_10_method_19_code
def yX8_addMirror : MethodName := ⟨RX8, "addMirror", "(II)I"⟩
abbrev cX8_addYard : ByteArray := prog_10_method_20_code
def yX8_addYard : MethodName := ⟨RX8, "addYard", "(IIII)I"⟩
abbrev cX8_isWhole : ByteArray := prog_10_method_21_code
def yX8_isWhole : MethodName := ⟨RX8, "isWhole", "(I)Z"⟩
abbrev cX8_takeAt : ByteArray := prog_10_method_22_code
def yX8_takeAt : MethodName := ⟨RX8, "takeAt", "(I)I"⟩
abbrev cX8_lossOf : ByteArray := prog_10_method_23_code
def yX8_lossOf : MethodName := ⟨RX8, "lossOf", "(I)I"⟩
abbrev cX8_wayFrom : ByteArray := prog_10_method_24_code
def yX8_wayFrom : MethodName := ⟨RX8, "wayFrom", "(II)I"⟩
abbrev cX8_mirrorsWith : ByteArray := prog_10_method_25_code
def yX8_mirrorsWith : MethodName := ⟨RX8, "mirrorsWith", "(II)I"⟩
abbrev cX8_setBroken : ByteArray := prog_10_method_26_code
def yX8_setBroken : MethodName := ⟨RX8, "setBroken", "(II)V"⟩
abbrev cX8_turnTowards : ByteArray := prog_10_method_27_code
def yX8_turnTowards : MethodName := ⟨RX8, "turnTowards", "(II)V"⟩
abbrev cX8_endDay : ByteArray := prog_10_method_28_code
def yX8_endDay : MethodName := ⟨RX8, "endDay", "([I)V"⟩
abbrev cX8_metCount : ByteArray := prog_10_method_29_code
def yX8_metCount : MethodName := ⟨RX8, "metCount", "()I"⟩
def RX9 : String := "OneSunbeam"
def TX9 : u_T := fun k => match k with
  | 0 => ("OneSunbeam", "town", "LOneSunbeam$Town;", true)
  | 1 => ("OneSunbeam", "trial", "LOneSunbeam$Town;", true)
  | 2 => ("OneSunbeam", "images", "[LOneSunbeam$Town;", true)
  | 3 => ("OneSunbeam", "beams", "LOneSunbeam$Beams;", true)
  | 4 => ("OneSunbeam", "keepers", "LOneSunbeam$Keepers;", true)
  | 5 => ("OneSunbeam", "aiming", "LOneSunbeam$Aiming;", true)
  | 6 => ("OneSunbeam", "mending", "LOneSunbeam$Mending;", true)
  | 7 => ("OneSunbeam", "opening", "LOneSunbeam$Opening;", true)
  | 8 => ("OneSunbeam", "theft", "LOneSunbeam$Theft;", true)
  | 9 => ("OneSunbeam", "reader", "LOneSunbeam$LawReader;", true)
  | 10 => ("OneSunbeam", "laws", "[LOneSunbeam$Law;", true)
  | 11 => ("OneSunbeam", "tape", "[B", true)
  | 12 => ("OneSunbeam", "gotNow", "[I", true)
  | 13 => ("OneSunbeam", "draft", "LOneSunbeam$Law;", false)
  | 14 => ("OneSunbeam", "lawCount", "I", false)
  | _ => ("OneSunbeam", "tapeLength", "I", false)
def tyX9 : Nat → FieldType := fun k => match k with
  | 0 => .object "OneSunbeam$Town"
  | 1 => .object "OneSunbeam$Town"
  | 2 => .array (.object "OneSunbeam$Town")
  | 3 => .object "OneSunbeam$Beams"
  | 4 => .object "OneSunbeam$Keepers"
  | 5 => .object "OneSunbeam$Aiming"
  | 6 => .object "OneSunbeam$Mending"
  | 7 => .object "OneSunbeam$Opening"
  | 8 => .object "OneSunbeam$Theft"
  | 9 => .object "OneSunbeam$LawReader"
  | 10 => .array (.object "OneSunbeam$Law")
  | 11 => .array .byte
  | 12 => .array .int
  | 13 => .object "OneSunbeam$Law"
  | 14 => .int
  | _ => .int
abbrev wsX90 : List Cond := u_ws RX9 TX9 16
theorem nmX9 : ∀ a, a < 16 → ∀ b, b < 16 → a ≠ b → (TX9 a).2.1 ≠ (TX9 b).2.1 := by decide +kernel
theorem tyX9_ok : ∀ k, k < 16 → parseFieldDescriptor (TX9 k).2.2.1 = some (tyX9 k) := by decide +kernel
abbrev cX9_init : ByteArray := prog_1_method_1_code
def yX9_init : MethodName := ⟨RX9, "<init>", "()V"⟩
abbrev cX9_town : ByteArray := prog_1_method_2_code
def yX9_town : MethodName := ⟨RX9, "town", "(IIIII)Z"⟩
abbrev cX9_rock : ByteArray := prog_1_method_3_code
def yX9_rock : MethodName := ⟨RX9, "rock", "(IIIIZ)I"⟩
abbrev cX9_sun : ByteArray := prog_1_method_4_code
def yX9_sun : MethodName := ⟨RX9, "sun", "(IIII)Z"⟩
abbrev cX9_mirror : ByteArray := prog_1_method_5_code
def yX9_mirror : MethodName := ⟨RX9, "mirror", "(IIIIIII)I"⟩
abbrev cX9_sets : ByteArray := prog_1_method_6_code
def yX9_sets : MethodName := ⟨RX9, "sets", "(III)I"⟩
abbrev cX9_yard : ByteArray := prog_1_method_7_code
def yX9_yard : MethodName := ⟨RX9, "yard", "(IIIIII)I"⟩
abbrev cX9_eyes : ByteArray := prog_1_method_8_code
def yX9_eyes : MethodName := ⟨RX9, "eyes", "(III)I"⟩
abbrev cX9_month : ByteArray := prog_1_method_9_code
def yX9_month : MethodName := ⟨RX9, "month", "(I)I"⟩
abbrev cX9_falls : ByteArray := prog_1_method_10_code
def yX9_falls : MethodName := ⟨RX9, "falls", "(I)I"⟩
abbrev cX9_feed : ByteArray := prog_1_method_11_code
def yX9_feed : MethodName := ⟨RX9, "feed", "(IIIII)I"⟩
abbrev cX9_end : ByteArray := prog_1_method_12_code
def yX9_end : MethodName := ⟨RX9, "end", "(I)I"⟩
abbrev cX9_law : ByteArray := prog_1_method_13_code
def yX9_law : MethodName := ⟨RX9, "law", "()I"⟩
abbrev cX9_days : ByteArray := prog_1_method_14_code
def yX9_days : MethodName := ⟨RX9, "days", "(II)I"⟩
abbrev cX9_mirrors : ByteArray := prog_1_method_15_code
def yX9_mirrors : MethodName := ⟨RX9, "mirrors", "(II)I"⟩
abbrev cX9_yards : ByteArray := prog_1_method_16_code
def yX9_yards : MethodName := ⟨RX9, "yards", "(II)I"⟩
abbrev cX9_cell : ByteArray := prog_1_method_17_code
def yX9_cell : MethodName := ⟨RX9, "cell", "(III)I"⟩
abbrev cX9_gets : ByteArray := prog_1_method_18_code
def yX9_gets : MethodName := ⟨RX9, "gets", "(II)I"⟩
abbrev cX9_light : ByteArray := prog_1_method_19_code
def yX9_light : MethodName := ⟨RX9, "light", "(II)I"⟩
abbrev cX9_passes : ByteArray := prog_1_method_20_code
def yX9_passes : MethodName := ⟨RX9, "passes", "(III)I"⟩
abbrev cX9_sees : ByteArray := prog_1_method_21_code
def yX9_sees : MethodName := ⟨RX9, "sees", "(II)I"⟩
abbrev cX9_worth : ByteArray := prog_1_method_22_code
def yX9_worth : MethodName := ⟨RX9, "worth", "(II)I"⟩
abbrev cX9_owned : ByteArray := prog_1_method_23_code
def yX9_owned : MethodName := ⟨RX9, "owned", "(II)I"⟩
abbrev cX9_aim : ByteArray := prog_1_method_24_code
def yX9_aim : MethodName := ⟨RX9, "aim", "(IIII)I"⟩
abbrev cX9_fair : ByteArray := prog_1_method_25_code
def yX9_fair : MethodName := ⟨RX9, "fair", "(III)I"⟩
abbrev cX9_mends : ByteArray := prog_1_method_26_code
def yX9_mends : MethodName := ⟨RX9, "mends", "(III)I"⟩
abbrev cX9_second : ByteArray := prog_1_method_27_code
def yX9_second : MethodName := ⟨RX9, "second", "(II)I"⟩
abbrev cX9_thief : ByteArray := prog_1_method_28_code
def yX9_thief : MethodName := ⟨RX9, "thief", "(II)I"⟩
abbrev cX9_dusty : ByteArray := prog_1_method_29_code
def yX9_dusty : MethodName := ⟨RX9, "dusty", "(IIII)I"⟩
abbrev cX9_dark : ByteArray := prog_1_method_30_code
def yX9_dark : MethodName := ⟨RX9, "dark", "(III)I"⟩
abbrev cX9_ahead : ByteArray := prog_1_method_31_code
def yX9_ahead : MethodName := ⟨RX9, "ahead", "(III)I"⟩
abbrev cX9_count : ByteArray := prog_1_method_32_code
def yX9_count : MethodName := ⟨RX9, "count", "(I)I"⟩
abbrev cX9_image : ByteArray := prog_1_method_33_code
def yX9_image : MethodName := ⟨RX9, "image", "(I)I"⟩
abbrev cX9_back : ByteArray := prog_1_method_34_code
def yX9_back : MethodName := ⟨RX9, "back", "(I)I"⟩
abbrev cX9_isWithin : ByteArray := prog_1_method_35_code
def yX9_isWithin : MethodName := ⟨RX9, "isWithin", "(III)Z"⟩
abbrev cX9_cellOf : ByteArray := prog_1_method_36_code
def yX9_cellOf : MethodName := ⟨RX9, "cellOf", "(II)I"⟩
abbrev cX9_shareOf : ByteArray := prog_1_method_37_code
def yX9_shareOf : MethodName := ⟨RX9, "shareOf", "(II)I"⟩
abbrev cX9_changeMirror : ByteArray := prog_1_method_38_code
def yX9_changeMirror : MethodName := ⟨RX9, "changeMirror", "(IIIZ)I"⟩
abbrev cX9_putOnTape : ByteArray := prog_1_method_39_code
def yX9_putOnTape : MethodName := ⟨RX9, "putOnTape", "(I)V"⟩
abbrev cX9_findLaw : ByteArray := prog_1_method_40_code
def yX9_findLaw : MethodName := ⟨RX9, "findLaw", "(I)LOneSunbeam$Law;"⟩
abbrev cX9_isPlaceOfSet : ByteArray := prog_1_method_41_code
def yX9_isPlaceOfSet : MethodName := ⟨RX9, "isPlaceOfSet", "(II)Z"⟩
abbrev cX9_worthOfSet : ByteArray := prog_1_method_42_code
def yX9_worthOfSet : MethodName := ⟨RX9, "worthOfSet", "(II)I"⟩
abbrev cX9_leastDust : ByteArray := prog_1_method_43_code
def yX9_leastDust : MethodName := ⟨RX9, "leastDust", "(IIII)I"⟩
abbrev cX9_leastDustOneByOne : ByteArray := prog_1_method_44_code
def yX9_leastDustOneByOne : MethodName := ⟨RX9, "leastDustOneByOne", "(IIII)I"⟩
abbrev cX9_leastDustByHalves : ByteArray := prog_1_method_45_code
def yX9_leastDustByHalves : MethodName := ⟨RX9, "leastDustByHalves", "(IIII)I"⟩
abbrev cX9_getWithDust : ByteArray := prog_1_method_46_code
def yX9_getWithDust : MethodName := ⟨RX9, "getWithDust", "(IIII)I"⟩
abbrev cX9_countOfTown : ByteArray := prog_1_method_47_code
def yX9_countOfTown : MethodName := ⟨RX9, "countOfTown", "(I)I"⟩
def RX10 : String := "OneSunbeamModel"
def TX10 : u_T := fun k => match k with
  | 0 => ("OneSunbeamModel", "thrown", "I", false)
  | 1 => ("OneSunbeamModel", "scalar", "[I", true)
  | 2 => ("OneSunbeamModel", "rocky", "[I", true)
  | 3 => ("OneSunbeamModel", "eyed", "[I", true)
  | 4 => ("OneSunbeamModel", "sunWay", "[I", true)
  | 5 => ("OneSunbeamModel", "sunStrong", "[I", true)
  | 6 => ("OneSunbeamModel", "mirrorAt", "[I", true)
  | 7 => ("OneSunbeamModel", "mx", "[I", true)
  | 8 => ("OneSunbeamModel", "my", "[I", true)
  | 9 => ("OneSunbeamModel", "slant", "[I", true)
  | 10 => ("OneSunbeamModel", "loss", "[I", true)
  | 11 => ("OneSunbeamModel", "through", "[I", true)
  | 12 => ("OneSunbeamModel", "reach", "[I", true)
  | 13 => ("OneSunbeamModel", "owner", "[I", true)
  | 14 => ("OneSunbeamModel", "dust", "[I", true)
  | 15 => ("OneSunbeamModel", "broken", "[I", true)
  | 16 => ("OneSunbeamModel", "reading", "[I", true)
  | 17 => ("OneSunbeamModel", "yx", "[I", true)
  | 18 => ("OneSunbeamModel", "yy", "[I", true)
  | 19 => ("OneSunbeamModel", "yToX", "[I", true)
  | 20 => ("OneSunbeamModel", "yToY", "[I", true)
  | 21 => ("OneSunbeamModel", "take", "[I", true)
  | 22 => ("OneSunbeamModel", "want", "[I", true)
  | 23 => ("OneSunbeamModel", "lit", "[I", true)
  | 24 => ("OneSunbeamModel", "taped", "I", false)
  | 25 => ("OneSunbeamModel", "p", "I", false)
  | 26 => ("OneSunbeamModel", "fault", "I", false)
  | 27 => ("OneSunbeamModel", "slot", "I", false)
  | 28 => ("OneSunbeamModel", "laws", "I", false)
  | 29 => ("OneSunbeamModel", "entries", "I", false)
  | 30 => ("OneSunbeamModel", "deep", "I", false)
  | 31 => ("OneSunbeamModel", "counted", "I", false)
  | 32 => ("OneSunbeamModel", "opened", "I", false)
  | 33 => ("OneSunbeamModel", "words", "I", false)
  | 34 => ("OneSunbeamModel", "tape", "[B", true)
  | 35 => ("OneSunbeamModel", "sort", "[I", true)
  | 36 => ("OneSunbeamModel", "number", "[I", true)
  | 37 => ("OneSunbeamModel", "clauses", "[I", true)
  | 38 => ("OneSunbeamModel", "turned", "[I", true)
  | 39 => ("OneSunbeamModel", "sumAt", "[I", true)
  | 40 => ("OneSunbeamModel", "testAt", "[I", true)
  | 41 => ("OneSunbeamModel", "endAt", "[I", true)
  | 42 => ("OneSunbeamModel", "open", "[I", true)
  | 43 => ("OneSunbeamModel", "asked", "[J", true)
  | 44 => ("OneSunbeamModel", "stack", "[J", true)
  | 45 => ("OneSunbeamModel", "waitX", "[I", true)
  | 46 => ("OneSunbeamModel", "waitY", "[I", true)
  | 47 => ("OneSunbeamModel", "waitWay", "[I", true)
  | 48 => ("OneSunbeamModel", "waitStrong", "[I", true)
  | 49 => ("OneSunbeamModel", "passing", "[I", true)
  | 50 => ("OneSunbeamModel", "got", "[I", true)
  | 51 => ("OneSunbeamModel", "firstWaits", "I", false)
  | 52 => ("OneSunbeamModel", "waits", "I", false)
  | 53 => ("OneSunbeamModel", "lost", "I", false)
  | 54 => ("OneSunbeamModel", "spilt", "I", false)
  | 55 => ("OneSunbeamModel", "entered", "I", false)
  | 56 => ("OneSunbeamModel", "beams", "I", false)
  | 57 => ("OneSunbeamModel", "thief", "I", false)
  | 58 => ("OneSunbeamModel", "isMet", "[Z", true)
  | 59 => ("OneSunbeamModel", "seeks", "Z", false)
  | 60 => ("OneSunbeamModel", "order", "[I", true)
  | 61 => ("OneSunbeamModel", "comes", "[I", true)
  | 62 => ("OneSunbeamModel", "comesAt", "[I", true)
  | 63 => ("OneSunbeamModel", "manyMet", "I", false)
  | 64 => ("OneSunbeamModel", "dayGot", "[I", true)
  | 65 => ("OneSunbeamModel", "blindHours", "I", false)
  | 66 => ("OneSunbeamModel", "before", "[I", true)
  | 67 => ("OneSunbeamModel", "keptSlant", "[I", true)
  | 68 => ("OneSunbeamModel", "keptBroken", "[I", true)
  | 69 => ("OneSunbeamModel", "keptDust", "[I", true)
  | 70 => ("OneSunbeamModel", "keptLit", "[I", true)
  | 71 => ("OneSunbeamModel", "row", "[I", true)
  | 72 => ("OneSunbeamModel", "bestRow", "[I", true)
  | 73 => ("OneSunbeamModel", "mended", "[I", true)
  | 74 => ("OneSunbeamModel", "keptDay", "I", false)
  | 75 => ("OneSunbeamModel", "keptMonth", "I", false)
  | 76 => ("OneSunbeamModel", "images", "[I", true)
  | 77 => ("OneSunbeamModel", "isMade", "[Z", true)
  | 78 => ("OneSunbeamModel", "imageAt", "I", false)
  | _ => ("OneSunbeamModel", "goesBack", "Z", false)
def tyX10 : Nat → FieldType := fun k => match k with
  | 0 => .int
  | 1 => .array .int
  | 2 => .array .int
  | 3 => .array .int
  | 4 => .array .int
  | 5 => .array .int
  | 6 => .array .int
  | 7 => .array .int
  | 8 => .array .int
  | 9 => .array .int
  | 10 => .array .int
  | 11 => .array .int
  | 12 => .array .int
  | 13 => .array .int
  | 14 => .array .int
  | 15 => .array .int
  | 16 => .array .int
  | 17 => .array .int
  | 18 => .array .int
  | 19 => .array .int
  | 20 => .array .int
  | 21 => .array .int
  | 22 => .array .int
  | 23 => .array .int
  | 24 => .int
  | 25 => .int
  | 26 => .int
  | 27 => .int
  | 28 => .int
  | 29 => .int
  | 30 => .int
  | 31 => .int
  | 32 => .int
  | 33 => .int
  | 34 => .array .byte
  | 35 => .array .int
  | 36 => .array .int
  | 37 => .array .int
  | 38 => .array .int
  | 39 => .array .int
  | 40 => .array .int
  | 41 => .array .int
  | 42 => .array .int
  | 43 => .array .long
  | 44 => .array .long
  | 45 => .array .int
  | 46 => .array .int
  | 47 => .array .int
  | 48 => .array .int
  | 49 => .array .int
  | 50 => .array .int
  | 51 => .int
  | 52 => .int
  | 53 => .int
  | 54 => .int
  | 55 => .int
  | 56 => .int
  | 57 => .int
  | 58 => .array .boolean
  | 59 => .boolean
  | 60 => .array .int
  | 61 => .array .int
  | 62 => .array .int
  | 63 => .int
  | 64 => .array .int
  | 65 => .int
  | 66 => .array .int
  | 67 => .array .int
  | 68 => .array .int
  | 69 => .array .int
  | 70 => .array .int
  | 71 => .array .int
  | 72 => .array .int
  | 73 => .array .int
  | 74 => .int
  | 75 => .int
  | 76 => .array .int
  | 77 => .array .boolean
  | 78 => .int
  | _ => .boolean
abbrev wsX100 : List Cond := u_ws RX10 TX10 80
theorem nmX10 : ∀ a, a < 80 → ∀ b, b < 80 → a ≠ b → (TX10 a).2.1 ≠ (TX10 b).2.1 := by decide +kernel
theorem tyX10_ok : ∀ k, k < 80 → parseFieldDescriptor (TX10 k).2.2.1 = some (tyX10 k) := by decide +kernel
abbrev cX10_init : ByteArray := prog_12_method_1_code
def yX10_init : MethodName := ⟨RX10, "<init>", "()V"⟩
abbrev cX10_in : ByteArray := prog_12_method_3_code
def yX10_in : MethodName := ⟨RX10, "in", "(JJJ)Z"⟩
abbrev cX10_has : ByteArray := prog_12_method_4_code
def yX10_has : MethodName := ⟨RX10, "has", "(II)Z"⟩
abbrev cX10_bits : ByteArray := prog_12_method_5_code
def yX10_bits : MethodName := ⟨RX10, "bits", "(I)I"⟩
abbrev cX10_isTown : ByteArray := prog_12_method_6_code
def yX10_isTown : MethodName := ⟨RX10, "isTown", "()Z"⟩
abbrev cX10_isCell : ByteArray := prog_12_method_7_code
def yX10_isCell : MethodName := ⟨RX10, "isCell", "(II)Z"⟩
abbrev cX10_isArea : ByteArray := prog_12_method_8_code
def yX10_isArea : MethodName := ⟨RX10, "isArea", "(IIII)Z"⟩
abbrev cX10_isMirror : ByteArray := prog_12_method_9_code
def yX10_isMirror : MethodName := ⟨RX10, "isMirror", "(I)Z"⟩
abbrev cX10_isYard : ByteArray := prog_12_method_10_code
def yX10_isYard : MethodName := ⟨RX10, "isYard", "(I)Z"⟩
abbrev cX10_town : ByteArray := prog_12_method_11_code
def yX10_town : MethodName := ⟨RX10, "town", "(IIIII)Z"⟩
abbrev cX10_rock : ByteArray := prog_12_method_12_code
def yX10_rock : MethodName := ⟨RX10, "rock", "(IIIIZ)I"⟩
abbrev cX10_sun : ByteArray := prog_12_method_13_code
def yX10_sun : MethodName := ⟨RX10, "sun", "(IIII)Z"⟩
abbrev cX10_mirror : ByteArray := prog_12_method_14_code
def yX10_mirror : MethodName := ⟨RX10, "mirror", "(IIIIIII)I"⟩
abbrev cX10_sets : ByteArray := prog_12_method_15_code
def yX10_sets : MethodName := ⟨RX10, "sets", "(III)I"⟩
abbrev cX10_yard : ByteArray := prog_12_method_16_code
def yX10_yard : MethodName := ⟨RX10, "yard", "(IIIIII)I"⟩
abbrev cX10_eyes : ByteArray := prog_12_method_17_code
def yX10_eyes : MethodName := ⟨RX10, "eyes", "(III)I"⟩
abbrev cX10_month : ByteArray := prog_12_method_18_code
def yX10_month : MethodName := ⟨RX10, "month", "(I)I"⟩
abbrev cX10_falls : ByteArray := prog_12_method_19_code
def yX10_falls : MethodName := ⟨RX10, "falls", "(I)I"⟩
abbrev cX10_feed : ByteArray := prog_12_method_20_code
def yX10_feed : MethodName := ⟨RX10, "feed", "(IIIII)I"⟩
abbrev cX10_put : ByteArray := prog_12_method_21_code
def yX10_put : MethodName := ⟨RX10, "put", "(I)V"⟩
abbrev cX10_end : ByteArray := prog_12_method_22_code
def yX10_end : MethodName := ⟨RX10, "end", "(I)I"⟩
abbrev cX10_wordOf : ByteArray := prog_12_method_23_code
def yX10_wordOf : MethodName := ⟨RX10, "wordOf", "(I)Ljava/lang/String;"⟩
abbrev cX10_fails : ByteArray := prog_12_method_24_code
def yX10_fails : MethodName := ⟨RX10, "fails", "(II)V"⟩
abbrev cX10_sign : ByteArray := prog_12_method_25_code
def yX10_sign : MethodName := ⟨RX10, "sign", "()I"⟩
abbrev cX10_blanks : ByteArray := prog_12_method_26_code
def yX10_blanks : MethodName := ⟨RX10, "blanks", "()V"⟩
abbrev cX10_isDigit : ByteArray := prog_12_method_27_code
def yX10_isDigit : MethodName := ⟨RX10, "isDigit", "()Z"⟩
abbrev cX10_stands : ByteArray := prog_12_method_28_code
def yX10_stands : MethodName := ⟨RX10, "stands", "(Ljava/lang/String;)Z"⟩
abbrev cX10_takes : ByteArray := prog_12_method_29_code
def yX10_takes : MethodName := ⟨RX10, "takes", "(Ljava/lang/String;)Z"⟩
abbrev cX10_entry : ByteArray := prog_12_method_30_code
def yX10_entry : MethodName := ⟨RX10, "entry", "(II)V"⟩
abbrev cX10_isCounted : ByteArray := prog_12_method_31_code
def yX10_isCounted : MethodName := ⟨RX10, "isCounted", "(I)V"⟩
abbrev cX10_digits : ByteArray := prog_12_method_32_code
def yX10_digits : MethodName := ⟨RX10, "digits", "(I)I"⟩
abbrev cX10_value : ByteArray := prog_12_method_33_code
def yX10_value : MethodName := ⟨RX10, "value", "()V"⟩
abbrev cX10_term : ByteArray := prog_12_method_34_code
def yX10_term : MethodName := ⟨RX10, "term", "()V"⟩
abbrev cX10_sum : ByteArray := prog_12_method_35_code
def yX10_sum : MethodName := ⟨RX10, "sum", "()V"⟩
abbrev cX10_compared : ByteArray := prog_12_method_36_code
def yX10_compared : MethodName := ⟨RX10, "compared", "()V"⟩
abbrev cX10_top : ByteArray := prog_12_method_37_code
def yX10_top : MethodName := ⟨RX10, "top", "()I"⟩
abbrev cX10_opens : ByteArray := prog_12_method_38_code
def yX10_opens : MethodName := ⟨RX10, "opens", "(I)V"⟩
abbrev cX10_answers : ByteArray := prog_12_method_39_code
def yX10_answers : MethodName := ⟨RX10, "answers", "(I)V"⟩
abbrev cX10_fact : ByteArray := prog_12_method_40_code
def yX10_fact : MethodName := ⟨RX10, "fact", "()Z"⟩
abbrev cX10_test : ByteArray := prog_12_method_41_code
def yX10_test : MethodName := ⟨RX10, "test", "()V"⟩
abbrev cX10_clause : ByteArray := prog_12_method_42_code
def yX10_clause : MethodName := ⟨RX10, "clause", "(I)V"⟩
abbrev cX10_law : ByteArray := prog_12_method_43_code
def yX10_law : MethodName := ⟨RX10, "law", "()I"⟩
abbrev cX10_isLaw : ByteArray := prog_12_method_44_code
def yX10_isLaw : MethodName := ⟨RX10, "isLaw", "(I)Z"⟩
abbrev cX10_truth : ByteArray := prog_12_method_45_code
def yX10_truth : MethodName := ⟨RX10, "truth", "(Z)J"⟩
abbrev cX10_both : ByteArray := prog_12_method_46_code
def yX10_both : MethodName := ⟨RX10, "both", "(IJJ)J"⟩
abbrev cX10_answer : ByteArray := prog_12_method_47_code
def yX10_answer : MethodName := ⟨RX10, "answer", "(III)J"⟩
abbrev cX10_stepX : ByteArray := prog_12_method_48_code
def yX10_stepX : MethodName := ⟨RX10, "stepX", "(I)I"⟩
abbrev cX10_stepY : ByteArray := prog_12_method_49_code
def yX10_stepY : MethodName := ⟨RX10, "stepY", "(I)I"⟩
abbrev cX10_yardOf : ByteArray := prog_12_method_50_code
def yX10_yardOf : MethodName := ⟨RX10, "yardOf", "(II)I"⟩
abbrev cX10_waitsFor : ByteArray := prog_12_method_51_code
def yX10_waitsFor : MethodName := ⟨RX10, "waitsFor", "(IIII)V"⟩
abbrev cX10_told : ByteArray := prog_12_method_52_code
def yX10_told : MethodName := ⟨RX10, "told", "(II)I"⟩
abbrev cX10_follows : ByteArray := prog_12_method_53_code
def yX10_follows : MethodName := ⟨RX10, "follows", "(I)V"⟩
abbrev cX10_goes : ByteArray := prog_12_method_54_code
def yX10_goes : MethodName := ⟨RX10, "goes", "(IIII)V"⟩
abbrev cX10_traces : ByteArray := prog_12_method_55_code
def yX10_traces : MethodName := ⟨RX10, "traces", "(III)V"⟩
abbrev cX10_sunOf : ByteArray := prog_12_method_56_code
def yX10_sunOf : MethodName := ⟨RX10, "sunOf", "(I)I"⟩
abbrev cX10_shines : ByteArray := prog_12_method_57_code
def yX10_shines : MethodName := ⟨RX10, "shines", "(I)V"⟩
abbrev cX10_allGot : ByteArray := prog_12_method_58_code
def yX10_allGot : MethodName := ⟨RX10, "allGot", "()I"⟩
abbrev cX10_blindCells : ByteArray := prog_12_method_59_code
def yX10_blindCells : MethodName := ⟨RX10, "blindCells", "()I"⟩
abbrev cX10_firstBlind : ByteArray := prog_12_method_60_code
def yX10_firstBlind : MethodName := ⟨RX10, "firstBlind", "()I"⟩
abbrev cX10_asks : ByteArray := prog_12_method_61_code
def yX10_asks : MethodName := ⟨RX10, "asks", "(II)V"⟩
abbrev cX10_turns : ByteArray := prog_12_method_62_code
def yX10_turns : MethodName := ⟨RX10, "turns", "(III)V"⟩
abbrev cX10_goesDay : ByteArray := prog_12_method_63_code
def yX10_goesDay : MethodName := ⟨RX10, "goesDay", "(I)V"⟩
abbrev cX10_met : ByteArray := prog_12_method_64_code
def yX10_met : MethodName := ⟨RX10, "met", "()I"⟩
abbrev cX10_days : ByteArray := prog_12_method_65_code
def yX10_days : MethodName := ⟨RX10, "days", "(II)I"⟩
abbrev cX10_mirrors : ByteArray := prog_12_method_66_code
def yX10_mirrors : MethodName := ⟨RX10, "mirrors", "(II)I"⟩
abbrev cX10_yards : ByteArray := prog_12_method_67_code
def yX10_yards : MethodName := ⟨RX10, "yards", "(II)I"⟩
abbrev cX10_cell : ByteArray := prog_12_method_68_code
def yX10_cell : MethodName := ⟨RX10, "cell", "(III)I"⟩
abbrev cX10_isBright : ByteArray := prog_12_method_69_code
def yX10_isBright : MethodName := ⟨RX10, "isBright", "(I)Z"⟩
abbrev cX10_gets : ByteArray := prog_12_method_70_code
def yX10_gets : MethodName := ⟨RX10, "gets", "(II)I"⟩
abbrev cX10_light : ByteArray := prog_12_method_71_code
def yX10_light : MethodName := ⟨RX10, "light", "(II)I"⟩
abbrev cX10_passes : ByteArray := prog_12_method_72_code
def yX10_passes : MethodName := ⟨RX10, "passes", "(III)I"⟩
abbrev cX10_copy : ByteArray := prog_12_method_73_code
def yX10_copy : MethodName := ⟨RX10, "copy", "([I[I)V"⟩
abbrev cX10_sees : ByteArray := prog_12_method_74_code
def yX10_sees : MethodName := ⟨RX10, "sees", "(II)I"⟩
abbrev cX10_worth : ByteArray := prog_12_method_75_code
def yX10_worth : MethodName := ⟨RX10, "worth", "(II)I"⟩
abbrev cX10_owned : ByteArray := prog_12_method_76_code
def yX10_owned : MethodName := ⟨RX10, "owned", "(II)I"⟩
abbrev cX10_isSet : ByteArray := prog_12_method_77_code
def yX10_isSet : MethodName := ⟨RX10, "isSet", "(I)Z"⟩
abbrev cX10_fairest : ByteArray := prog_12_method_78_code
def yX10_fairest : MethodName := ⟨RX10, "fairest", "()I"⟩
abbrev cX10_searches : ByteArray := prog_12_method_79_code
def yX10_searches : MethodName := ⟨RX10, "searches", "(III)I"⟩
abbrev cX10_aim : ByteArray := prog_12_method_80_code
def yX10_aim : MethodName := ⟨RX10, "aim", "(IIII)I"⟩
abbrev cX10_fair : ByteArray := prog_12_method_81_code
def yX10_fair : MethodName := ⟨RX10, "fair", "(III)I"⟩
abbrev cX10_isHalf : ByteArray := prog_12_method_82_code
def yX10_isHalf : MethodName := ⟨RX10, "isHalf", "(I)Z"⟩
abbrev cX10_isMended : ByteArray := prog_12_method_83_code
def yX10_isMended : MethodName := ⟨RX10, "isMended", "(IIIII)V"⟩
abbrev cX10_mendsOne : ByteArray := prog_12_method_84_code
def yX10_mendsOne : MethodName := ⟨RX10, "mendsOne", "(I)Z"⟩
abbrev cX10_mendsPair : ByteArray := prog_12_method_85_code
def yX10_mendsPair : MethodName := ⟨RX10, "mendsPair", "(III)Z"⟩
abbrev cX10_mendsTwo : ByteArray := prog_12_method_86_code
def yX10_mendsTwo : MethodName := ⟨RX10, "mendsTwo", "(I)Z"⟩
abbrev cX10_mends : ByteArray := prog_12_method_87_code
def yX10_mends : MethodName := ⟨RX10, "mends", "(III)I"⟩
abbrev cX10_second : ByteArray := prog_12_method_88_code
def yX10_second : MethodName := ⟨RX10, "second", "(II)I"⟩
abbrev cX10_thief : ByteArray := prog_12_method_89_code
def yX10_thief : MethodName := ⟨RX10, "thief", "(II)I"⟩
abbrev cX10_dusty : ByteArray := prog_12_method_90_code
def yX10_dusty : MethodName := ⟨RX10, "dusty", "(IIII)I"⟩
abbrev cX10_keeps : ByteArray := prog_12_method_91_code
def yX10_keeps : MethodName := ⟨RX10, "keeps", "()V"⟩
abbrev cX10_putsBack : ByteArray := prog_12_method_92_code
def yX10_putsBack : MethodName := ⟨RX10, "putsBack", "()V"⟩
abbrev cX10_dark : ByteArray := prog_12_method_93_code
def yX10_dark : MethodName := ⟨RX10, "dark", "(III)I"⟩
abbrev cX10_ahead : ByteArray := prog_12_method_94_code
def yX10_ahead : MethodName := ⟨RX10, "ahead", "(III)I"⟩
abbrev cX10_count : ByteArray := prog_12_method_95_code
def yX10_count : MethodName := ⟨RX10, "count", "(I)I"⟩
abbrev cX10_carry : ByteArray := prog_12_method_96_code
def yX10_carry : MethodName := ⟨RX10, "carry", "([I)V"⟩
abbrev cX10_carriesAll : ByteArray := prog_12_method_97_code
def yX10_carriesAll : MethodName := ⟨RX10, "carriesAll", "(IZ)V"⟩
abbrev cX10_image : ByteArray := prog_12_method_98_code
def yX10_image : MethodName := ⟨RX10, "image", "(I)I"⟩
abbrev cX10_back : ByteArray := prog_12_method_99_code
def yX10_back : MethodName := ⟨RX10, "back", "(I)I"⟩
def RJx145de : String := "java/io/Serializable"
def TJx145de : u_T := fun k => match k with
  | _ => ("", "", "", false)
def tyJx145de : Nat → FieldType := fun k => match k with
  | _ => .int
abbrev wsJx145de0 : List Cond := u_ws RJx145de TJx145de 0
theorem nmJx145de : ∀ a, a < 0 → ∀ b, b < 0 → a ≠ b → (TJx145de a).2.1 ≠ (TJx145de b).2.1 := by decide +kernel
theorem tyJx145de_ok : ∀ k, k < 0 → parseFieldDescriptor (TJx145de k).2.2.1 = some (tyJx145de k) := by decide +kernel
def RJx9f9b0 : String := "java/lang/CharSequence"
def TJx9f9b0 : u_T := fun k => match k with
  | _ => ("", "", "", false)
def tyJx9f9b0 : Nat → FieldType := fun k => match k with
  | _ => .int
abbrev wsJx9f9b00 : List Cond := u_ws RJx9f9b0 TJx9f9b0 0
theorem nmJx9f9b0 : ∀ a, a < 0 → ∀ b, b < 0 → a ≠ b → (TJx9f9b0 a).2.1 ≠ (TJx9f9b0 b).2.1 := by decide +kernel
theorem tyJx9f9b0_ok : ∀ k, k < 0 → parseFieldDescriptor (TJx9f9b0 k).2.2.1 = some (tyJx9f9b0 k) := by decide +kernel
def RJxb160c : String := "java/lang/Comparable"
def TJxb160c : u_T := fun k => match k with
  | _ => ("", "", "", false)
def tyJxb160c : Nat → FieldType := fun k => match k with
  | _ => .int
abbrev wsJxb160c0 : List Cond := u_ws RJxb160c TJxb160c 0
theorem nmJxb160c : ∀ a, a < 0 → ∀ b, b < 0 → a ≠ b → (TJxb160c a).2.1 ≠ (TJxb160c b).2.1 := by decide +kernel
theorem tyJxb160c_ok : ∀ k, k < 0 → parseFieldDescriptor (TJxb160c k).2.2.1 = some (tyJxb160c k) := by decide +kernel
def RJ6 : String := "java/lang/Integer"
def TJ6 : u_T := fun k => match k with
  | _ => ("", "", "", false)
def tyJ6 : Nat → FieldType := fun k => match k with
  | _ => .int
abbrev wsJ60 : List Cond := u_ws RJ6 TJ6 0
theorem nmJ6 : ∀ a, a < 0 → ∀ b, b < 0 → a ≠ b → (TJ6 a).2.1 ≠ (TJ6 b).2.1 := by decide +kernel
theorem tyJ6_ok : ∀ k, k < 0 → parseFieldDescriptor (TJ6 k).2.2.1 = some (tyJ6 k) := by decide +kernel
abbrev cJ6_bitCount_0f7a4 : ByteArray := prog_13_method_49_code
def yJ6_bitCount_0f7a4 : MethodName := ⟨RJ6, "bitCount", "(I)I"⟩
def RJ9 : String := "java/lang/Math"
def TJ9 : u_T := fun k => match k with
  | _ => ("", "", "", false)
def tyJ9 : Nat → FieldType := fun k => match k with
  | _ => .int
abbrev wsJ90 : List Cond := u_ws RJ9 TJ9 0
theorem nmJ9 : ∀ a, a < 0 → ∀ b, b < 0 → a ≠ b → (TJ9 a).2.1 ≠ (TJ9 b).2.1 := by decide +kernel
theorem tyJ9_ok : ∀ k, k < 0 → parseFieldDescriptor (TJ9 k).2.2.1 = some (tyJ9 k) := by decide +kernel
abbrev cJ9_min_7cf53 : ByteArray := prog_14_method_69_code
def yJ9_min_7cf53 : MethodName := ⟨RJ9, "min", "(II)I"⟩
def RJ0 : String := "java/lang/String"
def TJ0 : u_T := fun k => match k with
  | _ => ("", "", "", false)
def tyJ0 : Nat → FieldType := fun k => match k with
  | _ => .int
abbrev wsJ00 : List Cond := u_ws RJ0 TJ0 0
theorem nmJ0 : ∀ a, a < 0 → ∀ b, b < 0 → a ≠ b → (TJ0 a).2.1 ≠ (TJ0 b).2.1 := by decide +kernel
theorem tyJ0_ok : ∀ k, k < 0 → parseFieldDescriptor (TJ0 k).2.2.1 = some (tyJ0 k) := by decide +kernel
abbrev cJ0_length_8abf5 : ByteArray := prog_15_method_54_code
def yJ0_length_8abf5 : MethodName := ⟨RJ0, "length", "()I"⟩
abbrev cJ0_charAt_5068e : ByteArray := prog_15_method_56_code
def yJ0_charAt_5068e : MethodName := ⟨RJ0, "charAt", "(I)C"⟩
abbrev cJ0_coder_7d493 : ByteArray := prog_15_method_152_code
def yJ0_coder_7d493 : MethodName := ⟨RJ0, "coder", "()B"⟩
abbrev cJ0_isLatin1_aae02 : ByteArray := prog_15_method_154_code
def yJ0_isLatin1_aae02 : MethodName := ⟨RJ0, "isLatin1", "()Z"⟩
abbrev cJ0_checkIndex_df160 : ByteArray := prog_15_method_155_code
def yJ0_checkIndex_df160 : MethodName := ⟨RJ0, "checkIndex", "(II)V"⟩
def RJ1 : String := "java/lang/StringLatin1"
def TJ1 : u_T := fun k => match k with
  | _ => ("", "", "", false)
def tyJ1 : Nat → FieldType := fun k => match k with
  | _ => .int
abbrev wsJ10 : List Cond := u_ws RJ1 TJ1 0
theorem nmJ1 : ∀ a, a < 0 → ∀ b, b < 0 → a ≠ b → (TJ1 a).2.1 ≠ (TJ1 b).2.1 := by decide +kernel
theorem tyJ1_ok : ∀ k, k < 0 → parseFieldDescriptor (TJ1 k).2.2.1 = some (tyJ1 k) := by decide +kernel
abbrev cJ1_charAt_3b067 : ByteArray := prog_16_method_2_code
def yJ1_charAt_3b067 : MethodName := ⟨RJ1, "charAt", "([BI)C"⟩
def RJ2 : String := "java/lang/StringUTF16"
def TJ2 : u_T := fun k => match k with
  | _ => ("", "", "", false)
def tyJ2 : Nat → FieldType := fun k => match k with
  | _ => .int
abbrev wsJ20 : List Cond := u_ws RJ2 TJ2 0
theorem nmJ2 : ∀ a, a < 0 → ∀ b, b < 0 → a ≠ b → (TJ2 a).2.1 ≠ (TJ2 b).2.1 := by decide +kernel
theorem tyJ2_ok : ∀ k, k < 0 → parseFieldDescriptor (TJ2 k).2.2.1 = some (tyJ2 k) := by decide +kernel
abbrev cJ2_getChar_3b067 : ByteArray := prog_17_method_5_code
def yJ2_getChar_3b067 : MethodName := ⟨RJ2, "getChar", "([BI)C"⟩
abbrev cJ2_length_9d52b : ByteArray := prog_17_method_6_code
def yJ2_length_9d52b : MethodName := ⟨RJ2, "length", "([B)I"⟩
abbrev cJ2_charAt_3b067 : ByteArray := prog_17_method_83_code
def yJ2_charAt_3b067 : MethodName := ⟨RJ2, "charAt", "([BI)C"⟩
abbrev cJ2_checkIndex_2214a : ByteArray := prog_17_method_91_code
def yJ2_checkIndex_2214a : MethodName := ⟨RJ2, "checkIndex", "(I[B)V"⟩
def RJ10 : String := "java/lang/System"
def TJ10 : u_T := fun k => match k with
  | _ => ("", "", "", false)
def tyJ10 : Nat → FieldType := fun k => match k with
  | _ => .int
abbrev wsJ100 : List Cond := u_ws RJ10 TJ10 0
theorem nmJ10 : ∀ a, a < 0 → ∀ b, b < 0 → a ≠ b → (TJ10 a).2.1 ≠ (TJ10 b).2.1 := by decide +kernel
theorem tyJ10_ok : ∀ k, k < 0 → parseFieldDescriptor (TJ10 k).2.2.1 = some (tyJ10 k) := by decide +kernel
def RJxfd54e : String := "java/lang/constant/Constable"
def TJxfd54e : u_T := fun k => match k with
  | _ => ("", "", "", false)
def tyJxfd54e : Nat → FieldType := fun k => match k with
  | _ => .int
abbrev wsJxfd54e0 : List Cond := u_ws RJxfd54e TJxfd54e 0
theorem nmJxfd54e : ∀ a, a < 0 → ∀ b, b < 0 → a ≠ b → (TJxfd54e a).2.1 ≠ (TJxfd54e b).2.1 := by decide +kernel
theorem tyJxfd54e_ok : ∀ k, k < 0 → parseFieldDescriptor (TJxfd54e k).2.2.1 = some (tyJxfd54e k) := by decide +kernel
def RJx3cf43 : String := "java/lang/constant/ConstantDesc"
def TJx3cf43 : u_T := fun k => match k with
  | _ => ("", "", "", false)
def tyJx3cf43 : Nat → FieldType := fun k => match k with
  | _ => .int
abbrev wsJx3cf430 : List Cond := u_ws RJx3cf43 TJx3cf43 0
theorem nmJx3cf43 : ∀ a, a < 0 → ∀ b, b < 0 → a ≠ b → (TJx3cf43 a).2.1 ≠ (TJx3cf43 b).2.1 := by decide +kernel
theorem tyJx3cf43_ok : ∀ k, k < 0 → parseFieldDescriptor (TJx3cf43 k).2.2.1 = some (tyJx3cf43 k) := by decide +kernel
def RJ7 : String := "java/util/Arrays"
def TJ7 : u_T := fun k => match k with
  | _ => ("", "", "", false)
def tyJ7 : Nat → FieldType := fun k => match k with
  | _ => .int
abbrev wsJ70 : List Cond := u_ws RJ7 TJ7 0
theorem nmJ7 : ∀ a, a < 0 → ∀ b, b < 0 → a ≠ b → (TJ7 a).2.1 ≠ (TJ7 b).2.1 := by decide +kernel
theorem tyJ7_ok : ∀ k, k < 0 → parseFieldDescriptor (TJ7 k).2.2.1 = some (tyJ7 k) := by decide +kernel
abbrev cJ7_fill_53178 : ByteArray := prog_19_method_103_code
def yJ7_fill_53178 : MethodName := ⟨RJ7, "fill", "([II)V"⟩
def RJ3 : String := "jdk/internal/util/Preconditions"
def TJ3 : u_T := fun k => match k with
  | _ => ("", "", "", false)
def tyJ3 : Nat → FieldType := fun k => match k with
  | _ => .int
abbrev wsJ30 : List Cond := u_ws RJ3 TJ3 0
theorem nmJ3 : ∀ a, a < 0 → ∀ b, b < 0 → a ≠ b → (TJ3 a).2.1 ≠ (TJ3 b).2.1 := by decide +kernel
theorem tyJ3_ok : ∀ k, k < 0 → parseFieldDescriptor (TJ3 k).2.2.1 = some (tyJ3 k) := by decide +kernel
abbrev cJ3_checkIndex_8e157 : ByteArray := prog_20_method_11_code
def yJ3_checkIndex_8e157 : MethodName := ⟨RJ3, "checkIndex", "(IILjava/util/function/BiFunction;)I"⟩
def RL : String := "OneSunbeamLaw"
abbrev cL_law : ByteArray := code
def yL_law : MethodName := ⟨RL, "law", "([I)Z"⟩
end
section
abbrev cls : List vw_C := [(RX0, TX0, 7), (RX1, TX1, 13), (RX2, TX2, 4), (RX3, TX3, 7), (RX4, TX4, 14), (RX5, TX5, 9), (RX6, TX6, 4), (RX7, TX7, 6), (RX8, TX8, 18), (RX9, TX9, 16), (RX10, TX10, 80)]
/-- which slots of a kind of object hold references -/
def skl : List (List Bool) := [[true, true, true, true, true, false, false], [true, true, false, false, false, false, false, false, false, true, true, false, false], [true, true, true, false], [true, true, true, true, true, false, false], [true, true, false, false, false, false, false, false, false, false, false, false, false, true], [true, true, true, true, true, false, false, false, false], [false, false, false, true], [false, false, false, true, true, false], [false, false, false, false, false, false, false, false, false, false, true, true, true, true, true, true, true, true], [true, true, true, true, true, true, true, true, true, true, true, true, true, true, false, false], [false, true, true, true, true, true, true, true, true, true, true, true, true, true, true, true, true, true, true, true, true, true, true, true, false, false, false, false, false, false, false, false, false, false, true, true, true, true, true, true, true, true, true, true, true, true, true, true, true, true, true, false, false, false, false, false, false, false, true, false, true, true, true, false, true, false, true, true, true, true, true, true, true, true, false, false, true, true, false, false]]
def sk (ci k : Nat) : Bool := (skl.getD ci []).getD k false
/-- kind and length of what has a name: kinds below 20 are objects (their class), 20 ints, 21 bytes, 22 longs, 23 booleans, 24 and 25 rows of objects -/
def kd0 (n : Nat) : Nat × Nat := match n with
  | 0 => (9, 16)
  | 1 => (24, 4)
  | 2 => (25, 6)
  | 3 => (21, 400)
  | 4 => (20, 8)
  | 10 => (1, 13)
  | 11 => (20, 8)
  | 12 => (20, 576)
  | 13 => (20, 60)
  | 14 => (20, 60)
  | 20 => (2, 4)
  | 21 => (20, 8)
  | 22 => (22, 64)
  | 30 => (0, 7)
  | 31 => (20, 4)
  | 32 => (20, 4)
  | 33 => (20, 4)
  | 34 => (20, 4)
  | 40 => (5, 9)
  | 41 => (20, 5)
  | 42 => (20, 8)
  | 43 => (20, 192)
  | 50 => (6, 4)
  | 60 => (7, 6)
  | 61 => (20, 24)
  | 62 => (20, 24)
  | 70 => (4, 14)
  | 71 => (21, 400)
  | 72 => (20, 64)
  | _ => (99, 0)
def kd1 (n : Nat) : Nat × Nat := match n with
  | 0 => (8, 18)
  | 1 => (20, 576)
  | 2 => (20, 576)
  | 3 => (20, 576)
  | 4 => (20, 576)
  | 5 => (20, 288)
  | 6 => (20, 288)
  | 7 => (20, 240)
  | 8 => (20, 56)
  | _ => (99, 0)
def kd2 (n : Nat) : Nat × Nat := match n with
  | 0 => (3, 7)
  | 1 => (20, 400)
  | 2 => (20, 12)
  | 3 => (20, 12)
  | 4 => (20, 12)
  | 5 => (20, 12)
  | _ => (99, 0)
def kd3 (n : Nat) : Nat × Nat := match n with
  | 0 => (10, 80)
  | 1 => (20, 10)
  | 2 => (20, 576)
  | 3 => (20, 576)
  | 4 => (20, 288)
  | 5 => (20, 288)
  | 6 => (20, 576)
  | 7 => (20, 24)
  | 8 => (20, 24)
  | 9 => (20, 24)
  | 10 => (20, 24)
  | 11 => (20, 24)
  | 12 => (20, 24)
  | 13 => (20, 24)
  | 14 => (20, 24)
  | 15 => (20, 24)
  | 16 => (20, 24)
  | 17 => (20, 8)
  | 18 => (20, 8)
  | 19 => (20, 8)
  | 20 => (20, 8)
  | 21 => (20, 8)
  | 22 => (20, 8)
  | 23 => (20, 8)
  | 34 => (21, 400)
  | 35 => (20, 1800)
  | 36 => (20, 1800)
  | 37 => (20, 6)
  | 38 => (20, 72)
  | 39 => (20, 72)
  | 40 => (20, 72)
  | 41 => (20, 72)
  | 42 => (20, 402)
  | 43 => (22, 13)
  | 44 => (22, 300)
  | 45 => (20, 60)
  | 46 => (20, 60)
  | 47 => (20, 60)
  | 48 => (20, 60)
  | 49 => (20, 576)
  | 50 => (20, 8)
  | 58 => (23, 24)
  | 60 => (20, 24)
  | 61 => (20, 24)
  | 62 => (20, 24)
  | 64 => (20, 8)
  | 66 => (20, 8)
  | 67 => (20, 24)
  | 68 => (20, 24)
  | 69 => (20, 24)
  | 70 => (20, 8)
  | 71 => (20, 4)
  | 72 => (20, 4)
  | 73 => (20, 5)
  | 76 => (20, 10880)
  | 77 => (23, 4)
  | _ => (99, 0)
def kd (n : Nat) : Nat × Nat := if n < 100 then kd0 n else if n < 200 then kd1 (n % 10) else if n < 300 then kd2 (n % 10) else if n < 1000 then (99, 0) else kd3 (n - 1000)
abbrev MI : Type := Nat → Nat → Int32
abbrev ML : Type := Nat → Nat → Int64
abbrev MG : Type := Nat → Nat → Nat
abbrev MS : Type := (Nat → Nat) × List Nat × MI × ML × MG
def rn (ad : Nat → Nat) (g : Nat) : Option Nat := if g = 0 then none else some (ad g)
def sv (ad : Nat → Nat) (I : MI) (G : MG) (n ci k : Nat) : Value := if sk ci k = true then va_rf (rn ad (G n k)) else .int (I n k)
def cE (D : va_G) (ad : Nat → Nat) (I : MI) (L : ML) (G : MG) (n : Nat) : va_E :=
  if (kd n).1 < 20 then .inr ((kd n).1, (List.range (kd n).2).map (sv ad I G n (kd n).1))
  else if (kd n).1 = 22 then .inl (D.1 22, (kd n).2, .inr (.inl (L n)))
  else if (kd n).1 < 24 then .inl (D.1 (kd n).1, (kd n).2, .inl (I n))
  else .inl (D.1 (kd n).1, (kd n).2, .inr (.inr (.inr (.inr (fun k => rn ad (G n k))))))
def cf (D : va_G) (ad : Nat → Nat) (I : MI) (L : ML) (G : MG) (n : Nat) : Nat × va_E := (ad n, cE D ad I L G n)
def u2 {α : Type} (f : Nat → Nat → α) (n k : Nat) (v : α) : Nat → Nat → α := fun n' => if n' = n then va_up (f n) k v else f n'
theorem u2_at {α : Type} (f : Nat → Nat → α) (n k : Nat) (v : α) : u2 f n k v n = va_up (f n) k v := if_pos rfl
theorem u2_ne {α : Type} (f : Nat → Nat → α) {n m : Nat} (k : Nat) (v : α) (h : m ≠ n) : u2 f n k v m = f m := if_neg h
theorem u2_self {α : Type} (f : Nat → Nat → α) (n k : Nat) (v : α) : u2 f n k v n k = v := by rw [u2_at, va_up_self]
def Mem (D : va_G) (A : Nat → Prop) (ad : Nat → Nat) (ns : List Nat) (I : MI) (L : ML) (G : MG) (H : Heap) : Prop :=
  va_P D cls (ns.map (cf D ad I L G)) H ∧ va_D A (ns.map (cf D ad I L G)) ∧ ns.Nodup ∧ (∀ m ∈ ns, ∀ k, G m k = 0 ∨ G m k ∈ ns) ∧ ∀ m, m ∉ ns → ∀ k, I m k = 0 ∧ L m k = 0 ∧ G m k = 0
theorem map_set {f g : Nat → Nat × va_E} {ns : List Nat} {q n : Nat} (hn : ns.Nodup) (hq : ns[q]? = some n) (h : ∀ m ∈ ns, m ≠ n → g m = f m) : (ns.map f).set q (g n) = ns.map g := by
  have hl : q < ns.length := (List.getElem?_eq_some_iff.mp hq).1
  apply List.ext_getElem?
  intro j
  by_cases hj : j = q
  · subst hj
    rw [List.getElem?_set_self (by simpa using hl), List.getElem?_map, hq]
    rfl
  · rw [List.getElem?_set_ne (Ne.symm hj), List.getElem?_map, List.getElem?_map]
    cases hb : ns[j]? with
    | none => rfl
    | some b =>
      have hne : b ≠ n := by
        intro e
        subst e
        exact hj ((List.getElem?_inj hl hn).mp (hq.trans hb.symm)).symm
      show some (f b) = some (g b)
      rw [h b (List.mem_of_getElem? hb) hne]
theorem Mem.at {D : va_G} {A : Nat → Prop} {ad : Nat → Nat} {ns : List Nat} {I : MI} {L : ML} {G : MG} {n : Nat} (hn : n ∈ ns) : ∃ q : Nat, ns[q]? = some n ∧ (ns.map (cf D ad I L G))[q]? = some (ad n, cE D ad I L G n) := by
  obtain ⟨q, hq⟩ := List.getElem?_of_mem hn
  exact ⟨q, hq, by rw [List.getElem?_map, hq]; rfl⟩
theorem cE_obj {D : va_G} {ad : Nat → Nat} {I : MI} {L : ML} {G : MG} {n ci N : Nat} (h : kd n = (ci, N)) (hc : ci < 20) : cE D ad I L G n = .inr (ci, (List.range N).map (sv ad I G n ci)) := by
  simp only [cE, h, hc, if_true]
theorem cE_int {D : va_G} {ad : Nat → Nat} {I : MI} {L : ML} {G : MG} {n ci N : Nat} (h : kd n = (ci, N)) (hc : ci = 20 ∨ ci = 21 ∨ ci = 23) : cE D ad I L G n = .inl (D.1 ci, N, .inl (I n)) := by
  rcases hc with rfl | rfl | rfl <;> simp [cE, h]
theorem cE_long {D : va_G} {ad : Nat → Nat} {I : MI} {L : ML} {G : MG} {n N : Nat} (h : kd n = (22, N)) : cE D ad I L G n = .inl (D.1 22, N, .inr (.inl (L n))) := by
  simp [cE, h]
theorem cE_ref {D : va_G} {ad : Nat → Nat} {I : MI} {L : ML} {G : MG} {n ci N : Nat} (h : kd n = (ci, N)) (hc : ci = 24 ∨ ci = 25) : cE D ad I L G n = .inl (D.1 ci, N, .inr (.inr (.inr (.inr (fun k => rn ad (G n k)))))) := by
  rcases hc with rfl | rfl <;> simp [cE, h]
/-- what a name holds is said by its own numbers alone -/
theorem cE_congr {D : va_G} {ad ad' : Nat → Nat} {I I' : MI} {L L' : ML} {G G' : MG} {n : Nat} (hI : I' n = I n) (hL : L' n = L n) (hG : G' n = G n) (ha : ∀ k, G n k ≠ 0 → ad' (G n k) = ad (G n k)) : cE D ad' I' L' G' n = cE D ad I L G n := by
  have h1 : ∀ k, rn ad' (G' n k) = rn ad (G n k) := fun k => by
    rw [hG]
    by_cases hz : G n k = 0
    · simp [rn, hz]
    · simp only [rn, hz, if_false]
      rw [ha k hz]
  have h2 : sv ad' I' G' n = sv ad I G n := by
    funext ci k
    simp only [sv, h1, hI]
  simp only [cE, h2, hL, hI, h1]
theorem cf_congr {D : va_G} {ad ad' : Nat → Nat} {I I' : MI} {L L' : ML} {G G' : MG} {n : Nat} (hn : ad' n = ad n) (hI : I' n = I n) (hL : L' n = L n) (hG : G' n = G n) (ha : ∀ k, G n k ≠ 0 → ad' (G n k) = ad (G n k)) : cf D ad' I' L' G' n = cf D ad I L G n := by
  simp only [cf, hn, cE_congr hI hL hG ha]
theorem range_set {f : Nat → Value} {N k : Nat} {v : Value} (hk : k < N) : ((List.range N).map f).set k v = (List.range N).map (va_up f k v) := by
  apply List.ext_getElem?
  intro j
  by_cases hj : j = k
  · subst hj
    rw [List.getElem?_set_self (by simpa using hk), List.getElem?_map, List.getElem?_range hk]
    simp [va_up]
  · rw [List.getElem?_set_ne (Ne.symm hj), List.getElem?_map, List.getElem?_map]
    cases hb : (List.range N)[j]? with
    | none => rfl
    | some b =>
      have hb2 : b = j := by
        have := List.getElem?_eq_some_iff.mp hb
        obtain ⟨h1, h2⟩ := this
        simpa using h2.symm
      subst hb2
      simp [va_up, hj]
-- the words
def gt : List Cond := lw_tbl.filter goodWord
theorem gt_of {w : Cond} (h : w ∈ lw_tbl) (g : goodWord w = true) : w ∈ gt := List.mem_filter.mpr ⟨h, g⟩
def wd (y : MethodName) (b : ByteArray) (n : Nat) (r : Option FieldType) : List Cond := Cond.code y b n r :: gt
theorem gt_good {x : List Cond} {y : MethodName} {b : ByteArray} {n : Nat} {r : Option FieldType} (hx : ∀ w ∈ gt, w ∈ x) (h : Cond.code y b n r ∈ gt) : GoodIn x (wd y b n r) := by
  intro w hw
  have hg : w ∈ gt := by
    rcases List.mem_cons.mp hw with rfl | h2
    · exact h
    · exact h2
  exact ⟨hx w hg, good_of_word (List.mem_filter.mp hg).2⟩
-- what holds of the machine around: classes, links of nest mates, rows of objects, constant texts, constant tables
abbrev tyl (D : va_G) : List (ClassId × FieldType) := [(D.1 20, .int), (D.1 21, .byte), (D.1 22, .long), (D.1 23, .boolean), (D.1 24, .object RX8), (D.1 25, .object RX3)]
def SC (D : va_G) (i : Nat) (q : String × Nat × String × List Int32) (A : Nat → Prop) (U : State) (H : Heap) : Prop :=
  vk_R q.1 q.2.1 q.2.2.1 (D.2 100 i) U ∧ va_O "java/lang/String" (D.2 100 i) A U H ∧ va_OF "java/lang/String" "coder" "B" (.int 0) (D.2 100 i) A U H ∧ va_OF "java/lang/String" "value" "[B" (.ref (D.2 101 i)) (D.2 100 i) A U H ∧ va_T .byte (D.2 101 i) q.2.2.2.length (fun j => .int (q.2.2.2.getD j 0)) A U H
theorem SC.warm {D : va_G} {i : Nat} {q : String × Nat × String × List Int32} {A : Nat → Prop} {s U : State} {H : Heap} (hW : s.WarmedH U.vm) (h : SC D i q A s H) : SC D i q A U H := by
  obtain ⟨h1, h2, h3, h4, h5⟩ := h
  exact ⟨h1.warm hW, h2.moved hW.alike, h3.moved hW.alike, h4.moved hW.alike, h5.moved hW.alike⟩
theorem SC.kept {D : va_G} {i : Nat} {q : String × Nat × String × List Int32} {A : Nat → Prop} {U : State} {H H1 : Heap} (h : SC D i q A U H) (hq : ∀ a : Nat, a < H.size → ¬ A a → H1[a]? = H[a]?) : SC D i q A U H1 := by
  obtain ⟨h1, h2, h3, h4, h5⟩ := h
  exact ⟨h1, h2.kept hq, h3.kept hq, h4.kept hq, h5.kept hq⟩
def stX : List Int32 := [1, 1, 0, -1, -1, -1, 0, 1]
def stY : List Int32 := [0, 1, 1, 1, 0, -1, -1, -1]
def TBL (D : va_G) (k : Nat) (nm : String) (f : List Int32) (A : Nat → Prop) (U : State) (H : Heap) : Prop := va_Z "OneSunbeam" nm "[I" (.ref (D.2 102 k)) A U H ∧ va_T .int (D.2 102 k) 8 (fun j => .int (f.getD j 0)) A U H
theorem TBL.warm {D : va_G} {k : Nat} {nm : String} {f : List Int32} {A : Nat → Prop} {s U : State} {H : Heap} (hW : s.WarmedH U.vm) (h : TBL D k nm f A s H) : TBL D k nm f A U H := by
  obtain ⟨h1, h2⟩ := h
  exact ⟨h1.moved hW.alike, h2.moved hW.alike⟩
theorem TBL.kept {D : va_G} {k : Nat} {nm : String} {f : List Int32} {A : Nat → Prop} {U : State} {H H1 : Heap} (h : TBL D k nm f A U H) (hq : ∀ a : Nat, a < H.size → ¬ A a → H1[a]? = H[a]?) : TBL D k nm f A U H1 := by
  obtain ⟨h1, h2⟩ := h
  exact ⟨h1.kept hq, h2.kept hq⟩
def nwk (w : Cond) : Prop := (∃ a i x h, w = .methodLinkNest a i x h) ∨ (∃ a i b n d h, w = .fieldLinkNest a i b n d h)
def nw : List Cond := [(Cond.methodLinkNest "OneSunbeam" (9 : Nat) ({ cls := "OneSunbeam$Town", name := "<init>", desc := "()V" } : MethodName) "OneSunbeam"), (Cond.methodLinkNest "OneSunbeam" (25 : Nat) ({ cls := "OneSunbeam$Beams", name := "<init>", desc := "()V" } : MethodName) "OneSunbeam"), (Cond.methodLinkNest "OneSunbeam" (64 : Nat) ({ cls := "OneSunbeam$Theft", name := "<init>", desc := "()V" } : MethodName) "OneSunbeam"), (Cond.methodLinkNest "OneSunbeam" (71 : Nat) ({ cls := "OneSunbeam$LawReader", name := "<init>", desc := "()V" } : MethodName) "OneSunbeam"), (Cond.methodLinkNest "OneSunbeam" (90 : Nat) ({ cls := "OneSunbeam$Law", name := "<init>", desc := "()V" } : MethodName) "OneSunbeam"), (Cond.methodLinkNest "OneSunbeam$Town" (83 : Nat) ({ cls := "OneSunbeam", name := "cellOf", desc := "(II)I" } : MethodName) "OneSunbeam"), (Cond.methodLinkNest "OneSunbeam$Keepers" (131 : Nat) ({ cls := "OneSunbeam", name := "isWithin", desc := "(III)Z" } : MethodName) "OneSunbeam"), (Cond.methodLinkNest "OneSunbeam$Beams" (102 : Nat) ({ cls := "OneSunbeam", name := "cellOf", desc := "(II)I" } : MethodName) "OneSunbeam"), (Cond.methodLinkNest "OneSunbeam$Beams" (133 : Nat) ({ cls := "OneSunbeam", name := "shareOf", desc := "(II)I" } : MethodName) "OneSunbeam"), (Cond.fieldLinkNest "OneSunbeam$Beams" (53 : Nat) "OneSunbeam" "STEP_X" "[I" "OneSunbeam"), (Cond.fieldLinkNest "OneSunbeam$Beams" (56 : Nat) "OneSunbeam" "STEP_Y" "[I" "OneSunbeam"), (Cond.methodLinkNest "OneSunbeam$Aiming" (32 : Nat) ({ cls := "OneSunbeam", name := "isWithin", desc := "(III)Z" } : MethodName) "OneSunbeam"), (Cond.fieldLinkNest "OneSunbeam$Opening" (59 : Nat) "OneSunbeam" "STEP_X" "[I" "OneSunbeam"), (Cond.fieldLinkNest "OneSunbeam$Opening" (63 : Nat) "OneSunbeam" "STEP_Y" "[I" "OneSunbeam"), (Cond.methodLinkNest "OneSunbeam$Opening" (78 : Nat) ({ cls := "OneSunbeam", name := "cellOf", desc := "(II)I" } : MethodName) "OneSunbeam"), (Cond.methodLinkNest "OneSunbeam$Theft" (73 : Nat) ({ cls := "OneSunbeam", name := "shareOf", desc := "(II)I" } : MethodName) "OneSunbeam"), (Cond.methodLinkNest "OneSunbeam$Theft" (76 : Nat) ({ cls := "OneSunbeam", name := "cellOf", desc := "(II)I" } : MethodName) "OneSunbeam"), (Cond.fieldLinkNest "OneSunbeam$Theft" (98 : Nat) "OneSunbeam" "STEP_X" "[I" "OneSunbeam"), (Cond.fieldLinkNest "OneSunbeam$Theft" (101 : Nat) "OneSunbeam" "STEP_Y" "[I" "OneSunbeam")]
theorem nw_ok : ∀ w ∈ nw, nwk w := by
  intro w hw
  simp only [nw, List.mem_cons, List.mem_nil_iff, or_false] at hw
  rcases hw with rfl | rfl | rfl | rfl | rfl | rfl | rfl | rfl | rfl | rfl | rfl | rfl | rfl | rfl | rfl | rfl | rfl | rfl | rfl <;> first | exact Or.inl ⟨_, _, _, _, rfl⟩ | exact Or.inr ⟨_, _, _, _, _, _, rfl⟩
def sq : List (String × Nat × String × List Int32) := [("OneSunbeam$LawReader", 155, "and", [97, 110, 100]), ("OneSunbeam$LawReader", 161, "day", [100, 97, 121]), ("OneSunbeam$LawReader", 163, "hour", [104, 111, 117, 114]), ("OneSunbeam$LawReader", 165, "if", [105, 102]), ("OneSunbeam$LawReader", 167, "month", [109, 111, 110, 116, 104]), ("OneSunbeam$LawReader", 169, "not", [110, 111, 116]), ("OneSunbeam$LawReader", 171, "or", [111, 114]), ("OneSunbeam$LawReader", 173, "sun", [115, 117, 110]), ("OneSunbeam$LawReader", 175, "slant", [115, 108, 97, 110, 116]), ("OneSunbeam$LawReader", 177, "turn", [116, 117, 114, 110]), ("OneSunbeamModel", 361, "turn", [116, 117, 114, 110]), ("OneSunbeamModel", 239, "hour", [104, 111, 117, 114]), ("OneSunbeamModel", 241, "month", [109, 111, 110, 116, 104]), ("OneSunbeamModel", 243, "day", [100, 97, 121]), ("OneSunbeamModel", 245, "slant", [115, 108, 97, 110, 116]), ("OneSunbeamModel", 246, "sun", [115, 117, 110]), ("OneSunbeamModel", 248, "a", [97]), ("OneSunbeamModel", 250, "b", [98]), ("OneSunbeamModel", 252, "c", [99]), ("OneSunbeamModel", 254, "d", [100]), ("OneSunbeamModel", 256, "e", [101]), ("OneSunbeamModel", 258, "f", [102]), ("OneSunbeamModel", 260, "g", [103]), ("OneSunbeamModel", 262, "h", [104]), ("OneSunbeamModel", 363, "if", [105, 102]), ("OneSunbeamModel", 343, "not", [110, 111, 116]), ("OneSunbeamModel", 357, "and", [97, 110, 100]), ("OneSunbeamModel", 359, "or", [111, 114])]
theorem nw_warm {w : Cond} (hk : nwk w) {s U : State} (hW : s.WarmedH U.vm) (h : va_Nw w s) : va_Nw w U := by
  rcases hk with ⟨a, i, x, q, rfl⟩ | ⟨a, i, b, n, d, q, rfl⟩
  · exact va_Nw.warmM hW h
  · exact va_Nw.warmF hW h
def EV (D : va_G) (A : Nat → Prop) (U : State) (H : Heap) : Prop :=
  va_K D cls (tyl D) U ∧ (∀ w ∈ nw, va_Nw w U) ∧ va_AO RX8 U ∧ va_AO RX3 U ∧ (∀ (i : Nat) (q : String × Nat × String × List Int32), sq[i]? = some q → SC D i q A U H) ∧ TBL D 0 "STEP_X" stX A U H ∧ TBL D 1 "STEP_Y" stY A U H ∧ va_Z "java/lang/String" "COMPACT_STRINGS" "Z" (.int 1) A U H ∧ va_Zq "jdk/internal/util/Preconditions" "SIOOBE_FORMATTER" "Ljava/util/function/BiFunction;" A U H
theorem EV.warm {D : va_G} {A : Nat → Prop} {s U : State} {H : Heap} (hW : s.WarmedH U.vm) (h : EV D A s H) : EV D A U H := by
  obtain ⟨h1, h2, h3, h4, h5, h6, h7, h8, h9⟩ := h
  exact ⟨va_K.moved hW.alike h1, fun w hw => nw_warm (nw_ok w hw) hW (h2 w hw), h3.moved hW.alike, h4.moved hW.alike, fun i q hq => (h5 i q hq).warm hW, h6.warm hW, h7.warm hW, h8.moved hW.alike, h9.moved hW.alike⟩
theorem EV.kept {D : va_G} {A : Nat → Prop} {U : State} {H H1 : Heap} {locs : List Loc} (h : EV D A U H) (hS : va_S A H H1 locs) : EV D A U H1 := by
  obtain ⟨h1, h2, h3, h4, h5, h6, h7, h8, h9⟩ := h
  exact ⟨h1, h2, h3, h4, fun i q hq => (h5 i q hq).kept hS.2.1, h6.kept hS.2.1, h7.kept hS.2.1, h8.kept hS.2.1, h9.kept hS.2.1⟩
-- contracts
def PM (D : va_G) (A : Nat → Prop) (ad : Nat → Nat) (ns : List Nat) (I : MI) (L : ML) (G : MG) : State → Prop := fun U => EV D A U U.heap ∧ Mem D A ad ns I L G U.heap ∧ ∀ q, U.heap.size ≤ q → A q
def BM (D : va_G) (A : Nat → Prop) : MS → State → Prop := fun u t => Mem D A u.1 u.2.1 u.2.2.1 u.2.2.2.1 u.2.2.2.2 t.heap
def Cx (p : Program) (s : State) (m : MethodId) (args : Array Value) (meth : Method) (c : Code) (y : MethodName) (b : ByteArray) (nL : Nat) (ret : Option FieldType) : Prop :=
  p.tables.exec = Jvm.exec ∧ c.code = b ∧ c.maxLocals = nL ∧ s.vm.findClass y.cls = some m.cls ∧ (∀ w ∈ gt, w.before args s = true) ∧ meth.sig.returnType = ret ∧ meth.locks = false ∧ meth.name = y.name
theorem PM.blind {D : va_G} {A : Nat → Prop} {ad : Nat → Nat} {ns : List Nat} {I : MI} {L : ML} {G : MG} {avs : List Value} : FrameBlind (va_Pc avs (PM D A ad ns I L G)) := by
  intro a U g mk h
  obtain ⟨h0, h1, h2, h3⟩ := h
  exact ⟨h0, EV.warm (s := U) (U := U.calling g mk a) (State.WarmedH.refl U) h1, h2, h3⟩
theorem m_ofW {l : Launch} {y : MethodName} {b : ByteArray} {maxL : Nat} {ret : Option FieldType} {rm : Room} {D : va_G} {A : Nat → Prop} {ad : Nat → Nat} {ns : List Nat} {I : MI} {L : ML} {G : MG} {avs : List Value} {Qc : Array Value → State → Outcome → State → Prop} {mc ms : Nat}
    (hy : plainName y.cls = true) (hlen : (lg_sl avs).length ≤ maxL)
    (body : ∀ (p : Program) (e : Env) (s : State) (m : MethodId) (below : List Frame) (meth : Method) (c : Code) (ls : Array Slot) (args : Array Value), Cx p s m args meth c y b maxL ret → EV D A s s.heap → Mem D A ad ns I L G s.heap → (∀ q, s.heap.size ≤ q → A q) → va_S A s.heap s.heap [] → lv_has ls maxL (lv_args 0 avs) →
      W p l e rm s m args below meth c s.heap [] 0 0 (MQ below Qc args s mc ms A) (F0 m 0 ls [])) :
    Met l y (wd y b maxL ret) rm (va_Pc avs (PM D A ad ns I L G)) Qc mc ms A := by
  refine Met.ofW (cc := b) (maxL := maxL) (ret := ret) hy rfl ?_
  intro p e s m args below meth c s₁ B hml hv
  obtain ⟨rfl, hE, hM, hA⟩ := hv
  have hts := atoms_spec (ws := wd y b maxL ret) B.pre
  have hl := lv_entry avs hlen
  rw [lg_entry_eq]
  exact body p e s m below meth c _ _ ⟨B.exec, B.bytes, hml, findClass_of_methodNamed B.named, fun w hw => hts w (List.mem_cons_of_mem _ hw), B.returns, B.notSynchronized, (name_of_methodNamed B.named B.method).1⟩ hE hM hA va_S.rf hl
end
section
def OC (ci : Nat) (C : String) (T : u_T) (ty0 : Nat → FieldType) (N : Nat) : Prop := cls[ci]? = some (C, T, N) ∧ ci < 20 ∧ (∀ w ∈ u_ws C T N, w ∈ gt) ∧ (∀ k, k < N → parseFieldDescriptor (T k).2.2.1 = some (ty0 k)) ∧ (∀ a, a < N → ∀ b, b < N → a ≠ b → (T a).2.1 ≠ (T b).2.1)
theorem ne_of {ns : List Nat} {n m : Nat} (hn : n ∈ ns) (hm : m ∉ ns) : m ≠ n := fun e => hm (by rw [e]; exact hn)
section MR
variable {p : Program} {l : Launch} {e : Env} {R : Room} {s : State} {m : MethodId} {args : Array Value} {below : List Frame} {meth : Method} {c : Code} {H : Heap} {locs : List Loc} {cells slots : Nat} {Q : State → Prop}
variable {cc : ByteArray} {pc : Nat} {ls : Array Slot} {rest : List Value} {D : va_G} {A : Nat → Prop} {ad : Nat → Nat} {ns : List Nat} {I : MI} {L : ML} {G : MG}
variable {own C : String} {ci N index : Nat} {T : u_T} {ty0 : Nat → FieldType}
theorem m_geti (n k : Nat) (hx : p.tables.exec = Jvm.exec) (hb : c.code = cc) (hts : ∀ w ∈ gt, w.before args s = true) (hown : s.vm.findClass own = some m.cls) (hE : EV D A s s.heap) (oc : OC ci C T ty0 N) (hM : Mem D A ad ns I L G H) (hn : n ∈ ns) (hk : kd n = (ci, N)) (hkN : k < N) (hs : sk ci k = false) (hlink : Cond.fieldLink own index (T k).1 (T k).2.1 (T k).2.2.1 ∈ gt) (hdg : decode cc pc = .ok (.getfield index, 3))
    (kk : W p l e R s m args below meth c H locs cells slots Q (F0 m (pc + 3) ls (.int (I n k) :: rest))) : W p l e R s m args below meth c H locs cells slots Q (F0 m pc ls (.ref (ad n) :: rest)) := by
  obtain ⟨q, hq, hc⟩ := Mem.at (D := D) (A := A) (ad := ad) (I := I) (L := L) (G := G) hn
  rw [cE_obj hk oc.2.1] at hc
  exact va_get hx hb hts oc.2.2.1 hown hE.1 hM.1 q hc oc.1 k hkN (hts _ hlink) (fun _ h9 => h9) (v := .int (I n k)) (by rw [List.getElem?_map, List.getElem?_range hkN]; simp [sv, hs]) hdg kk
theorem m_getr (n k g : Nat) (hx : p.tables.exec = Jvm.exec) (hb : c.code = cc) (hts : ∀ w ∈ gt, w.before args s = true) (hown : s.vm.findClass own = some m.cls) (hE : EV D A s s.heap) (oc : OC ci C T ty0 N) (hM : Mem D A ad ns I L G H) (hn : n ∈ ns) (hk : kd n = (ci, N)) (hkN : k < N) (hs : sk ci k = true) (hg : G n k = g) (hg0 : g ≠ 0) (hlink : Cond.fieldLink own index (T k).1 (T k).2.1 (T k).2.2.1 ∈ gt) (hdg : decode cc pc = .ok (.getfield index, 3))
    (kk : W p l e R s m args below meth c H locs cells slots Q (F0 m (pc + 3) ls (.ref (ad g) :: rest))) : W p l e R s m args below meth c H locs cells slots Q (F0 m pc ls (.ref (ad n) :: rest)) := by
  obtain ⟨q, hq, hc⟩ := Mem.at (D := D) (A := A) (ad := ad) (I := I) (L := L) (G := G) hn
  rw [cE_obj hk oc.2.1] at hc
  exact va_get hx hb hts oc.2.2.1 hown hE.1 hM.1 q hc oc.1 k hkN (hts _ hlink) (fun _ h9 => h9) (v := .ref (ad g)) (by rw [List.getElem?_map, List.getElem?_range hkN]; simp [sv, hs, hg, rn, hg0, va_rf]) hdg kk
theorem m_getn (n k : Nat) (hx : p.tables.exec = Jvm.exec) (hb : c.code = cc) (hts : ∀ w ∈ gt, w.before args s = true) (hown : s.vm.findClass own = some m.cls) (hE : EV D A s s.heap) (oc : OC ci C T ty0 N) (hM : Mem D A ad ns I L G H) (hn : n ∈ ns) (hk : kd n = (ci, N)) (hkN : k < N) (hs : sk ci k = true) (hg : G n k = 0) (hlink : Cond.fieldLink own index (T k).1 (T k).2.1 (T k).2.2.1 ∈ gt) (hdg : decode cc pc = .ok (.getfield index, 3))
    (kk : W p l e R s m args below meth c H locs cells slots Q (F0 m (pc + 3) ls (.null :: rest))) : W p l e R s m args below meth c H locs cells slots Q (F0 m pc ls (.ref (ad n) :: rest)) := by
  obtain ⟨q, hq, hc⟩ := Mem.at (D := D) (A := A) (ad := ad) (I := I) (L := L) (G := G) hn
  rw [cE_obj hk oc.2.1] at hc
  exact va_get hx hb hts oc.2.2.1 hown hE.1 hM.1 q hc oc.1 k hkN (hts _ hlink) (fun _ h9 => h9) (v := .null) (by rw [List.getElem?_map, List.getElem?_range hkN]; simp [sv, hs, hg, rn, va_rf]) hdg kk
theorem sv_puti {n k : Nat} {v : Int32} (hs : sk ci k = false) : sv ad (u2 I n k v) G n ci = va_up (sv ad I G n ci) k (.int v) := by
  funext j
  by_cases hj : j = k
  · subst hj
    simp [sv, hs, va_up, u2]
  · simp [sv, va_up, hj, u2]
theorem sv_putr {n k g : Nat} (hs : sk ci k = true) : sv ad I (u2 G n k g) n ci = va_up (sv ad I G n ci) k (va_rf (rn ad g)) := by
  funext j
  by_cases hj : j = k
  · subst hj
    simp [sv, hs, va_up, u2]
  · simp [sv, va_up, hj, u2]
theorem m_puti (n k : Nat) (hx : p.tables.exec = Jvm.exec) (hb : c.code = cc) (hts : ∀ w ∈ gt, w.before args s = true) (hown : s.vm.findClass own = some m.cls) (hE : EV D A s s.heap) (oc : OC ci C T ty0 N) (hM : Mem D A ad ns I L G H) (hS : va_S A s.heap H locs) (hn : n ∈ ns) (hk : kd n = (ci, N)) (hkN : k < N) (hs : sk ci k = false) {v : Int32} (hfin : (T k).2.2.2 = false) (hnar : narrow (ty0 k) (.int v) = .int v) (hfit : fits (ty0 k) (.int v) = true) (hlink : Cond.fieldLink own index (T k).1 (T k).2.1 (T k).2.2.1 ∈ gt) (hdg : decode cc pc = .ok (.putfield index, 3))
    (kk : ∀ (H1 : Heap) (locs1 : List Loc) (I1 : MI), I1 = u2 I n k v → Mem D A ad ns I1 L G H1 → va_S A s.heap H1 locs1 → W p l e R s m args below meth c H1 locs1 cells slots Q (F0 m (pc + 3) ls rest)) : W p l e R s m args below meth c H locs cells slots Q (F0 m pc ls (.int v :: .ref (ad n) :: rest)) := by
  obtain ⟨q, hq, hc⟩ := Mem.at (D := D) (A := A) (ad := ad) (I := I) (L := L) (G := G) hn
  rw [cE_obj hk oc.2.1] at hc
  refine va_put hx hb hts oc.2.2.1 ty0 oc.2.2.2.1 oc.2.2.2.2 hown hE.1 hM.1 hM.2.1 hS q hc oc.1 k hkN (hts _ hlink) (fun _ h9 => h9) hfin (oc.2.2.2.1 k hkN) hnar hfit (by simpa using hkN) hdg (fun H1 locs1 hP hD hS => ?_)
  rw [range_set hkN, ← sv_puti hs] at hP hD
  have e1 : (ad n, (.inr (ci, (List.range N).map (sv ad (u2 I n k v) G n ci)) : va_E)) = cf D ad (u2 I n k v) L G n := by rw [cf, cE_obj hk oc.2.1]
  have e2 : (ns.map (cf D ad I L G)).set q (cf D ad (u2 I n k v) L G n) = ns.map (cf D ad (u2 I n k v) L G) := map_set hM.2.2.1 hq (fun m' _ hm => cf_congr rfl (u2_ne I k v hm) rfl rfl (fun _ _ => rfl))
  rw [e1, e2] at hP hD
  exact kk H1 locs1 _ rfl ⟨hP, hD, hM.2.2.1, hM.2.2.2.1, fun m' hm' j => by rw [u2_ne I k v (ne_of hn hm')]; exact hM.2.2.2.2 m' hm' j⟩ hS
theorem m_putr (n k g : Nat) (hx : p.tables.exec = Jvm.exec) (hb : c.code = cc) (hts : ∀ w ∈ gt, w.before args s = true) (hown : s.vm.findClass own = some m.cls) (hE : EV D A s s.heap) (oc : OC ci C T ty0 N) (hM : Mem D A ad ns I L G H) (hS : va_S A s.heap H locs) (hn : n ∈ ns) (hk : kd n = (ci, N)) (hkN : k < N) (hs : sk ci k = true) (hg0 : g ≠ 0) (hgn : g ∈ ns) (hfin : (T k).2.2.2 = false) (hnar : narrow (ty0 k) (.ref (ad g)) = .ref (ad g)) (hfit : fits (ty0 k) (.ref (ad g)) = true) (hlink : Cond.fieldLink own index (T k).1 (T k).2.1 (T k).2.2.1 ∈ gt) (hdg : decode cc pc = .ok (.putfield index, 3))
    (kk : ∀ (H1 : Heap) (locs1 : List Loc) (G1 : MG), G1 = u2 G n k g → Mem D A ad ns I L G1 H1 → va_S A s.heap H1 locs1 → W p l e R s m args below meth c H1 locs1 cells slots Q (F0 m (pc + 3) ls rest)) : W p l e R s m args below meth c H locs cells slots Q (F0 m pc ls (.ref (ad g) :: .ref (ad n) :: rest)) := by
  obtain ⟨q, hq, hc⟩ := Mem.at (D := D) (A := A) (ad := ad) (I := I) (L := L) (G := G) hn
  rw [cE_obj hk oc.2.1] at hc
  refine va_put hx hb hts oc.2.2.1 ty0 oc.2.2.2.1 oc.2.2.2.2 hown hE.1 hM.1 hM.2.1 hS q hc oc.1 k hkN (hts _ hlink) (fun _ h9 => h9) hfin (oc.2.2.2.1 k hkN) hnar hfit (by simpa using hkN) hdg (fun H1 locs1 hP hD hS => ?_)
  have e0 : (Value.ref (ad g)) = va_rf (rn ad g) := by simp [rn, hg0, va_rf]
  rw [e0, range_set hkN, ← sv_putr hs] at hP hD
  have e1 : (ad n, (.inr (ci, (List.range N).map (sv ad I (u2 G n k g) n ci)) : va_E)) = cf D ad I L (u2 G n k g) n := by rw [cf, cE_obj hk oc.2.1]
  have e2 : (ns.map (cf D ad I L G)).set q (cf D ad I L (u2 G n k g) n) = ns.map (cf D ad I L (u2 G n k g)) := map_set hM.2.2.1 hq (fun m' _ hm => cf_congr rfl rfl rfl (u2_ne G k g hm) (fun _ _ => rfl))
  rw [e1, e2] at hP hD
  refine kk H1 locs1 _ rfl ⟨hP, hD, hM.2.2.1, fun m' hm' j => ?_, fun m' hm' j => by rw [u2_ne G k g (ne_of hn hm')]; exact hM.2.2.2.2 m' hm' j⟩ hS
  by_cases h1 : m' = n
  · subst h1
    rw [u2_at]
    by_cases h2 : j = k
    · subst h2
      rw [va_up_self]
      exact Or.inr hgn
    · rw [va_up_ne _ _ h2]
      exact hM.2.2.2.1 m' hm' j
  · rw [u2_ne G k g h1]
    exact hM.2.2.2.1 m' hm' j
theorem m_putF (n k g : Nat) (hx : p.tables.exec = Jvm.exec) (hb : c.code = cc) (hts : ∀ w ∈ gt, w.before args s = true) (hown : s.vm.findClass own = some m.cls) (hin : meth.name = "<init>") (hE : EV D A s s.heap) (oc : OC ci C T ty0 N) (hM : Mem D A ad ns I L G H) (hS : va_S A s.heap H locs) (hn : n ∈ ns) (hk : kd n = (ci, N)) (hkN : k < N) (hs : sk ci k = true) (hg0 : g ≠ 0) (hgn : g ∈ ns) (hfin : (T k).2.2.2 = true) (hdecl : (T k).1 = own) (hnar : narrow (ty0 k) (.ref (ad g)) = .ref (ad g)) (hfit : fits (ty0 k) (.ref (ad g)) = true) (hlink : Cond.fieldLink own index (T k).1 (T k).2.1 (T k).2.2.1 ∈ gt) (hdg : decode cc pc = .ok (.putfield index, 3))
    (kk : ∀ (H1 : Heap) (locs1 : List Loc) (G1 : MG), G1 = u2 G n k g → Mem D A ad ns I L G1 H1 → va_S A s.heap H1 locs1 → W p l e R s m args below meth c H1 locs1 cells slots Q (F0 m (pc + 3) ls rest)) : W p l e R s m args below meth c H locs cells slots Q (F0 m pc ls (.ref (ad g) :: .ref (ad n) :: rest)) := by
  obtain ⟨q, hq, hc⟩ := Mem.at (D := D) (A := A) (ad := ad) (I := I) (L := L) (G := G) hn
  rw [cE_obj hk oc.2.1] at hc
  refine va_putF hx hb hts oc.2.2.1 ty0 oc.2.2.2.1 oc.2.2.2.2 hown hE.1 hM.1 hM.2.1 hS q hc oc.1 k hkN (hts _ hlink) (fun _ h9 => h9) hfin hin hdecl (oc.2.2.2.1 k hkN) hnar hfit (by simpa using hkN) hdg (fun H1 locs1 hP hD hS => ?_)
  have e0 : (Value.ref (ad g)) = va_rf (rn ad g) := by simp [rn, hg0, va_rf]
  rw [e0, range_set hkN, ← sv_putr hs] at hP hD
  have e1 : (ad n, (.inr (ci, (List.range N).map (sv ad I (u2 G n k g) n ci)) : va_E)) = cf D ad I L (u2 G n k g) n := by rw [cf, cE_obj hk oc.2.1]
  have e2 : (ns.map (cf D ad I L G)).set q (cf D ad I L (u2 G n k g) n) = ns.map (cf D ad I L (u2 G n k g)) := map_set hM.2.2.1 hq (fun m' _ hm => cf_congr rfl rfl rfl (u2_ne G k g hm) (fun _ _ => rfl))
  rw [e1, e2] at hP hD
  refine kk H1 locs1 _ rfl ⟨hP, hD, hM.2.2.1, fun m' hm' j => ?_, fun m' hm' j => by rw [u2_ne G k g (ne_of hn hm')]; exact hM.2.2.2.2 m' hm' j⟩ hS
  by_cases h1 : m' = n
  · subst h1
    rw [u2_at]
    by_cases h2 : j = k
    · subst h2
      rw [va_up_self]
      exact Or.inr hgn
    · rw [va_up_ne _ _ h2]
      exact hM.2.2.2.1 m' hm' j
  · rw [u2_ne G k g h1]
    exact hM.2.2.2.1 m' hm' j

-- rows of arrays
theorem m_iald (n : Nat) (hx : p.tables.exec = Jvm.exec) (hb : c.code = cc) (hE : EV D A s s.heap) (hM : Mem D A ad ns I L G H) (hn : n ∈ ns) (hk : kd n = (20, N)) {i : Int32} (hin : vp_in i N) (hdg : decode cc pc = .ok (.iaload, 1))
    (kk : W p l e R s m args below meth c H locs cells slots Q (F0 m (pc + 1) ls (.int (I n i.toNatClampNeg) :: rest))) : W p l e R s m args below meth c H locs cells slots Q (F0 m pc ls (.int i :: .ref (ad n) :: rest)) := by
  obtain ⟨q, hq, hc⟩ := Mem.at (D := D) (A := A) (ad := ad) (I := I) (L := L) (G := G) hn
  rw [cE_int hk (Or.inl rfl)] at hc
  exact va_iald hx hb hE.1 hM.1 q 0 hc rfl hin hdg kk
theorem m_bald (n : Nat) (hx : p.tables.exec = Jvm.exec) (hb : c.code = cc) (hE : EV D A s s.heap) (hM : Mem D A ad ns I L G H) (hn : n ∈ ns) (hk : kd n = (21, N)) {i : Int32} (hin : vp_in i N) (hdg : decode cc pc = .ok (.baload, 1))
    (kk : W p l e R s m args below meth c H locs cells slots Q (F0 m (pc + 1) ls (.int (I n i.toNatClampNeg) :: rest))) : W p l e R s m args below meth c H locs cells slots Q (F0 m pc ls (.int i :: .ref (ad n) :: rest)) := by
  obtain ⟨q, hq, hc⟩ := Mem.at (D := D) (A := A) (ad := ad) (I := I) (L := L) (G := G) hn
  rw [cE_int hk (Or.inr (Or.inl rfl))] at hc
  exact va_bald hx hb hE.1 hM.1 q 1 hc rfl hin hdg kk
theorem m_zald (n : Nat) (hx : p.tables.exec = Jvm.exec) (hb : c.code = cc) (hE : EV D A s s.heap) (hM : Mem D A ad ns I L G H) (hn : n ∈ ns) (hk : kd n = (23, N)) {i : Int32} (hin : vp_in i N) (hdg : decode cc pc = .ok (.baload, 1))
    (kk : W p l e R s m args below meth c H locs cells slots Q (F0 m (pc + 1) ls (.int (I n i.toNatClampNeg) :: rest))) : W p l e R s m args below meth c H locs cells slots Q (F0 m pc ls (.int i :: .ref (ad n) :: rest)) := by
  obtain ⟨q, hq, hc⟩ := Mem.at (D := D) (A := A) (ad := ad) (I := I) (L := L) (G := G) hn
  rw [cE_int hk (Or.inr (Or.inr rfl))] at hc
  exact va_zald hx hb hE.1 hM.1 q 3 hc rfl hin hdg kk
theorem m_lald (n : Nat) (hx : p.tables.exec = Jvm.exec) (hb : c.code = cc) (hE : EV D A s s.heap) (hM : Mem D A ad ns I L G H) (hn : n ∈ ns) (hk : kd n = (22, N)) {i : Int32} (hin : vp_in i N) (hdg : decode cc pc = .ok (.laload, 1))
    (kk : W p l e R s m args below meth c H locs cells slots Q (F0 m (pc + 1) ls (.long (L n i.toNatClampNeg) :: rest))) : W p l e R s m args below meth c H locs cells slots Q (F0 m pc ls (.int i :: .ref (ad n) :: rest)) := by
  obtain ⟨q, hq, hc⟩ := Mem.at (D := D) (A := A) (ad := ad) (I := I) (L := L) (G := G) hn
  rw [cE_long hk] at hc
  exact va_lald hx hb hE.1 hM.1 q 2 hc rfl hin hdg kk
/-- a place of a row of objects: its name, 0 for null -/
theorem m_aald (n : Nat) (hx : p.tables.exec = Jvm.exec) (hb : c.code = cc) (hE : EV D A s s.heap) (hM : Mem D A ad ns I L G H) (hn : n ∈ ns) (hk : kd n = (ci, N)) (hci : ci = 24 ∨ ci = 25) {i : Int32} (hin : vp_in i N) (hdg : decode cc pc = .ok (.aaload, 1))
    (kk : W p l e R s m args below meth c H locs cells slots Q (F0 m (pc + 1) ls (va_rf (rn ad (G n i.toNatClampNeg)) :: rest))) : W p l e R s m args below meth c H locs cells slots Q (F0 m pc ls (.int i :: .ref (ad n) :: rest)) := by
  obtain ⟨q, hq, hc⟩ := Mem.at (D := D) (A := A) (ad := ad) (I := I) (L := L) (G := G) hn
  rw [cE_ref hk hci] at hc
  rcases hci with rfl | rfl
  · exact va_aldq hx hb hE.1 hM.1 q 4 hc rfl hin hdg kk
  · exact va_aldq hx hb hE.1 hM.1 q 5 hc rfl hin hdg kk
theorem Mem.putI {n k : Nat} {v : Int32} (hM : Mem D A ad ns I L G H) (hn : n ∈ ns) {q : Nat} (hq : ns[q]? = some n) (hk : kd n = (ci, N)) (hc : ci = 20 ∨ ci = 21 ∨ ci = 23) {H1 : Heap} (hP : va_P D cls ((ns.map (cf D ad I L G)).set q (ad n, .inl (D.1 ci, N, .inl (upd (I n) k v)))) H1) (hD : va_D A ((ns.map (cf D ad I L G)).set q (ad n, .inl (D.1 ci, N, .inl (upd (I n) k v))))) : Mem D A ad ns (u2 I n k v) L G H1 := by
  have e1 : (ad n, (.inl (D.1 ci, N, .inl (upd (I n) k v)) : va_E)) = cf D ad (u2 I n k v) L G n := by rw [cf, cE_int hk hc, u2_at]; rfl
  have e2 : (ns.map (cf D ad I L G)).set q (cf D ad (u2 I n k v) L G n) = ns.map (cf D ad (u2 I n k v) L G) := map_set hM.2.2.1 hq (fun m' _ hm => cf_congr rfl (u2_ne I k v hm) rfl rfl (fun _ _ => rfl))
  rw [e1, e2] at hP hD
  exact ⟨hP, hD, hM.2.2.1, hM.2.2.2.1, fun m' hm' j => by rw [u2_ne I k v (ne_of hn hm')]; exact hM.2.2.2.2 m' hm' j⟩
theorem m_iast (n : Nat) (hx : p.tables.exec = Jvm.exec) (hb : c.code = cc) (hE : EV D A s s.heap) (hM : Mem D A ad ns I L G H) (hS : va_S A s.heap H locs) (hn : n ∈ ns) (hk : kd n = (20, N)) {i x : Int32} (hin : vp_in i N) (hdg : decode cc pc = .ok (.iastore, 1))
    (kk : ∀ (H1 : Heap) (locs1 : List Loc) (I1 : MI), I1 = u2 I n i.toNatClampNeg x → Mem D A ad ns I1 L G H1 → va_S A s.heap H1 locs1 → W p l e R s m args below meth c H1 locs1 cells slots Q (F0 m (pc + 1) ls rest)) : W p l e R s m args below meth c H locs cells slots Q (F0 m pc ls (.int x :: .int i :: .ref (ad n) :: rest)) := by
  obtain ⟨q, hq, hc⟩ := Mem.at (D := D) (A := A) (ad := ad) (I := I) (L := L) (G := G) hn
  rw [cE_int hk (Or.inl rfl)] at hc
  exact va_iast hx hb hE.1 hM.1 hM.2.1 hS q 0 hc rfl hin hdg (fun H1 locs1 hP hD hS => kk H1 locs1 _ rfl (hM.putI hn hq hk (Or.inl rfl) hP hD) hS)
theorem m_bast (n : Nat) (hx : p.tables.exec = Jvm.exec) (hb : c.code = cc) (hE : EV D A s s.heap) (hM : Mem D A ad ns I L G H) (hS : va_S A s.heap H locs) (hn : n ∈ ns) (hk : kd n = (21, N)) {i x : Int32} (hin : vp_in i N) (hdg : decode cc pc = .ok (.bastore, 1))
    (kk : ∀ (H1 : Heap) (locs1 : List Loc) (I1 : MI), I1 = u2 I n i.toNatClampNeg (vp_nar .byte x) → Mem D A ad ns I1 L G H1 → va_S A s.heap H1 locs1 → W p l e R s m args below meth c H1 locs1 cells slots Q (F0 m (pc + 1) ls rest)) : W p l e R s m args below meth c H locs cells slots Q (F0 m pc ls (.int x :: .int i :: .ref (ad n) :: rest)) := by
  obtain ⟨q, hq, hc⟩ := Mem.at (D := D) (A := A) (ad := ad) (I := I) (L := L) (G := G) hn
  rw [cE_int hk (Or.inr (Or.inl rfl))] at hc
  exact va_bast hx hb hE.1 hM.1 hM.2.1 hS q 1 hc rfl hin hdg (fun H1 locs1 hP hD hS => kk H1 locs1 _ rfl (hM.putI hn hq hk (Or.inr (Or.inl rfl)) hP hD) hS)
theorem m_zast (n : Nat) (hx : p.tables.exec = Jvm.exec) (hb : c.code = cc) (hE : EV D A s s.heap) (hM : Mem D A ad ns I L G H) (hS : va_S A s.heap H locs) (hn : n ∈ ns) (hk : kd n = (23, N)) {i x : Int32} (hin : vp_in i N) (hdg : decode cc pc = .ok (.bastore, 1))
    (kk : ∀ (H1 : Heap) (locs1 : List Loc) (I1 : MI), I1 = u2 I n i.toNatClampNeg (vp_nar .boolean x) → Mem D A ad ns I1 L G H1 → va_S A s.heap H1 locs1 → W p l e R s m args below meth c H1 locs1 cells slots Q (F0 m (pc + 1) ls rest)) : W p l e R s m args below meth c H locs cells slots Q (F0 m pc ls (.int x :: .int i :: .ref (ad n) :: rest)) := by
  obtain ⟨q, hq, hc⟩ := Mem.at (D := D) (A := A) (ad := ad) (I := I) (L := L) (G := G) hn
  rw [cE_int hk (Or.inr (Or.inr rfl))] at hc
  exact va_zast hx hb hE.1 hM.1 hM.2.1 hS q 3 hc rfl hin hdg (fun H1 locs1 hP hD hS => kk H1 locs1 _ rfl (hM.putI hn hq hk (Or.inr (Or.inr rfl)) hP hD) hS)
theorem m_last (n : Nat) (hx : p.tables.exec = Jvm.exec) (hb : c.code = cc) (hE : EV D A s s.heap) (hM : Mem D A ad ns I L G H) (hS : va_S A s.heap H locs) (hn : n ∈ ns) (hk : kd n = (22, N)) {i : Int32} {x : Int64} (hin : vp_in i N) (hdg : decode cc pc = .ok (.lastore, 1))
    (kk : ∀ (H1 : Heap) (locs1 : List Loc) (L1 : ML), L1 = u2 L n i.toNatClampNeg x → Mem D A ad ns I L1 G H1 → va_S A s.heap H1 locs1 → W p l e R s m args below meth c H1 locs1 cells slots Q (F0 m (pc + 1) ls rest)) : W p l e R s m args below meth c H locs cells slots Q (F0 m pc ls (.long x :: .int i :: .ref (ad n) :: rest)) := by
  obtain ⟨q, hq, hc⟩ := Mem.at (D := D) (A := A) (ad := ad) (I := I) (L := L) (G := G) hn
  rw [cE_long hk] at hc
  refine va_last hx hb hE.1 hM.1 hM.2.1 hS q 2 hc rfl hin hdg (fun H1 locs1 hP hD hS => ?_)
  have e1 : (ad n, (.inl (D.1 22, N, .inr (.inl (vp_updL (L n) i.toNatClampNeg x))) : va_E)) = cf D ad I (u2 L n i.toNatClampNeg x) G n := by rw [cf, cE_long hk, u2_at]; rfl
  have e2 : (ns.map (cf D ad I L G)).set q (cf D ad I (u2 L n i.toNatClampNeg x) G n) = ns.map (cf D ad I (u2 L n i.toNatClampNeg x) G) := map_set hM.2.2.1 hq (fun m' _ hm => cf_congr rfl rfl (u2_ne L _ x hm) rfl (fun _ _ => rfl))
  rw [e1, e2] at hP hD
  exact kk H1 locs1 _ rfl ⟨hP, hD, hM.2.2.1, hM.2.2.2.1, fun m' hm' j => by rw [u2_ne L _ x (ne_of hn hm')]; exact hM.2.2.2.2 m' hm' j⟩ hS
theorem m_aast (n g : Nat) {ck : Nat} (hx : p.tables.exec = Jvm.exec) (hb : c.code = cc) (hE : EV D A s s.heap) (hM : Mem D A ad ns I L G H) (hS : va_S A s.heap H locs) (hn : n ∈ ns) (hk : kd n = (ci, N)) (hg : g ∈ ns) (hg0 : g ≠ 0) {Ng : Nat} (hkg : kd g = (ck, Ng)) (hcc : ci = 24 ∧ ck = 8 ∨ ci = 25 ∧ ck = 3) {i : Int32} (hin : vp_in i N) (hdg : decode cc pc = .ok (.aastore, 1))
    (kk : ∀ (H1 : Heap) (locs1 : List Loc) (G1 : MG), G1 = u2 G n i.toNatClampNeg g → Mem D A ad ns I L G1 H1 → va_S A s.heap H1 locs1 → W p l e R s m args below meth c H1 locs1 cells slots Q (F0 m (pc + 1) ls rest)) : W p l e R s m args below meth c H locs cells slots Q (F0 m pc ls (.ref (ad g) :: .int i :: .ref (ad n) :: rest)) := by
  obtain ⟨q, hq, hc⟩ := Mem.at (D := D) (A := A) (ad := ad) (I := I) (L := L) (G := G) hn
  obtain ⟨q2, hq2, hc2⟩ := Mem.at (D := D) (A := A) (ad := ad) (I := I) (L := L) (G := G) hg
  have hci : ci = 24 ∨ ci = 25 := by rcases hcc with ⟨h, -⟩ | ⟨h, -⟩ <;> simp [h]
  have hck : ck < 20 := by rcases hcc with ⟨-, h⟩ | ⟨-, h⟩ <;> simp [h]
  rw [cE_ref hk hci] at hc
  rw [cE_obj hkg hck] at hc2
  have key : ∀ (H1 : Heap) (locs1 : List Loc), va_P D cls ((ns.map (cf D ad I L G)).set q (ad n, .inl (D.1 ci, N, .inr (.inr (.inr (.inr (va_up (fun k => rn ad (G n k)) i.toNatClampNeg (some (ad g)))))))) ) H1 → va_D A ((ns.map (cf D ad I L G)).set q (ad n, .inl (D.1 ci, N, .inr (.inr (.inr (.inr (va_up (fun k => rn ad (G n k)) i.toNatClampNeg (some (ad g)))))))) ) → va_S A s.heap H1 locs1 → W p l e R s m args below meth c H1 locs1 cells slots Q (F0 m (pc + 1) ls rest) := by
    intro H1 locs1 hP hD hS
    have e0 : va_up (fun k => rn ad (G n k)) i.toNatClampNeg (some (ad g)) = fun k => rn ad (u2 G n i.toNatClampNeg g n k) := by
      funext j
      rw [u2_at]
      by_cases hj : j = i.toNatClampNeg
      · subst hj
        rw [va_up_self, va_up_self]
        simp [rn, hg0]
      · rw [va_up_ne _ _ hj, va_up_ne _ _ hj]
    have e1 : (ad n, (.inl (D.1 ci, N, .inr (.inr (.inr (.inr (va_up (fun k => rn ad (G n k)) i.toNatClampNeg (some (ad g))))))) : va_E)) = cf D ad I L (u2 G n i.toNatClampNeg g) n := by rw [cf, cE_ref hk hci, e0]
    have e2 : (ns.map (cf D ad I L G)).set q (cf D ad I L (u2 G n i.toNatClampNeg g) n) = ns.map (cf D ad I L (u2 G n i.toNatClampNeg g)) := map_set hM.2.2.1 hq (fun m' _ hm => cf_congr rfl rfl rfl (u2_ne G _ g hm) (fun _ _ => rfl))
    rw [e1, e2] at hP hD
    refine kk H1 locs1 _ rfl ⟨hP, hD, hM.2.2.1, fun m' hm' j => ?_, fun m' hm' j => by rw [u2_ne G _ g (ne_of hn hm')]; exact hM.2.2.2.2 m' hm' j⟩ hS
    by_cases h1 : m' = n
    · subst h1
      rw [u2_at]
      by_cases h2 : j = i.toNatClampNeg
      · subst h2
        rw [va_up_self]
        exact Or.inr hg
      · rw [va_up_ne _ _ h2]
        exact hM.2.2.2.1 m' hm' j
    · rw [u2_ne G _ g h1]
      exact hM.2.2.2.1 m' hm' j
  rcases hcc with ⟨rfl, rfl⟩ | ⟨rfl, rfl⟩
  · exact va_astq (r := (RX8, TX8, 18)) hx hb hE.1 hM.1 hM.2.1 hS q 4 q2 8 hc rfl hc2 rfl hin hdg key
  · exact va_astq (r := (RX3, TX3, 7)) hx hb hE.1 hM.1 hM.2.1 hS q 5 q2 3 hc rfl hc2 rfl hin hdg key
theorem m_alen (n : Nat) {ty : FieldType} {t0 : Nat} (hx : p.tables.exec = Jvm.exec) (hb : c.code = cc) (hE : EV D A s s.heap) (hM : Mem D A ad ns I L G H) (hn : n ∈ ns) (hk : kd n = (ci, N)) (hc : ci = 20 ∨ ci = 21 ∨ ci = 23) (ht : (tyl D)[t0]? = some (D.1 ci, ty)) {v : Int32} (hv : Int32.ofNat N = v) (hdg : decode cc pc = .ok (.arraylength, 1))
    (kk : W p l e R s m args below meth c H locs cells slots Q (F0 m (pc + 1) ls (.int v :: rest))) : W p l e R s m args below meth c H locs cells slots Q (F0 m pc ls (.ref (ad n) :: rest)) := by
  obtain ⟨q, hq, h2⟩ := Mem.at (D := D) (A := A) (ad := ad) (I := I) (L := L) (G := G) hn
  rw [cE_int hk hc] at h2
  exact va_alen hx hb hE.1 hM.1 q t0 h2 ht hv hdg kk
-- making
theorem Mem.grow {n q : Nat} {H1 : Heap} (hM : Mem D A ad ns I L G H) (hn : n ∉ ns) (hn0 : n ≠ 0) (hP : va_P D cls (ns.map (cf D ad I L G) ++ [(q, cE D (va_up ad n q) I L G n)]) H1) (hD : va_D A (ns.map (cf D ad I L G) ++ [(q, cE D (va_up ad n q) I L G n)])) : Mem D A (va_up ad n q) (ns ++ [n]) I L G H1 := by
  have hne : ∀ x ∈ ns, va_up ad n q x = ad x := fun x hx => va_up_ne _ _ (fun h => hn (h ▸ hx))
  have e1 : ns.map (cf D ad I L G) = ns.map (cf D (va_up ad n q) I L G) := by
    apply List.map_congr_left
    intro x hx
    refine (cf_congr (hne x hx) rfl rfl rfl (fun k hk => ?_)).symm
    rcases hM.2.2.2.1 x hx k with h | h
    · exact absurd h hk
    · exact hne _ h
  have e2 : (q, cE D (va_up ad n q) I L G n) = cf D (va_up ad n q) I L G n := by rw [cf, va_up_self]
  rw [e1, e2] at hP hD
  refine ⟨by rw [List.map_append]; exact hP, by rw [List.map_append]; exact hD, ?_, fun m' hm' k => ?_, fun m' hm' k => hM.2.2.2.2 m' (fun h => hm' (List.mem_append_left _ h)) k⟩
  · rw [List.nodup_append]
    refine ⟨hM.2.2.1, by simp, fun a ha b hb => ?_⟩
    rw [List.mem_singleton] at hb
    subst hb
    exact fun h => hn (h ▸ ha)
  · rcases List.mem_append.mp hm' with h | h
    · rcases hM.2.2.2.1 m' h k with h2 | h2
      · exact Or.inl h2
      · exact Or.inr (List.mem_append_left _ h2)
    · rw [List.mem_singleton] at h
      subst h
      exact Or.inl (hM.2.2.2.2 m' hn k).2.2
theorem up_keep {ad : Nat → Nat} {ns : List Nat} {n q : Nat} (hn : n ∉ ns) : ∀ x ∈ ns, va_up ad n q x = ad x := fun x hx => va_up_ne _ _ (fun h => hn (h ▸ hx))
theorem m_newi (n : Nat) {atype : ArrayType} {ty : FieldType} {t0 : Nat} {v : Int32} (hx : p.tables.exec = Jvm.exec) (hb : c.code = cc) (hts : ∀ w ∈ gt, w.before args s = true) (hE : EV D A s s.heap) (hM : Mem D A ad ns I L G H) (hS : va_S A s.heap H locs) (hA : ∀ q, s.heap.size ≤ q → A q) (hn : n ∉ ns) (hn0 : n ≠ 0) (hk : kd n = (ci, N)) (hc : ci = 20 ∨ ci = 21 ∨ ci = 23) (ht : (tyl D)[t0]? = some (D.1 ci, ty)) (hobj : ∀ (U : State) (x : ClassId), va_RA U x ty → U.vm.findClass ("[" ++ ty.toString) = some x) (harr : Cond.arrayClass ty ∈ gt) (hty : newarray.typeOf atype = ty) (hdef : defaultValue ty = .int 0) (hv0 : ¬ v < 0) (hvN : v.toNatClampNeg = N) (hby : N * componentBytes ty ≤ 536870912) (hcells : cells + 1 ≤ R.cells) (hslots : slots + N ≤ R.slots) (hdg : decode cc pc = .ok (.newarray atype, 2))
    (kk : ∀ (H1 : Heap) (ad1 : Nat → Nat), (∀ x ∈ ns, ad1 x = ad x) → Mem D A ad1 (ns ++ [n]) I L G H1 → va_S A s.heap H1 locs → W p l e R s m args below meth c H1 locs (cells + 1) (slots + N) Q (F0 m (pc + 2) ls (.ref (ad1 n) :: rest))) : W p l e R s m args below meth c H locs cells slots Q (F0 m pc ls (.int v :: rest)) := by
  refine va_newa (a0 := (N, .inl (fun _ => 0))) hx hb (by rw [hty]; exact hts _ harr) hty hE.1 hM.1 hM.2.1 hS hA (fun cA => by rw [vp_cell_i, hdef]) hv0 hvN hby hcells hslots hdg (fun q cA H1 hK hP hD hS => ?_)
  have h1 := hobj s cA (hK.2 (tyl D).length (cA, ty) (by simp)).2
  have h2 := hobj s (D.1 ci) (hE.1.2 t0 _ ht).2
  have h3 : cA = D.1 ci := Option.some.inj (h1.symm.trans h2)
  subst h3
  have e1 : (.inl (D.1 ci, N, .inl (fun _ => 0)) : va_E) = cE D (va_up ad n q) I L G n := by
    rw [cE_int hk hc, show I n = fun _ => 0 from funext fun k => (hM.2.2.2.2 n hn k).1]
  rw [e1] at hP hD
  have := kk H1 (va_up ad n q) (up_keep hn) (hM.grow hn hn0 hP hD) hS
  rwa [va_up_self] at this
theorem m_newl (n : Nat) {v : Int32} (hx : p.tables.exec = Jvm.exec) (hb : c.code = cc) (hts : ∀ w ∈ gt, w.before args s = true) (hE : EV D A s s.heap) (hM : Mem D A ad ns I L G H) (hS : va_S A s.heap H locs) (hA : ∀ q, s.heap.size ≤ q → A q) (hn : n ∉ ns) (hn0 : n ≠ 0) (hk : kd n = (22, N)) (harr : Cond.arrayClass .long ∈ gt) (hv0 : ¬ v < 0) (hvN : v.toNatClampNeg = N) (hby : N * componentBytes .long ≤ 536870912) (hcells : cells + 1 ≤ R.cells) (hslots : slots + N ≤ R.slots) (hdg : decode cc pc = .ok (.newarray .long, 2))
    (kk : ∀ (H1 : Heap) (ad1 : Nat → Nat), (∀ x ∈ ns, ad1 x = ad x) → Mem D A ad1 (ns ++ [n]) I L G H1 → va_S A s.heap H1 locs → W p l e R s m args below meth c H1 locs (cells + 1) (slots + N) Q (F0 m (pc + 2) ls (.ref (ad1 n) :: rest))) : W p l e R s m args below meth c H locs cells slots Q (F0 m pc ls (.int v :: rest)) := by
  refine va_newa (atype := .long) (ty := .long) (a0 := (N, .inr (.inl (fun _ => 0)))) hx hb (hts (Cond.arrayClass .long) harr) rfl hE.1 hM.1 hM.2.1 hS hA (fun cA => rfl) hv0 hvN hby hcells hslots hdg (fun q cA H1 hK hP hD hS => ?_)
  have h1 : s.vm.findClass ("[" ++ FieldType.long.toString) = some cA := (hK.2 (tyl D).length (cA, .long) (by simp)).2
  have h2 : s.vm.findClass ("[" ++ FieldType.long.toString) = some (D.1 22) := (hE.1.2 2 (D.1 22, .long) rfl).2
  have h3 : cA = D.1 22 := Option.some.inj (h1.symm.trans h2)
  subst h3
  have e1 : (.inl (D.1 22, N, .inr (.inl (fun _ => 0))) : va_E) = cE D (va_up ad n q) I L G n := by
    rw [cE_long hk, show L n = fun _ => 0 from funext fun k => (hM.2.2.2.2 n hn k).2.1]
  rw [e1] at hP hD
  have := kk H1 (va_up ad n q) (up_keep hn) (hM.grow hn hn0 hP hD) hS
  rwa [va_up_self] at this
theorem m_newq (n : Nat) {t0 : Nat} {v : Int32} (hx : p.tables.exec = Jvm.exec) (hb : c.code = cc) (hts : ∀ w ∈ gt, w.before args s = true) (hown : s.vm.findClass own = some m.cls) (hE : EV D A s s.heap) (hM : Mem D A ad ns I L G H) (hS : va_S A s.heap H locs) (hA : ∀ q, s.heap.size ≤ q → A q) (hn : n ∉ ns) (hn0 : n ≠ 0) (hk : kd n = (ci, N)) (hc : ci = 24 ∨ ci = 25) (ht : (tyl D)[t0]? = some (D.1 ci, .object C)) (hAO : va_AO C s) (hcl : Cond.classLink own index C ∈ gt) (hv0 : ¬ v < 0) (hvN : v.toNatClampNeg = N) (hby : N * 4 ≤ 536870912) (hcells : cells + 1 ≤ R.cells) (hslots : slots + N ≤ R.slots) (hdg : decode cc pc = .ok (.anewarray index, 3))
    (kk : ∀ (H1 : Heap) (ad1 : Nat → Nat), (∀ x ∈ ns, ad1 x = ad x) → Mem D A ad1 (ns ++ [n]) I L G H1 → va_S A s.heap H1 locs → W p l e R s m args below meth c H1 locs (cells + 1) (slots + N) Q (F0 m (pc + 3) ls (.ref (ad1 n) :: rest))) : W p l e R s m args below meth c H locs cells slots Q (F0 m pc ls (.int v :: rest)) := by
  refine va_newq hx hb hown (hts _ hcl) hAO hE.1 hM.1 hM.2.1 hS hA hv0 hvN hby hcells hslots hdg (fun q cA H1 hK hP hD hS => ?_)
  obtain ⟨-, -, -, -, -, h1⟩ : ∃ (kA : Class) (comp : ClassId), _ ∧ _ ∧ _ ∧ _ := (hK.2 (tyl D).length (cA, .object C) (by simp)).2
  obtain ⟨-, -, -, -, -, h2⟩ : ∃ (kA : Class) (comp : ClassId), _ ∧ _ ∧ _ ∧ _ := (hE.1.2 t0 _ ht).2
  have h3 : cA = D.1 ci := Option.some.inj (h1.symm.trans h2)
  subst h3
  have e1 : (.inl (D.1 ci, N, .inr (.inr (.inr (.inr (fun _ => none))))) : va_E) = cE D (va_up ad n q) I L G n := by
    rw [cE_ref hk hc]
    have : (fun k => rn (va_up ad n q) (G n k)) = fun _ => none := funext fun k => by rw [(hM.2.2.2.2 n hn k).2.2]; simp [rn]
    rw [this]
  rw [e1] at hP hD
  have := kk H1 (va_up ad n q) (up_keep hn) (hM.grow hn hn0 hP hD) hS
  rwa [va_up_self] at this
theorem m_new (n : Nat) (hx : p.tables.exec = Jvm.exec) (hb : c.code = cc) (hts : ∀ w ∈ gt, w.before args s = true) (hown : s.vm.findClass own = some m.cls) (hE : EV D A s s.heap) (oc : OC ci C T ty0 N) (hM : Mem D A ad ns I L G H) (hS : va_S A s.heap H locs) (hA : ∀ q, s.heap.size ≤ q → A q) (hn : n ∉ ns) (hn0 : n ≠ 0) (hk : kd n = (ci, N)) (hdf : ∀ j, j < N → defaultValue (ty0 j) = if sk ci j = true then .null else .int 0) (hcl : Cond.classLink own index C ∈ gt) (hinst : Cond.instantiable C N ∈ gt) (hini : Cond.initialized C ∈ gt) (hcells : cells + 1 ≤ R.cells) (hslots : slots + N ≤ R.slots) (hdg : decode cc pc = .ok (.new index, 3))
    (kk : ∀ (H1 : Heap) (ad1 : Nat → Nat), (∀ x ∈ ns, ad1 x = ad x) → Mem D A ad1 (ns ++ [n]) I L G H1 → va_S A s.heap H1 locs → W p l e R s m args below meth c H1 locs (cells + 1) (slots + N) Q (F0 m (pc + 3) ls (.ref (ad1 n) :: rest))) : W p l e R s m args below meth c H locs cells slots Q (F0 m pc ls rest) := by
  refine va_new (ci := ci) (fs := (List.range N).map (fun j => if sk ci j = true then .null else .int 0)) hx hb hts oc.2.2.1 ty0 oc.2.2.2.1 hown (hts _ hcl) (hts _ hinst) (hts _ hini) hE.1 hM.1 hM.2.1 hS hA oc.1 (fun j hj => ?_) hcells hslots hdg (fun q H1 hP hD hS => ?_)
  · rw [hdf j hj, vp_V, List.getD_eq_getElem?_getD, List.getElem?_map, List.getElem?_range hj]
    rfl
  · have e0 : (fun j => if sk ci j = true then Value.null else .int 0) = sv (va_up ad n q) I G n ci := by
      funext j
      obtain ⟨h1, -, h3⟩ := hM.2.2.2.2 n hn j
      simp only [sv, h1, h3, rn, if_true, va_rf]
    have e1 : (.inr (ci, (List.range N).map (fun j => if sk ci j = true then Value.null else .int 0)) : va_E) = cE D (va_up ad n q) I L G n := by
      rw [cE_obj hk oc.2.1, e0]
    rw [e1] at hP hD
    have := kk H1 (va_up ad n q) (up_keep hn) (hM.grow hn hn0 hP hD) hS
    rwa [va_up_self] at this
end MR
end
section
def CeV (C : String) (y : MethodName) (bytes : ByteArray) (maxL : Nat) (ret : Option FieldType) (nP : Nat) : Prop := Cond.instanceMethod y ∈ gt ∧ Cond.selects C y y ∈ gt ∧ Cond.initialized C ∈ gt ∧ Cond.code y bytes maxL ret ∈ gt ∧ (y.cls = C ∧ y.cls ≠ "java/lang/invoke/MethodHandle" ∧ y.cls ≠ "java/lang/invoke/VarHandle" ∧ (parseMethodDescriptor y.desc).map (fun d => d.parameters.length) = some nP)
def CeS (y : MethodName) (bytes : ByteArray) (maxL : Nat) (ret : Option FieldType) (nP : Nat) : Prop := Cond.static y ∈ gt ∧ Cond.initialized y.cls ∈ gt ∧ Cond.code y bytes maxL ret ∈ gt ∧ (y.cls ≠ "java/lang/invoke/MethodHandle" ∧ y.cls ≠ "java/lang/invoke/VarHandle" ∧ (parseMethodDescriptor y.desc).map (fun d => d.parameters.length) = some nP)
def CeI (y : MethodName) (bytes : ByteArray) (maxL : Nat) (nP : Nat) : Prop := Cond.instanceMethod y ∈ gt ∧ Cond.initialized y.cls ∈ gt ∧ Cond.code y bytes maxL none ∈ gt ∧ y.name = "<init>" ∧ (y.cls ≠ "java/lang/invoke/MethodHandle" ∧ y.cls ≠ "java/lang/invoke/VarHandle" ∧ (parseMethodDescriptor y.desc).map (fun d => d.parameters.length) = some nP)
section MC
variable {p : Program} {l : Launch} {e : Env} {R : Room} {s : State} {m : MethodId} {args : Array Value} {below : List Frame} {meth : Method} {c : Code} {H : Heap} {locs : List Loc} {cells slots : Nat} {Q : State → Prop}
variable {cc : ByteArray} {pc : Nat} {ls : Array Slot} {rest st : List Value} {D : va_G} {A : Nat → Prop} {ad : Nat → Nat} {ns : List Nat} {I : MI} {L : ML} {G : MG}
variable {own C host : String} {ci N index : Nat} {T : u_T} {y : MethodName} {bytes : ByteArray} {maxL nL mc ms nP : Nat} {ret : Option FieldType} {rm : Room} {Qc : Array Value → State → Outcome → State → Prop} {As : List Value}
theorem m_pre (hE : EV D A s s.heap) (hM : Mem D A ad ns I L G H) (hS : va_S A s.heap H locs) (hA : ∀ q, s.heap.size ≤ q → A q) (avs : List Value) : ∀ U : State, U.heap = H → s.WarmedH U.vm → va_Pc avs (PM D A ad ns I L G) avs.toArray U := by
  intro U hU hW
  refine ⟨rfl, ?_, ?_, ?_⟩
  · rw [hU]
    exact (hE.kept hS).warm hW
  · rw [hU]
    exact hM
  · intro q hq
    rw [hU] at hq
    exact hA q (Nat.le_trans hS.1 hq)
theorem m_recv {n : Nat} (hE : EV D A s s.heap) (hM : Mem D A ad ns I L G H) (hn : n ∈ ns) (hk : kd n = (ci, N)) (hc : cls[ci]? = some (C, T, N)) (hci : ci < 20) : ∃ cell : Cell, H[ad n]? = some cell ∧ cell.vm.isStatics = false ∧ s.vm.findClass C = some cell.cls := by
  obtain ⟨q, hq, h2⟩ := Mem.at (D := D) (A := A) (ad := ad) (I := I) (L := L) (G := G) hn
  rw [cE_obj hk hci] at h2
  exact va_recv (q := (C, T, N)) hE.1 hM.1 hc h2
theorem m_runV (n : Nat) (hx : p.tables.exec = Jvm.exec) (hb : c.code = cc) (hml : c.maxLocals = nL) (hown : s.vm.findClass own = some m.cls) (hts : ∀ w ∈ gt, w.before args s = true) (hE : EV D A s s.heap) (hM : Mem D A ad ns I L G H) (hS : va_S A s.heap H locs) (hA : ∀ q, s.heap.size ≤ q → A q) (ce : CeV C y bytes maxL ret nP) (hl : Cond.methodLink own index y ∈ gt)
    (hMet : Met l y (wd y bytes maxL ret) rm (va_Pc (.ref (ad n) :: As) (PM D A ad ns I L G)) Qc mc ms A) (hrc : rm.cells = mc) (hrs : rm.slots = ms) (hR : rm.frames + 1 ≤ R.frames ∧ 8 + (maxL + 11) + rm.locals ≤ R.locals) (hn : n ∈ ns) (hk : kd n = (ci, N)) (hc : cls[ci]? = some (C, T, N)) (hci : ci < 20) (hnp : As.length = nP) (hsize : ls.size = nL) (hst : st = As.reverse ++ .ref (ad n) :: rest) (hW : (rest.map fun v => v.category).sum ≤ 8) (hdg : decode cc pc = .ok (.invokevirtual index, 3)) (hf : cells + mc ≤ R.cells ∧ slots + ms ≤ R.slots) :
    va_Run p l e R s m args below meth c H locs cells slots mc ms (F0 m pc ls st) rest (Qc (Value.ref (ad n) :: As).toArray) A := by
  have hG : GoodIn gt (wd y bytes maxL ret) := gt_good (fun _ h => h) ce.2.2.2.1
  have hd := ce.2.2.2.2
  exact va_runV (C := C) (Ts := gt) ⟨hx, hb, hml, hown, hts⟩ hMet ⟨callB_of nP hts hG rfl hrc hrs (by rw [hd.1]; exact hts _ ce.2.2.1) (hts _ hl) hd.2 hR, hts _ ce.1, hts _ ce.2.1⟩ ⟨PM.blind, m_recv hE hM hn hk hc hci, m_pre hE hM hS hA _⟩ rfl hnp hsize hst (lv_room hW) hdg hf
theorem m_runS (hx : p.tables.exec = Jvm.exec) (hb : c.code = cc) (hml : c.maxLocals = nL) (hown : s.vm.findClass own = some m.cls) (hts : ∀ w ∈ gt, w.before args s = true) (hE : EV D A s s.heap) (hM : Mem D A ad ns I L G H) (hS : va_S A s.heap H locs) (hA : ∀ q, s.heap.size ≤ q → A q) (ce : CeS y bytes maxL ret nP) (hl : Cond.methodLink own index y ∈ gt)
    (hMet : Met l y (wd y bytes maxL ret) rm (va_Pc As (PM D A ad ns I L G)) Qc mc ms A) (hrc : rm.cells = mc) (hrs : rm.slots = ms) (hR : rm.frames + 1 ≤ R.frames ∧ 8 + (maxL + 11) + rm.locals ≤ R.locals) (hnp : As.length = nP) (hsize : ls.size = nL) (hst : st = As.reverse ++ rest) (hW : (rest.map fun v => v.category).sum ≤ 8) (hdg : decode cc pc = .ok (.invokestatic index, 3)) (hf : cells + mc ≤ R.cells ∧ slots + ms ≤ R.slots) :
    va_Run p l e R s m args below meth c H locs cells slots mc ms (F0 m pc ls st) rest (Qc As.toArray) A := by
  have hG : GoodIn gt (wd y bytes maxL ret) := gt_good (fun _ h => h) ce.2.2.1
  exact va_runS (Ts := gt) ⟨hx, hb, hml, hown, hts⟩ hMet ⟨callB_of nP hts hG rfl hrc hrs (hts _ ce.2.1) (hts _ hl) ce.2.2.2 hR, hts _ ce.1⟩ ⟨PM.blind, m_pre hE hM hS hA _⟩ rfl hnp hsize hst (lv_room hW) hdg hf
theorem m_runSN (hx : p.tables.exec = Jvm.exec) (hb : c.code = cc) (hml : c.maxLocals = nL) (hown : s.vm.findClass own = some m.cls) (hts : ∀ w ∈ gt, w.before args s = true) (hE : EV D A s s.heap) (hM : Mem D A ad ns I L G H) (hS : va_S A s.heap H locs) (hA : ∀ q, s.heap.size ≤ q → A q) (ce : CeS y bytes maxL ret nP) (hl : Cond.methodLinkNest own index y host ∈ nw)
    (hMet : Met l y (wd y bytes maxL ret) rm (va_Pc As (PM D A ad ns I L G)) Qc mc ms A) (hrc : rm.cells = mc) (hrs : rm.slots = ms) (hR : rm.frames + 1 ≤ R.frames ∧ 8 + (maxL + 11) + rm.locals ≤ R.locals) (hnp : As.length = nP) (hsize : ls.size = nL) (hst : st = As.reverse ++ rest) (hW : (rest.map fun v => v.category).sum ≤ 8) (hdg : decode cc pc = .ok (.invokestatic index, 3)) (hf : cells + mc ≤ R.cells ∧ slots + ms ≤ R.slots) :
    va_Run p l e R s m args below meth c H locs cells slots mc ms (F0 m pc ls st) rest (Qc As.toArray) A := by
  have hG : GoodIn gt (wd y bytes maxL ret) := gt_good (fun _ h => h) ce.2.2.1
  exact va_runSN (Ts := gt) (host := host) ⟨hx, hb, hml, hown, hts⟩ hMet ⟨va_cnB nP hts hG rfl hrc hrs (hE.2.1 _ hl) (hts _ ce.2.1) ce.2.2.2 hR, hts _ ce.1, trivial⟩ ⟨PM.blind, m_pre hE hM hS hA _⟩ rfl hnp hsize hst (lv_room hW) hdg hf
theorem m_runI (n : Nat) (hx : p.tables.exec = Jvm.exec) (hb : c.code = cc) (hml : c.maxLocals = nL) (hown : s.vm.findClass own = some m.cls) (hts : ∀ w ∈ gt, w.before args s = true) (hE : EV D A s s.heap) (hM : Mem D A ad ns I L G H) (hS : va_S A s.heap H locs) (hA : ∀ q, s.heap.size ≤ q → A q) (ce : CeI y bytes maxL nP) (hl : Cond.methodLink own index y ∈ gt)
    (hMet : Met l y (wd y bytes maxL none) rm (va_Pc (.ref (ad n) :: As) (PM D A ad ns I L G)) Qc mc ms A) (hrc : rm.cells = mc) (hrs : rm.slots = ms) (hR : rm.frames + 1 ≤ R.frames ∧ 8 + (maxL + 11) + rm.locals ≤ R.locals) (hnp : As.length = nP) (hsize : ls.size = nL) (hst : st = As.reverse ++ .ref (ad n) :: rest) (hW : (rest.map fun v => v.category).sum ≤ 8) (hdg : decode cc pc = .ok (.invokespecial index, 3)) (hf : cells + mc ≤ R.cells ∧ slots + ms ≤ R.slots) :
    va_Run p l e R s m args below meth c H locs cells slots mc ms (F0 m pc ls st) rest (Qc (Value.ref (ad n) :: As).toArray) A := by
  have hG : GoodIn gt (wd y bytes maxL none) := gt_good (fun _ h => h) ce.2.2.1
  exact va_runI (Ts := gt) ⟨hx, hb, hml, hown, hts⟩ hMet ⟨callB_of nP hts hG rfl hrc hrs (hts _ ce.2.1) (hts _ hl) ce.2.2.2.2 hR, ce.2.2.2.1, hts _ ce.1⟩ ⟨PM.blind, m_pre hE hM hS hA _⟩ rfl hnp hsize hst (lv_room hW) hdg hf
theorem m_runIN (n : Nat) (hx : p.tables.exec = Jvm.exec) (hb : c.code = cc) (hml : c.maxLocals = nL) (hown : s.vm.findClass own = some m.cls) (hts : ∀ w ∈ gt, w.before args s = true) (hE : EV D A s s.heap) (hM : Mem D A ad ns I L G H) (hS : va_S A s.heap H locs) (hA : ∀ q, s.heap.size ≤ q → A q) (ce : CeI y bytes maxL nP) (hl : Cond.methodLinkNest own index y host ∈ nw)
    (hMet : Met l y (wd y bytes maxL none) rm (va_Pc (.ref (ad n) :: As) (PM D A ad ns I L G)) Qc mc ms A) (hrc : rm.cells = mc) (hrs : rm.slots = ms) (hR : rm.frames + 1 ≤ R.frames ∧ 8 + (maxL + 11) + rm.locals ≤ R.locals) (hnp : As.length = nP) (hsize : ls.size = nL) (hst : st = As.reverse ++ .ref (ad n) :: rest) (hW : (rest.map fun v => v.category).sum ≤ 8) (hdg : decode cc pc = .ok (.invokespecial index, 3)) (hf : cells + mc ≤ R.cells ∧ slots + ms ≤ R.slots) :
    va_Run p l e R s m args below meth c H locs cells slots mc ms (F0 m pc ls st) rest (Qc (Value.ref (ad n) :: As).toArray) A := by
  have hG : GoodIn gt (wd y bytes maxL none) := gt_good (fun _ h => h) ce.2.2.1
  exact va_runIN (Ts := gt) (host := host) ⟨hx, hb, hml, hown, hts⟩ hMet ⟨va_cnB nP hts hG rfl hrc hrs (hE.2.1 _ hl) (hts _ ce.2.1) ce.2.2.2.2 hR, ce.2.2.2.1, hts _ ce.1⟩ ⟨PM.blind, m_pre hE hM hS hA _⟩ rfl hnp hsize hst (lv_room hW) hdg hf
variable {a : Array Value} {st0 : List Value}
theorem m_calli {post : Int32 → MS → Prop} (hr : va_Run p l e R s m args below meth c H locs cells slots mc ms (F0 m pc ls st0) rest (va_Qi post (BM D A) A a) A) (hS : va_S A s.heap H locs)
    (kk : ∀ (r : Int32) (u : MS) (H1 : Heap) (locs1 : List Loc), post r u → Mem D A u.1 u.2.1 u.2.2.1 u.2.2.2.1 u.2.2.2.2 H1 → va_S A s.heap H1 locs1 → W p l e R s m args below meth c H1 locs1 (cells + mc) (slots + ms) Q (F0 m (pc + 3) ls (.int r :: rest))) : W p l e R s m args below meth c H locs cells slots Q (F0 m pc ls st0) :=
  va_calli hr hS (fun _ _ h => h) (fun _ h => h) (fun r u t H1 locs1 ht _ hp hB _ _ hS1 => kk r u H1 locs1 hp (by rw [← ht]; exact hB) hS1)
theorem m_calll {post : Int64 → MS → Prop} (hr : va_Run p l e R s m args below meth c H locs cells slots mc ms (F0 m pc ls st0) rest (va_Ql post (BM D A) A a) A) (hS : va_S A s.heap H locs)
    (kk : ∀ (r : Int64) (u : MS) (H1 : Heap) (locs1 : List Loc), post r u → Mem D A u.1 u.2.1 u.2.2.1 u.2.2.2.1 u.2.2.2.2 H1 → va_S A s.heap H1 locs1 → W p l e R s m args below meth c H1 locs1 (cells + mc) (slots + ms) Q (F0 m (pc + 3) ls (.long r :: rest))) : W p l e R s m args below meth c H locs cells slots Q (F0 m pc ls st0) :=
  va_calll hr hS (fun _ _ h => h) (fun _ h => h) (fun r u t H1 locs1 ht _ hp hB _ _ hS1 => kk r u H1 locs1 hp (by rw [← ht]; exact hB) hS1)
theorem m_callv {post : MS → Prop} (hr : va_Run p l e R s m args below meth c H locs cells slots mc ms (F0 m pc ls st0) rest (va_Qv post (BM D A) A a) A) (hS : va_S A s.heap H locs)
    (kk : ∀ (u : MS) (H1 : Heap) (locs1 : List Loc), post u → Mem D A u.1 u.2.1 u.2.2.1 u.2.2.2.1 u.2.2.2.2 H1 → va_S A s.heap H1 locs1 → W p l e R s m args below meth c H1 locs1 (cells + mc) (slots + ms) Q (F0 m (pc + 3) ls rest)) : W p l e R s m args below meth c H locs cells slots Q (F0 m pc ls st0) :=
  va_callv hr hS (fun _ _ h => h) (fun _ h => h) (fun u t H1 locs1 ht _ hp hB _ _ hS1 => kk u H1 locs1 hp (by rw [← ht]; exact hB) hS1)
theorem m_callq {post : Option Nat → MS → Prop} (hr : va_Run p l e R s m args below meth c H locs cells slots mc ms (F0 m pc ls st0) rest (va_Qq post (BM D A) A a) A) (hS : va_S A s.heap H locs)
    (kk : ∀ (r : Option Nat) (u : MS) (H1 : Heap) (locs1 : List Loc), post r u → Mem D A u.1 u.2.1 u.2.2.1 u.2.2.2.1 u.2.2.2.2 H1 → va_S A s.heap H1 locs1 → W p l e R s m args below meth c H1 locs1 (cells + mc) (slots + ms) Q (F0 m (pc + 3) ls (va_rf r :: rest))) : W p l e R s m args below meth c H locs cells slots Q (F0 m pc ls st0) :=
  va_callq hr hS (fun _ _ h => h) (fun _ h => h) (fun r u t H1 locs1 ht _ hp hB _ _ hS1 => kk r u H1 locs1 hp (by rw [← ht]; exact hB) hS1)
-- ends
theorem m_iret {post : Int32 → MS → Prop} {v : Int32} (hx : p.tables.exec = Jvm.exec) (hb : c.code = cc) (hr : meth.sig.returnType = some .int) (hlocks : meth.locks = false) (hM : Mem D A ad ns I L G H) (hS : va_S A s.heap H locs) (hc1 : cells ≤ mc) (hs1 : slots ≤ ms) (hp : post v (ad, ns, I, L, G)) (hdg : decode cc pc = .ok (.ireturn, 1)) : W p l e R s m args below meth c H locs cells slots (MQ below (va_Qi post (BM D A) A) args s mc ms A) (F0 m pc ls [.int v]) :=
  W.widen hc1 hs1 (W.iret hx hb hr (fun t ht _ => ⟨⟨v, _, rfl, hp, by show Mem D A ad ns I L G t.heap; rw [ht]; exact hM⟩, hS.F ht⟩) hS.2.2 hdg hlocks)
theorem m_zret {post : Int32 → MS → Prop} {v : Int32} {ty : FieldType} (hx : p.tables.exec = Jvm.exec) (hb : c.code = cc) (hr : meth.sig.returnType = some ty) (hn : narrow ty (.int v) = .int v) (hlocks : meth.locks = false) (hM : Mem D A ad ns I L G H) (hS : va_S A s.heap H locs) (hc1 : cells ≤ mc) (hs1 : slots ≤ ms) (hp : post v (ad, ns, I, L, G)) (hdg : decode cc pc = .ok (.ireturn, 1)) : W p l e R s m args below meth c H locs cells slots (MQ below (va_Qi post (BM D A) A) args s mc ms A) (F0 m pc ls [.int v]) :=
  W.widen hc1 hs1 (W.zret hx hb hr hn (fun t ht _ => ⟨⟨v, _, rfl, hp, by show Mem D A ad ns I L G t.heap; rw [ht]; exact hM⟩, hS.F ht⟩) hS.2.2 hdg hlocks)
theorem m_lret {post : Int64 → MS → Prop} {v : Int64} (hx : p.tables.exec = Jvm.exec) (hb : c.code = cc) (hr : meth.sig.returnType = some .long) (hlocks : meth.locks = false) (hM : Mem D A ad ns I L G H) (hS : va_S A s.heap H locs) (hc1 : cells ≤ mc) (hs1 : slots ≤ ms) (hp : post v (ad, ns, I, L, G)) (hdg : decode cc pc = .ok (.lreturn, 1)) : W p l e R s m args below meth c H locs cells slots (MQ below (va_Ql post (BM D A) A) args s mc ms A) (F0 m pc ls [.long v]) :=
  W.widen hc1 hs1 (W.lret hx hb hr (fun t ht _ => ⟨⟨v, _, rfl, hp, by show Mem D A ad ns I L G t.heap; rw [ht]; exact hM⟩, hS.F ht⟩) hS.2.2 hdg hlocks)
theorem m_vret {post : MS → Prop} (hx : p.tables.exec = Jvm.exec) (hb : c.code = cc) (hr : meth.sig.returnType = none) (hlocks : meth.locks = false) (hM : Mem D A ad ns I L G H) (hS : va_S A s.heap H locs) (hc1 : cells ≤ mc) (hs1 : slots ≤ ms) (hp : post (ad, ns, I, L, G)) (hdg : decode cc pc = .ok (.return_, 1)) : W p l e R s m args below meth c H locs cells slots (MQ below (va_Qv post (BM D A) A) args s mc ms A) (F0 m pc ls []) :=
  W.widen hc1 hs1 (W.vret hx hb hr (fun t ht _ => ⟨⟨_, rfl, hp, by show Mem D A ad ns I L G t.heap; rw [ht]; exact hM⟩, hS.F ht⟩) hS.2.2 hdg hlocks)
theorem m_aret {post : Option Nat → MS → Prop} {r : Option Nat} {ty : FieldType} (hx : p.tables.exec = Jvm.exec) (hb : c.code = cc) (hr : meth.sig.returnType = some ty) (hn : ∃ n, ty = .object n) (hlocks : meth.locks = false) (hM : Mem D A ad ns I L G H) (hS : va_S A s.heap H locs) (hc1 : cells ≤ mc) (hs1 : slots ≤ ms) (hp : post r (ad, ns, I, L, G)) (hdg : decode cc pc = .ok (.areturn, 1)) : W p l e R s m args below meth c H locs cells slots (MQ below (va_Qq post (BM D A) A) args s mc ms A) (F0 m pc ls [va_rf r]) :=
  W.widen hc1 hs1 (W.aret hx hb hr (Or.inl hn) (by cases r <;> simp [va_rf]) (fun t ht _ => ⟨⟨r, _, rfl, hp, by show Mem D A ad ns I L G t.heap; rw [ht]; exact hM⟩, hS.F ht⟩) hS.2.2 hdg hlocks)
/-- Object's constructor at the top of one of ours -/
theorem m_objI (hx : p.tables.exec = Jvm.exec) (hb : c.code = cc) (hml : c.maxLocals = nL) (hown : s.vm.findClass own = some m.cls) (hts : ∀ w ∈ gt, w.before args s = true) (hsz : ls.size = nL) {x : Nat} (hl : Cond.methodLink own index objectInit ∈ gt) (hi : Cond.instanceMethod objectInit ∈ gt) (hcd : Cond.code objectInit ⟨#[0xb1]⟩ 1 none ∈ gt) (hdg : decode cc pc = .ok (.invokespecial index, 3)) (hf : 1 ≤ R.frames) (hlo : 12 ≤ R.locals)
    (kk : W p l e R s m args below meth c H locs cells slots Q (F0 m (pc + 3) ls [])) : W p l e R s m args below meth c H locs cells slots Q (F0 m pc ls [.ref x]) :=
  W.objInit hx hb hown (hts _ hl) (hts _ hi) (hts _ hcd) (g := F0 m pc ls [.ref x]) rfl (by rw [hml]; exact hsz) rfl hdg hf (by simpa using hlo) kk
end MC
end
section
theorem tb_of {w : Cond} (i : Nat) (h : tables_1[i]? = some w) (g : goodWord w = true) : w ∈ gt := gt_of (List.mem_append_right _ (List.mem_of_getElem? h)) g
theorem tp_of {y : MethodName} {n : Nat} (i : Nat) (h : lw_privs[i]? = some (y, n)) : Cond.selects y.cls y y ∈ gt := gt_of (List.mem_append_left _ (List.mem_map.mpr ⟨(y, n), List.mem_of_getElem? h, rfl⟩)) rfl
theorem sg_1 {w : Cond} (i : Nat) (hi : tables_1_1[i]? = some w) (g : goodWord w = true) : w ∈ gt := by
  have h := List.mem_of_getElem? hi
  exact gt_of (List.mem_append_right _ (List.mem_append_left _ h)) g
theorem sg_2 {w : Cond} (i : Nat) (hi : tables_1_2[i]? = some w) (g : goodWord w = true) : w ∈ gt := by
  have h := List.mem_of_getElem? hi
  exact gt_of (List.mem_append_right _ (List.mem_append_right _ (List.mem_append_left _ h))) g
theorem sg_3 {w : Cond} (i : Nat) (hi : tables_1_3[i]? = some w) (g : goodWord w = true) : w ∈ gt := by
  have h := List.mem_of_getElem? hi
  exact gt_of (List.mem_append_right _ (List.mem_append_right _ (List.mem_append_right _ (List.mem_append_left _ h)))) g
theorem sg_4 {w : Cond} (i : Nat) (hi : tables_1_4[i]? = some w) (g : goodWord w = true) : w ∈ gt := by
  have h := List.mem_of_getElem? hi
  exact gt_of (List.mem_append_right _ (List.mem_append_right _ (List.mem_append_right _ (List.mem_append_right _ (List.mem_append_left _ h))))) g
theorem sg_5 {w : Cond} (i : Nat) (hi : tables_1_5[i]? = some w) (g : goodWord w = true) : w ∈ gt := by
  have h := List.mem_of_getElem? hi
  exact gt_of (List.mem_append_right _ (List.mem_append_right _ (List.mem_append_right _ (List.mem_append_right _ (List.mem_append_right _ (List.mem_append_left _ h)))))) g
theorem sg_6 {w : Cond} (i : Nat) (hi : tables_1_6[i]? = some w) (g : goodWord w = true) : w ∈ gt := by
  have h := List.mem_of_getElem? hi
  exact gt_of (List.mem_append_right _ (List.mem_append_right _ (List.mem_append_right _ (List.mem_append_right _ (List.mem_append_right _ (List.mem_append_right _ (List.mem_append_left _ h))))))) g
theorem sg_7 {w : Cond} (i : Nat) (hi : tables_1_7[i]? = some w) (g : goodWord w = true) : w ∈ gt := by
  have h := List.mem_of_getElem? hi
  exact gt_of (List.mem_append_right _ (List.mem_append_right _ (List.mem_append_right _ (List.mem_append_right _ (List.mem_append_right _ (List.mem_append_right _ (List.mem_append_right _ (List.mem_append_left _ h)))))))) g
theorem sg_8 {w : Cond} (i : Nat) (hi : tables_1_8[i]? = some w) (g : goodWord w = true) : w ∈ gt := by
  have h := List.mem_of_getElem? hi
  exact gt_of (List.mem_append_right _ (List.mem_append_right _ (List.mem_append_right _ (List.mem_append_right _ (List.mem_append_right _ (List.mem_append_right _ (List.mem_append_right _ (List.mem_append_right _ h)))))))) g
theorem tb_0 : (Cond.initialized "OneSunbeamLaw") ∈ gt := tb_of 0 (by decide +kernel) rfl
theorem tb_1 : (Cond.initialized "OneSunbeam") ∈ gt := tb_of 1 (by decide +kernel) rfl
theorem tb_2 : (Cond.initialized "OneSunbeam$Town") ∈ gt := tb_of 2 (by decide +kernel) rfl
theorem tb_3 : (Cond.initialized "OneSunbeam$Beams") ∈ gt := tb_of 3 (by decide +kernel) rfl
theorem tb_4 : (Cond.initialized "OneSunbeam$Keepers") ∈ gt := tb_of 4 (by decide +kernel) rfl
theorem tb_5 : (Cond.initialized "OneSunbeam$Aiming") ∈ gt := tb_of 5 (by decide +kernel) rfl
theorem tb_6 : (Cond.initialized "OneSunbeam$Mending") ∈ gt := tb_of 6 (by decide +kernel) rfl
theorem tb_7 : (Cond.initialized "OneSunbeam$Opening") ∈ gt := tb_of 7 (by decide +kernel) rfl
theorem tb_8 : (Cond.initialized "OneSunbeam$Theft") ∈ gt := tb_of 8 (by decide +kernel) rfl
theorem tb_9 : (Cond.initialized "OneSunbeam$LawReader") ∈ gt := tb_of 9 (by decide +kernel) rfl
theorem tb_10 : (Cond.initialized "OneSunbeam$Law") ∈ gt := tb_of 10 (by decide +kernel) rfl
theorem tb_11 : (Cond.initialized "OneSunbeamModel") ∈ gt := tb_of 11 (by decide +kernel) rfl
theorem tb_12 : (Cond.initialized "java/util/Arrays") ∈ gt := tb_of 12 (by decide +kernel) rfl
theorem tb_13 : (Cond.initialized "java/lang/System") ∈ gt := tb_of 13 (by decide +kernel) rfl
theorem tb_14 : (Cond.initialized "java/lang/String") ∈ gt := tb_of 14 (by decide +kernel) rfl
theorem tb_15 : (Cond.initialized "java/lang/StringLatin1") ∈ gt := tb_of 15 (by decide +kernel) rfl
theorem tb_16 : (Cond.initialized "jdk/internal/util/Preconditions") ∈ gt := tb_of 16 (by decide +kernel) rfl
theorem tb_17 : (Cond.initialized "java/lang/StringUTF16") ∈ gt := tb_of 17 (by decide +kernel) rfl
theorem tb_18 : (Cond.initialized "java/lang/Math") ∈ gt := tb_of 18 (by decide +kernel) rfl
theorem tb_19 : (Cond.initialized "java/lang/Integer") ∈ gt := tb_of 19 (by decide +kernel) rfl
theorem tb_20 : (Cond.classLink "OneSunbeamLaw" (7 : Nat) "OneSunbeam") ∈ gt := tb_of 20 (by decide +kernel) rfl
theorem tb_21 : (Cond.instantiable "OneSunbeam" (16 : Nat)) ∈ gt := tb_of 21 (by decide +kernel) rfl
theorem tb_22 : (Cond.methodLink "OneSunbeamLaw" (9 : Nat) ({ cls := "OneSunbeam", name := "<init>", desc := "()V" } : MethodName)) ∈ gt := tb_of 22 (by decide +kernel) rfl
theorem tb_23 : (Cond.instanceMethod ({ cls := "OneSunbeam", name := "<init>", desc := "()V" } : MethodName)) ∈ gt := tb_of 23 (by decide +kernel) rfl
set_option maxRecDepth 8000 in
theorem tb_24 : (Cond.code ({ cls := "OneSunbeam", name := "<init>", desc := "()V" } : MethodName) prog_1_method_1_code (1 : Nat) (Option.none : Option FieldType)) ∈ gt := sg_1 24 rfl rfl
theorem tb_25 : (Cond.methodLink "OneSunbeam" (1 : Nat) ({ cls := "java/lang/Object", name := "<init>", desc := "()V" } : MethodName)) ∈ gt := tb_of 25 (by decide +kernel) rfl
theorem tb_26 : (Cond.instanceMethod ({ cls := "java/lang/Object", name := "<init>", desc := "()V" } : MethodName)) ∈ gt := tb_of 26 (by decide +kernel) rfl
set_option maxRecDepth 8000 in
theorem tb_27 : (Cond.code ({ cls := "java/lang/Object", name := "<init>", desc := "()V" } : MethodName) object_method_1_code (1 : Nat) (Option.none : Option FieldType)) ∈ gt := sg_1 27 rfl rfl
theorem tb_28 : (Cond.classLink "OneSunbeam" (7 : Nat) "OneSunbeam$Town") ∈ gt := tb_of 28 (by decide +kernel) rfl
theorem tb_29 : (Cond.instantiable "OneSunbeam$Town" (18 : Nat)) ∈ gt := tb_of 29 (by decide +kernel) rfl
theorem tb_31 : (Cond.instanceMethod ({ cls := "OneSunbeam$Town", name := "<init>", desc := "()V" } : MethodName)) ∈ gt := tb_of 31 (by decide +kernel) rfl
set_option maxRecDepth 8000 in
theorem tb_32 : (Cond.code ({ cls := "OneSunbeam$Town", name := "<init>", desc := "()V" } : MethodName) prog_10_method_1_code (1 : Nat) (Option.none : Option FieldType)) ∈ gt := sg_1 32 rfl rfl
theorem tb_33 : (Cond.methodLink "OneSunbeam$Town" (3 : Nat) ({ cls := "java/lang/Object", name := "<init>", desc := "()V" } : MethodName)) ∈ gt := tb_of 33 (by decide +kernel) rfl
theorem tb_34 : (Cond.fieldLink "OneSunbeam$Town" (36 : Nat) "OneSunbeam$Town" "columns" "I") ∈ gt := tb_of 34 (by decide +kernel) rfl
theorem tb_35 : (Cond.fieldLink "OneSunbeam$Opening" (40 : Nat) "OneSunbeam$Town" "columns" "I") ∈ gt := tb_of 35 (by decide +kernel) rfl
theorem tb_36 : (Cond.fieldLink "OneSunbeam" (351 : Nat) "OneSunbeam$Town" "columns" "I") ∈ gt := tb_of 36 (by decide +kernel) rfl
theorem tb_37 : (Cond.fieldLink "OneSunbeam$Town" (40 : Nat) "OneSunbeam$Town" "rows" "I") ∈ gt := tb_of 37 (by decide +kernel) rfl
theorem tb_38 : (Cond.fieldLink "OneSunbeam$Opening" (37 : Nat) "OneSunbeam$Town" "rows" "I") ∈ gt := tb_of 38 (by decide +kernel) rfl
theorem tb_39 : (Cond.fieldLink "OneSunbeam" (354 : Nat) "OneSunbeam$Town" "rows" "I") ∈ gt := tb_of 39 (by decide +kernel) rfl
theorem tb_40 : (Cond.fieldLink "OneSunbeam$Beams" (27 : Nat) "OneSunbeam$Town" "gapX" "I") ∈ gt := tb_of 40 (by decide +kernel) rfl
theorem tb_41 : (Cond.fieldLink "OneSunbeam$Town" (43 : Nat) "OneSunbeam$Town" "gapX" "I") ∈ gt := tb_of 41 (by decide +kernel) rfl
theorem tb_42 : (Cond.fieldLink "OneSunbeam$Opening" (25 : Nat) "OneSunbeam$Town" "gapX" "I") ∈ gt := tb_of 42 (by decide +kernel) rfl
theorem tb_43 : (Cond.fieldLink "OneSunbeam$Theft" (51 : Nat) "OneSunbeam$Town" "gapX" "I") ∈ gt := tb_of 43 (by decide +kernel) rfl
theorem tb_44 : (Cond.fieldLink "OneSunbeam$Beams" (33 : Nat) "OneSunbeam$Town" "gapY" "I") ∈ gt := tb_of 44 (by decide +kernel) rfl
theorem tb_45 : (Cond.fieldLink "OneSunbeam$Town" (46 : Nat) "OneSunbeam$Town" "gapY" "I") ∈ gt := tb_of 45 (by decide +kernel) rfl
theorem tb_46 : (Cond.fieldLink "OneSunbeam$Opening" (30 : Nat) "OneSunbeam$Town" "gapY" "I") ∈ gt := tb_of 46 (by decide +kernel) rfl
theorem tb_47 : (Cond.fieldLink "OneSunbeam$Theft" (54 : Nat) "OneSunbeam$Town" "gapY" "I") ∈ gt := tb_of 47 (by decide +kernel) rfl
theorem tb_48 : (Cond.fieldLink "OneSunbeam$Town" (49 : Nat) "OneSunbeam$Town" "air" "I") ∈ gt := tb_of 48 (by decide +kernel) rfl
theorem tb_49 : (Cond.fieldLink "OneSunbeam$Theft" (70 : Nat) "OneSunbeam$Town" "air" "I") ∈ gt := tb_of 49 (by decide +kernel) rfl
theorem tb_50 : (Cond.fieldLink "OneSunbeam$Beams" (130 : Nat) "OneSunbeam$Town" "air" "I") ∈ gt := tb_of 50 (by decide +kernel) rfl
theorem tb_51 : (Cond.fieldLink "OneSunbeam$Town" (52 : Nat) "OneSunbeam$Town" "month" "I") ∈ gt := tb_of 51 (by decide +kernel) rfl
theorem tb_52 : (Cond.fieldLink "OneSunbeam$Keepers" (111 : Nat) "OneSunbeam$Town" "month" "I") ∈ gt := tb_of 52 (by decide +kernel) rfl
theorem tb_53 : (Cond.fieldLink "OneSunbeam" (166 : Nat) "OneSunbeam$Town" "month" "I") ∈ gt := tb_of 53 (by decide +kernel) rfl
theorem tb_54 : (Cond.fieldLink "OneSunbeam$Town" (55 : Nat) "OneSunbeam$Town" "day" "I") ∈ gt := tb_of 54 (by decide +kernel) rfl
theorem tb_55 : (Cond.fieldLink "OneSunbeam$Keepers" (114 : Nat) "OneSunbeam$Town" "day" "I") ∈ gt := tb_of 55 (by decide +kernel) rfl
theorem tb_56 : (Cond.fieldLink "OneSunbeam" (190 : Nat) "OneSunbeam$Town" "day" "I") ∈ gt := tb_of 56 (by decide +kernel) rfl
theorem tb_57 : (Cond.fieldLink "OneSunbeam$Town" (58 : Nat) "OneSunbeam$Town" "fall" "I") ∈ gt := tb_of 57 (by decide +kernel) rfl
theorem tb_58 : (Cond.fieldLink "OneSunbeam" (169 : Nat) "OneSunbeam$Town" "fall" "I") ∈ gt := tb_of 58 (by decide +kernel) rfl
theorem tb_59 : (Cond.fieldLink "OneSunbeam$Town" (61 : Nat) "OneSunbeam$Town" "mirrorCount" "I") ∈ gt := tb_of 59 (by decide +kernel) rfl
theorem tb_60 : (Cond.fieldLink "OneSunbeam$Aiming" (73 : Nat) "OneSunbeam$Town" "mirrorCount" "I") ∈ gt := tb_of 60 (by decide +kernel) rfl
theorem tb_61 : (Cond.fieldLink "OneSunbeam$Mending" (75 : Nat) "OneSunbeam$Town" "mirrorCount" "I") ∈ gt := tb_of 61 (by decide +kernel) rfl
theorem tb_62 : (Cond.fieldLink "OneSunbeam" (133 : Nat) "OneSunbeam$Town" "mirrorCount" "I") ∈ gt := tb_of 62 (by decide +kernel) rfl
theorem tb_63 : (Cond.fieldLink "OneSunbeam$Town" (64 : Nat) "OneSunbeam$Town" "yardCount" "I") ∈ gt := tb_of 63 (by decide +kernel) rfl
theorem tb_64 : (Cond.fieldLink "OneSunbeam" (152 : Nat) "OneSunbeam$Town" "yardCount" "I") ∈ gt := tb_of 64 (by decide +kernel) rfl
theorem tb_65 : (Cond.fieldLink "OneSunbeam$Aiming" (89 : Nat) "OneSunbeam$Town" "yardCount" "I") ∈ gt := tb_of 65 (by decide +kernel) rfl
theorem tb_66 : (Cond.fieldLink "OneSunbeam$Town" (9 : Nat) "OneSunbeam$Town" "rock" "[I") ∈ gt := tb_of 66 (by decide +kernel) rfl
theorem tb_67 : (Cond.fieldLink "OneSunbeam" (210 : Nat) "OneSunbeam$Town" "rock" "[I") ∈ gt := tb_of 67 (by decide +kernel) rfl
theorem tb_68 : (Cond.fieldLink "OneSunbeam$Town" (15 : Nat) "OneSunbeam$Town" "eyes" "[I") ∈ gt := tb_of 68 (by decide +kernel) rfl
theorem tb_69 : (Cond.fieldLink "OneSunbeam" (163 : Nat) "OneSunbeam$Town" "eyes" "[I") ∈ gt := tb_of 69 (by decide +kernel) rfl
theorem tb_70 : (Cond.fieldLink "OneSunbeam$Beams" (80 : Nat) "OneSunbeam$Town" "eyes" "[I") ∈ gt := tb_of 70 (by decide +kernel) rfl
theorem tb_71 : (Cond.fieldLink "OneSunbeam$Town" (18 : Nat) "OneSunbeam$Town" "mirrorAt" "[I") ∈ gt := tb_of 71 (by decide +kernel) rfl
theorem tb_72 : (Cond.fieldLink "OneSunbeam$Theft" (82 : Nat) "OneSunbeam$Town" "mirrorAt" "[I") ∈ gt := tb_of 72 (by decide +kernel) rfl
theorem tb_73 : (Cond.fieldLink "OneSunbeam" (126 : Nat) "OneSunbeam$Town" "mirrorAt" "[I") ∈ gt := tb_of 73 (by decide +kernel) rfl
theorem tb_74 : (Cond.fieldLink "OneSunbeam$Beams" (116 : Nat) "OneSunbeam$Town" "mirrorAt" "[I") ∈ gt := tb_of 74 (by decide +kernel) rfl
theorem tb_75 : (Cond.fieldLink "OneSunbeam$Town" (21 : Nat) "OneSunbeam$Town" "yardAt" "[I") ∈ gt := tb_of 75 (by decide +kernel) rfl
theorem tb_76 : (Cond.fieldLink "OneSunbeam$Beams" (110 : Nat) "OneSunbeam$Town" "yardAt" "[I") ∈ gt := tb_of 76 (by decide +kernel) rfl
theorem tb_77 : (Cond.fieldLink "OneSunbeam" (213 : Nat) "OneSunbeam$Town" "yardAt" "[I") ∈ gt := tb_of 77 (by decide +kernel) rfl
theorem tb_78 : (Cond.fieldLink "OneSunbeam$Town" (24 : Nat) "OneSunbeam$Town" "sunWay" "[I") ∈ gt := tb_of 78 (by decide +kernel) rfl
theorem tb_79 : (Cond.fieldLink "OneSunbeam" (116 : Nat) "OneSunbeam$Town" "sunWay" "[I") ∈ gt := tb_of 79 (by decide +kernel) rfl
theorem tb_80 : (Cond.fieldLink "OneSunbeam$Town" (27 : Nat) "OneSunbeam$Town" "sunStrength" "[I") ∈ gt := tb_of 80 (by decide +kernel) rfl
theorem tb_81 : (Cond.fieldLink "OneSunbeam" (119 : Nat) "OneSunbeam$Town" "sunStrength" "[I") ∈ gt := tb_of 81 (by decide +kernel) rfl
theorem tb_82 : (Cond.fieldLink "OneSunbeam$Town" (30 : Nat) "OneSunbeam$Town" "mirrorTable" "[I") ∈ gt := tb_of 82 (by decide +kernel) rfl
theorem tb_83 : (Cond.fieldLink "OneSunbeam$Town" (33 : Nat) "OneSunbeam$Town" "yardTable" "[I") ∈ gt := tb_of 83 (by decide +kernel) rfl
theorem tb_121 : (Cond.arrayClass FieldType.int) ∈ gt := tb_of 121 (by decide +kernel) rfl
theorem tb_123 : (Cond.classLink "OneSunbeam" (23 : Nat) "OneSunbeam$Beams") ∈ gt := tb_of 123 (by decide +kernel) rfl
theorem tb_124 : (Cond.instantiable "OneSunbeam$Beams" (13 : Nat)) ∈ gt := tb_of 124 (by decide +kernel) rfl
theorem tb_126 : (Cond.instanceMethod ({ cls := "OneSunbeam$Beams", name := "<init>", desc := "()V" } : MethodName)) ∈ gt := tb_of 126 (by decide +kernel) rfl
set_option maxRecDepth 8000 in
theorem tb_127 : (Cond.code ({ cls := "OneSunbeam$Beams", name := "<init>", desc := "()V" } : MethodName) prog_3_method_1_code (1 : Nat) (Option.none : Option FieldType)) ∈ gt := sg_1 127 rfl rfl
theorem tb_128 : (Cond.methodLink "OneSunbeam$Beams" (3 : Nat) ({ cls := "java/lang/Object", name := "<init>", desc := "()V" } : MethodName)) ∈ gt := tb_of 128 (by decide +kernel) rfl
theorem tb_129 : (Cond.fieldLink "OneSunbeam$Beams" (9 : Nat) "OneSunbeam$Beams" "got" "[I") ∈ gt := tb_of 129 (by decide +kernel) rfl
theorem tb_130 : (Cond.fieldLink "OneSunbeam$Mending" (57 : Nat) "OneSunbeam$Beams" "got" "[I") ∈ gt := tb_of 130 (by decide +kernel) rfl
theorem tb_131 : (Cond.fieldLink "OneSunbeam$Aiming" (56 : Nat) "OneSunbeam$Beams" "got" "[I") ∈ gt := tb_of 131 (by decide +kernel) rfl
theorem tb_132 : (Cond.fieldLink "OneSunbeam$Keepers" (94 : Nat) "OneSunbeam$Beams" "got" "[I") ∈ gt := tb_of 132 (by decide +kernel) rfl
theorem tb_133 : (Cond.fieldLink "OneSunbeam" (223 : Nat) "OneSunbeam$Beams" "got" "[I") ∈ gt := tb_of 133 (by decide +kernel) rfl
theorem tb_134 : (Cond.fieldLink "OneSunbeam$Beams" (15 : Nat) "OneSunbeam$Beams" "passed" "[I") ∈ gt := tb_of 134 (by decide +kernel) rfl
theorem tb_135 : (Cond.fieldLink "OneSunbeam" (251 : Nat) "OneSunbeam$Beams" "passed" "[I") ∈ gt := tb_of 135 (by decide +kernel) rfl
theorem tb_136 : (Cond.fieldLink "OneSunbeam$Beams" (83 : Nat) "OneSunbeam$Beams" "lost" "I") ∈ gt := tb_of 136 (by decide +kernel) rfl
theorem tb_137 : (Cond.fieldLink "OneSunbeam" (232 : Nat) "OneSunbeam$Beams" "lost" "I") ∈ gt := tb_of 137 (by decide +kernel) rfl
theorem tb_138 : (Cond.fieldLink "OneSunbeam$Beams" (86 : Nat) "OneSunbeam$Beams" "spilt" "I") ∈ gt := tb_of 138 (by decide +kernel) rfl
theorem tb_139 : (Cond.fieldLink "OneSunbeam" (235 : Nat) "OneSunbeam$Beams" "spilt" "I") ∈ gt := tb_of 139 (by decide +kernel) rfl
theorem tb_140 : (Cond.fieldLink "OneSunbeam$Beams" (89 : Nat) "OneSunbeam$Beams" "cellCount" "I") ∈ gt := tb_of 140 (by decide +kernel) rfl
theorem tb_141 : (Cond.fieldLink "OneSunbeam" (238 : Nat) "OneSunbeam$Beams" "cellCount" "I") ∈ gt := tb_of 141 (by decide +kernel) rfl
theorem tb_142 : (Cond.fieldLink "OneSunbeam$Beams" (92 : Nat) "OneSunbeam$Beams" "beamCount" "I") ∈ gt := tb_of 142 (by decide +kernel) rfl
theorem tb_143 : (Cond.fieldLink "OneSunbeam" (241 : Nat) "OneSunbeam$Beams" "beamCount" "I") ∈ gt := tb_of 143 (by decide +kernel) rfl
theorem tb_144 : (Cond.fieldLink "OneSunbeam$Beams" (95 : Nat) "OneSunbeam$Beams" "isCut" "Z") ∈ gt := tb_of 144 (by decide +kernel) rfl
theorem tb_145 : (Cond.fieldLink "OneSunbeam" (341 : Nat) "OneSunbeam$Beams" "isCut" "Z") ∈ gt := tb_of 145 (by decide +kernel) rfl
theorem tb_146 : (Cond.fieldLink "OneSunbeam$Beams" (73 : Nat) "OneSunbeam$Beams" "touched" "I") ∈ gt := tb_of 146 (by decide +kernel) rfl
theorem tb_147 : (Cond.fieldLink "OneSunbeam$Beams" (59 : Nat) "OneSunbeam$Beams" "isWatching" "Z") ∈ gt := tb_of 147 (by decide +kernel) rfl
theorem tb_148 : (Cond.fieldLink "OneSunbeam$Beams" (18 : Nat) "OneSunbeam$Beams" "waitingFrom" "[I") ∈ gt := tb_of 148 (by decide +kernel) rfl
theorem tb_149 : (Cond.fieldLink "OneSunbeam$Beams" (21 : Nat) "OneSunbeam$Beams" "waitingLight" "[I") ∈ gt := tb_of 149 (by decide +kernel) rfl
theorem tb_150 : (Cond.fieldLink "OneSunbeam$Beams" (50 : Nat) "OneSunbeam$Beams" "waitingHead" "I") ∈ gt := tb_of 150 (by decide +kernel) rfl
theorem tb_151 : (Cond.fieldLink "OneSunbeam$Beams" (47 : Nat) "OneSunbeam$Beams" "waitingCount" "I") ∈ gt := tb_of 151 (by decide +kernel) rfl
theorem tb_179 : (Cond.classLink "OneSunbeam" (30 : Nat) "OneSunbeam$Keepers") ∈ gt := tb_of 179 (by decide +kernel) rfl
theorem tb_180 : (Cond.instantiable "OneSunbeam$Keepers" (4 : Nat)) ∈ gt := tb_of 180 (by decide +kernel) rfl
theorem tb_181 : (Cond.methodLink "OneSunbeam" (32 : Nat) ({ cls := "OneSunbeam$Keepers", name := "<init>", desc := "(LOneSunbeam$Beams;)V" } : MethodName)) ∈ gt := tb_of 181 (by decide +kernel) rfl
theorem tb_182 : (Cond.instanceMethod ({ cls := "OneSunbeam$Keepers", name := "<init>", desc := "(LOneSunbeam$Beams;)V" } : MethodName)) ∈ gt := tb_of 182 (by decide +kernel) rfl
set_option maxRecDepth 8000 in
theorem tb_183 : (Cond.code ({ cls := "OneSunbeam$Keepers", name := "<init>", desc := "(LOneSunbeam$Beams;)V" } : MethodName) prog_4_method_1_code (2 : Nat) (Option.none : Option FieldType)) ∈ gt := sg_1 183 rfl rfl
theorem tb_184 : (Cond.methodLink "OneSunbeam$Keepers" (3 : Nat) ({ cls := "java/lang/Object", name := "<init>", desc := "()V" } : MethodName)) ∈ gt := tb_of 184 (by decide +kernel) rfl
theorem tb_185 : (Cond.fieldLink "OneSunbeam$Keepers" (19 : Nat) "OneSunbeam$Keepers" "beams" "LOneSunbeam$Beams;") ∈ gt := tb_of 185 (by decide +kernel) rfl
theorem tb_186 : (Cond.fieldLink "OneSunbeam$Keepers" (9 : Nat) "OneSunbeam$Keepers" "gotToday" "[I") ∈ gt := tb_of 186 (by decide +kernel) rfl
theorem tb_187 : (Cond.fieldLink "OneSunbeam$Keepers" (15 : Nat) "OneSunbeam$Keepers" "stack" "[J") ∈ gt := tb_of 187 (by decide +kernel) rfl
theorem tb_188 : (Cond.fieldLink "OneSunbeam$Keepers" (29 : Nat) "OneSunbeam$Keepers" "hour" "I") ∈ gt := tb_of 188 (by decide +kernel) rfl
theorem tb_198 : (Cond.arrayClass FieldType.long) ∈ gt := tb_of 198 (by decide +kernel) rfl
theorem tb_199 : (Cond.classLink "OneSunbeam" (39 : Nat) "OneSunbeam$Aiming") ∈ gt := tb_of 199 (by decide +kernel) rfl
theorem tb_200 : (Cond.instantiable "OneSunbeam$Aiming" (7 : Nat)) ∈ gt := tb_of 200 (by decide +kernel) rfl
theorem tb_201 : (Cond.methodLink "OneSunbeam" (41 : Nat) ({ cls := "OneSunbeam$Aiming", name := "<init>", desc := "(LOneSunbeam$Beams;)V" } : MethodName)) ∈ gt := tb_of 201 (by decide +kernel) rfl
theorem tb_202 : (Cond.instanceMethod ({ cls := "OneSunbeam$Aiming", name := "<init>", desc := "(LOneSunbeam$Beams;)V" } : MethodName)) ∈ gt := tb_of 202 (by decide +kernel) rfl
set_option maxRecDepth 8000 in
theorem tb_203 : (Cond.code ({ cls := "OneSunbeam$Aiming", name := "<init>", desc := "(LOneSunbeam$Beams;)V" } : MethodName) prog_2_method_1_code (2 : Nat) (Option.none : Option FieldType)) ∈ gt := sg_1 203 rfl rfl
theorem tb_204 : (Cond.methodLink "OneSunbeam$Aiming" (3 : Nat) ({ cls := "java/lang/Object", name := "<init>", desc := "()V" } : MethodName)) ∈ gt := tb_of 204 (by decide +kernel) rfl
theorem tb_205 : (Cond.fieldLink "OneSunbeam$Aiming" (24 : Nat) "OneSunbeam$Aiming" "beams" "LOneSunbeam$Beams;") ∈ gt := tb_of 205 (by decide +kernel) rfl
theorem tb_206 : (Cond.fieldLink "OneSunbeam$Aiming" (9 : Nat) "OneSunbeam$Aiming" "members" "[I") ∈ gt := tb_of 206 (by decide +kernel) rfl
theorem tb_207 : (Cond.fieldLink "OneSunbeam$Aiming" (15 : Nat) "OneSunbeam$Aiming" "before" "[I") ∈ gt := tb_of 207 (by decide +kernel) rfl
theorem tb_208 : (Cond.fieldLink "OneSunbeam$Aiming" (18 : Nat) "OneSunbeam$Aiming" "tried" "[I") ∈ gt := tb_of 208 (by decide +kernel) rfl
theorem tb_209 : (Cond.fieldLink "OneSunbeam$Aiming" (21 : Nat) "OneSunbeam$Aiming" "best" "[I") ∈ gt := tb_of 209 (by decide +kernel) rfl
theorem tb_210 : (Cond.fieldLink "OneSunbeam$Aiming" (28 : Nat) "OneSunbeam$Aiming" "size" "I") ∈ gt := tb_of 210 (by decide +kernel) rfl
theorem tb_211 : (Cond.fieldLink "OneSunbeam$Aiming" (36 : Nat) "OneSunbeam$Aiming" "most" "I") ∈ gt := tb_of 211 (by decide +kernel) rfl
theorem tb_227 : (Cond.classLink "OneSunbeam" (46 : Nat) "OneSunbeam$Mending") ∈ gt := tb_of 227 (by decide +kernel) rfl
theorem tb_228 : (Cond.instantiable "OneSunbeam$Mending" (9 : Nat)) ∈ gt := tb_of 228 (by decide +kernel) rfl
theorem tb_229 : (Cond.methodLink "OneSunbeam" (48 : Nat) ({ cls := "OneSunbeam$Mending", name := "<init>", desc := "(LOneSunbeam$Town;LOneSunbeam$Beams;)V" } : MethodName)) ∈ gt := tb_of 229 (by decide +kernel) rfl
theorem tb_230 : (Cond.instanceMethod ({ cls := "OneSunbeam$Mending", name := "<init>", desc := "(LOneSunbeam$Town;LOneSunbeam$Beams;)V" } : MethodName)) ∈ gt := tb_of 230 (by decide +kernel) rfl
set_option maxRecDepth 8000 in
theorem tb_231 : (Cond.code ({ cls := "OneSunbeam$Mending", name := "<init>", desc := "(LOneSunbeam$Town;LOneSunbeam$Beams;)V" } : MethodName) prog_7_method_1_code (3 : Nat) (Option.none : Option FieldType)) ∈ gt := sg_1 231 rfl rfl
theorem tb_232 : (Cond.methodLink "OneSunbeam$Mending" (3 : Nat) ({ cls := "java/lang/Object", name := "<init>", desc := "()V" } : MethodName)) ∈ gt := tb_of 232 (by decide +kernel) rfl
theorem tb_233 : (Cond.fieldLink "OneSunbeam$Mending" (11 : Nat) "OneSunbeam$Mending" "answers" "[I") ∈ gt := tb_of 233 (by decide +kernel) rfl
theorem tb_234 : (Cond.fieldLink "OneSunbeam" (293 : Nat) "OneSunbeam$Mending" "answers" "[I") ∈ gt := tb_of 234 (by decide +kernel) rfl
theorem tb_235 : (Cond.fieldLink "OneSunbeam$Mending" (21 : Nat) "OneSunbeam$Mending" "town" "LOneSunbeam$Town;") ∈ gt := tb_of 235 (by decide +kernel) rfl
theorem tb_236 : (Cond.fieldLink "OneSunbeam$Mending" (25 : Nat) "OneSunbeam$Mending" "beams" "LOneSunbeam$Beams;") ∈ gt := tb_of 236 (by decide +kernel) rfl
theorem tb_237 : (Cond.fieldLink "OneSunbeam$Mending" (15 : Nat) "OneSunbeam$Mending" "needed" "[I") ∈ gt := tb_of 237 (by decide +kernel) rfl
theorem tb_238 : (Cond.fieldLink "OneSunbeam$Mending" (18 : Nat) "OneSunbeam$Mending" "touchedWith" "[I") ∈ gt := tb_of 238 (by decide +kernel) rfl
theorem tb_239 : (Cond.fieldLink "OneSunbeam$Mending" (29 : Nat) "OneSunbeam$Mending" "hour" "I") ∈ gt := tb_of 239 (by decide +kernel) rfl
theorem tb_240 : (Cond.fieldLink "OneSunbeam$Mending" (33 : Nat) "OneSunbeam$Mending" "breaking" "I") ∈ gt := tb_of 240 (by decide +kernel) rfl
theorem tb_241 : (Cond.fieldLink "OneSunbeam$Mending" (42 : Nat) "OneSunbeam$Mending" "brokenBefore" "I") ∈ gt := tb_of 241 (by decide +kernel) rfl
theorem tb_242 : (Cond.fieldLink "OneSunbeam$Mending" (72 : Nat) "OneSunbeam$Mending" "touchedNow" "I") ∈ gt := tb_of 242 (by decide +kernel) rfl
theorem tb_262 : (Cond.classLink "OneSunbeam" (55 : Nat) "OneSunbeam$Opening") ∈ gt := tb_of 262 (by decide +kernel) rfl
theorem tb_263 : (Cond.instantiable "OneSunbeam$Opening" (4 : Nat)) ∈ gt := tb_of 263 (by decide +kernel) rfl
theorem tb_264 : (Cond.methodLink "OneSunbeam" (57 : Nat) ({ cls := "OneSunbeam$Opening", name := "<init>", desc := "(LOneSunbeam$Beams;)V" } : MethodName)) ∈ gt := tb_of 264 (by decide +kernel) rfl
theorem tb_265 : (Cond.instanceMethod ({ cls := "OneSunbeam$Opening", name := "<init>", desc := "(LOneSunbeam$Beams;)V" } : MethodName)) ∈ gt := tb_of 265 (by decide +kernel) rfl
set_option maxRecDepth 8000 in
theorem tb_266 : (Cond.code ({ cls := "OneSunbeam$Opening", name := "<init>", desc := "(LOneSunbeam$Beams;)V" } : MethodName) prog_8_method_1_code (2 : Nat) (Option.none : Option FieldType)) ∈ gt := sg_2 26 rfl rfl
theorem tb_267 : (Cond.methodLink "OneSunbeam$Opening" (3 : Nat) ({ cls := "java/lang/Object", name := "<init>", desc := "()V" } : MethodName)) ∈ gt := tb_of 267 (by decide +kernel) rfl
theorem tb_268 : (Cond.fieldLink "OneSunbeam$Opening" (15 : Nat) "OneSunbeam$Opening" "cell" "I") ∈ gt := tb_of 268 (by decide +kernel) rfl
theorem tb_269 : (Cond.fieldLink "OneSunbeam" (298 : Nat) "OneSunbeam$Opening" "cell" "I") ∈ gt := tb_of 269 (by decide +kernel) rfl
theorem tb_270 : (Cond.fieldLink "OneSunbeam$Opening" (19 : Nat) "OneSunbeam$Opening" "way" "I") ∈ gt := tb_of 270 (by decide +kernel) rfl
theorem tb_271 : (Cond.fieldLink "OneSunbeam" (301 : Nat) "OneSunbeam$Opening" "way" "I") ∈ gt := tb_of 271 (by decide +kernel) rfl
theorem tb_272 : (Cond.fieldLink "OneSunbeam$Opening" (22 : Nat) "OneSunbeam$Opening" "most" "I") ∈ gt := tb_of 272 (by decide +kernel) rfl
theorem tb_273 : (Cond.fieldLink "OneSunbeam" (304 : Nat) "OneSunbeam$Opening" "most" "I") ∈ gt := tb_of 273 (by decide +kernel) rfl
theorem tb_274 : (Cond.fieldLink "OneSunbeam$Opening" (9 : Nat) "OneSunbeam$Opening" "beams" "LOneSunbeam$Beams;") ∈ gt := tb_of 274 (by decide +kernel) rfl
theorem tb_284 : (Cond.classLink "OneSunbeam" (62 : Nat) "OneSunbeam$Theft") ∈ gt := tb_of 284 (by decide +kernel) rfl
theorem tb_285 : (Cond.instantiable "OneSunbeam$Theft" (6 : Nat)) ∈ gt := tb_of 285 (by decide +kernel) rfl
theorem tb_287 : (Cond.instanceMethod ({ cls := "OneSunbeam$Theft", name := "<init>", desc := "()V" } : MethodName)) ∈ gt := tb_of 287 (by decide +kernel) rfl
set_option maxRecDepth 8000 in
theorem tb_288 : (Cond.code ({ cls := "OneSunbeam$Theft", name := "<init>", desc := "()V" } : MethodName) prog_9_method_1_code (1 : Nat) (Option.none : Option FieldType)) ∈ gt := sg_2 48 rfl rfl
theorem tb_289 : (Cond.methodLink "OneSunbeam$Theft" (3 : Nat) ({ cls := "java/lang/Object", name := "<init>", desc := "()V" } : MethodName)) ∈ gt := tb_of 289 (by decide +kernel) rfl
theorem tb_290 : (Cond.fieldLink "OneSunbeam$Theft" (18 : Nat) "OneSunbeam$Theft" "mirror" "I") ∈ gt := tb_of 290 (by decide +kernel) rfl
theorem tb_291 : (Cond.fieldLink "OneSunbeam" (308 : Nat) "OneSunbeam$Theft" "mirror" "I") ∈ gt := tb_of 291 (by decide +kernel) rfl
theorem tb_292 : (Cond.fieldLink "OneSunbeam$Theft" (22 : Nat) "OneSunbeam$Theft" "missing" "I") ∈ gt := tb_of 292 (by decide +kernel) rfl
theorem tb_293 : (Cond.fieldLink "OneSunbeam" (311 : Nat) "OneSunbeam$Theft" "missing" "I") ∈ gt := tb_of 293 (by decide +kernel) rfl
theorem tb_294 : (Cond.fieldLink "OneSunbeam$Theft" (25 : Nat) "OneSunbeam$Theft" "explains" "I") ∈ gt := tb_of 294 (by decide +kernel) rfl
theorem tb_295 : (Cond.fieldLink "OneSunbeam" (314 : Nat) "OneSunbeam$Theft" "explains" "I") ∈ gt := tb_of 295 (by decide +kernel) rfl
theorem tb_296 : (Cond.fieldLink "OneSunbeam$Theft" (9 : Nat) "OneSunbeam$Theft" "order" "[I") ∈ gt := tb_of 296 (by decide +kernel) rfl
theorem tb_297 : (Cond.fieldLink "OneSunbeam$Theft" (15 : Nat) "OneSunbeam$Theft" "comes" "[I") ∈ gt := tb_of 297 (by decide +kernel) rfl
theorem tb_298 : (Cond.fieldLink "OneSunbeam$Theft" (32 : Nat) "OneSunbeam$Theft" "metCount" "I") ∈ gt := tb_of 298 (by decide +kernel) rfl
theorem tb_312 : (Cond.classLink "OneSunbeam" (69 : Nat) "OneSunbeam$LawReader") ∈ gt := tb_of 312 (by decide +kernel) rfl
theorem tb_313 : (Cond.instantiable "OneSunbeam$LawReader" (14 : Nat)) ∈ gt := tb_of 313 (by decide +kernel) rfl
theorem tb_315 : (Cond.instanceMethod ({ cls := "OneSunbeam$LawReader", name := "<init>", desc := "()V" } : MethodName)) ∈ gt := tb_of 315 (by decide +kernel) rfl
set_option maxRecDepth 8000 in
theorem tb_316 : (Cond.code ({ cls := "OneSunbeam$LawReader", name := "<init>", desc := "()V" } : MethodName) prog_6_method_1_code (1 : Nat) (Option.none : Option FieldType)) ∈ gt := sg_2 76 rfl rfl
theorem tb_317 : (Cond.methodLink "OneSunbeam$LawReader" (3 : Nat) ({ cls := "java/lang/Object", name := "<init>", desc := "()V" } : MethodName)) ∈ gt := tb_of 317 (by decide +kernel) rfl
theorem tb_318 : (Cond.fieldLink "OneSunbeam$LawReader" (9 : Nat) "OneSunbeam$LawReader" "text" "[B") ∈ gt := tb_of 318 (by decide +kernel) rfl
theorem tb_319 : (Cond.fieldLink "OneSunbeam$LawReader" (15 : Nat) "OneSunbeam$LawReader" "open" "[I") ∈ gt := tb_of 319 (by decide +kernel) rfl
theorem tb_320 : (Cond.fieldLink "OneSunbeam$LawReader" (32 : Nat) "OneSunbeam$LawReader" "openCount" "I") ∈ gt := tb_of 320 (by decide +kernel) rfl
theorem tb_321 : (Cond.fieldLink "OneSunbeam$LawReader" (25 : Nat) "OneSunbeam$LawReader" "length" "I") ∈ gt := tb_of 321 (by decide +kernel) rfl
theorem tb_322 : (Cond.fieldLink "OneSunbeam$LawReader" (29 : Nat) "OneSunbeam$LawReader" "place" "I") ∈ gt := tb_of 322 (by decide +kernel) rfl
theorem tb_323 : (Cond.fieldLink "OneSunbeam$LawReader" (83 : Nat) "OneSunbeam$LawReader" "token" "I") ∈ gt := tb_of 323 (by decide +kernel) rfl
theorem tb_324 : (Cond.fieldLink "OneSunbeam$LawReader" (65 : Nat) "OneSunbeam$LawReader" "tokenLength" "I") ∈ gt := tb_of 324 (by decide +kernel) rfl
theorem tb_325 : (Cond.fieldLink "OneSunbeam$LawReader" (47 : Nat) "OneSunbeam$LawReader" "awaited" "I") ∈ gt := tb_of 325 (by decide +kernel) rfl
theorem tb_326 : (Cond.fieldLink "OneSunbeam$LawReader" (96 : Nat) "OneSunbeam$LawReader" "part" "I") ∈ gt := tb_of 326 (by decide +kernel) rfl
theorem tb_327 : (Cond.fieldLink "OneSunbeam$LawReader" (35 : Nat) "OneSunbeam$LawReader" "depth" "I") ∈ gt := tb_of 327 (by decide +kernel) rfl
theorem tb_328 : (Cond.fieldLink "OneSunbeam$LawReader" (38 : Nat) "OneSunbeam$LawReader" "brackets" "I") ∈ gt := tb_of 328 (by decide +kernel) rfl
theorem tb_329 : (Cond.fieldLink "OneSunbeam$LawReader" (41 : Nat) "OneSunbeam$LawReader" "valueCount" "I") ∈ gt := tb_of 329 (by decide +kernel) rfl
theorem tb_330 : (Cond.fieldLink "OneSunbeam$LawReader" (44 : Nat) "OneSunbeam$LawReader" "fault" "I") ∈ gt := tb_of 330 (by decide +kernel) rfl
theorem tb_331 : (Cond.fieldLink "OneSunbeam$LawReader" (50 : Nat) "OneSunbeam$LawReader" "draft" "LOneSunbeam$Law;") ∈ gt := tb_of 331 (by decide +kernel) rfl
theorem tb_361 : (Cond.arrayClass FieldType.byte) ∈ gt := tb_of 361 (by decide +kernel) rfl
theorem tb_362 : (Cond.classLink "OneSunbeam" (76 : Nat) "OneSunbeam$Law") ∈ gt := tb_of 362 (by decide +kernel) rfl
theorem tb_364 : (Cond.instantiable "OneSunbeam$Law" (7 : Nat)) ∈ gt := tb_of 364 (by decide +kernel) rfl
theorem tb_366 : (Cond.instanceMethod ({ cls := "OneSunbeam$Law", name := "<init>", desc := "()V" } : MethodName)) ∈ gt := tb_of 366 (by decide +kernel) rfl
set_option maxRecDepth 8000 in
theorem tb_367 : (Cond.code ({ cls := "OneSunbeam$Law", name := "<init>", desc := "()V" } : MethodName) prog_5_method_1_code (1 : Nat) (Option.none : Option FieldType)) ∈ gt := sg_2 127 rfl rfl
theorem tb_368 : (Cond.methodLink "OneSunbeam$Law" (3 : Nat) ({ cls := "java/lang/Object", name := "<init>", desc := "()V" } : MethodName)) ∈ gt := tb_of 368 (by decide +kernel) rfl
theorem tb_369 : (Cond.fieldLink "OneSunbeam$Law" (9 : Nat) "OneSunbeam$Law" "code" "[I") ∈ gt := tb_of 369 (by decide +kernel) rfl
theorem tb_370 : (Cond.fieldLink "OneSunbeam$Keepers" (100 : Nat) "OneSunbeam$Law" "code" "[I") ∈ gt := tb_of 370 (by decide +kernel) rfl
theorem tb_371 : (Cond.fieldLink "OneSunbeam$Law" (15 : Nat) "OneSunbeam$Law" "mirror" "[I") ∈ gt := tb_of 371 (by decide +kernel) rfl
theorem tb_372 : (Cond.fieldLink "OneSunbeam$Keepers" (68 : Nat) "OneSunbeam$Law" "mirror" "[I") ∈ gt := tb_of 372 (by decide +kernel) rfl
theorem tb_373 : (Cond.fieldLink "OneSunbeam$Law" (18 : Nat) "OneSunbeam$Law" "sumFrom" "[I") ∈ gt := tb_of 373 (by decide +kernel) rfl
theorem tb_374 : (Cond.fieldLink "OneSunbeam$Keepers" (78 : Nat) "OneSunbeam$Law" "sumFrom" "[I") ∈ gt := tb_of 374 (by decide +kernel) rfl
theorem tb_375 : (Cond.fieldLink "OneSunbeam$Law" (21 : Nat) "OneSunbeam$Law" "testFrom" "[I") ∈ gt := tb_of 375 (by decide +kernel) rfl
theorem tb_376 : (Cond.fieldLink "OneSunbeam$Keepers" (81 : Nat) "OneSunbeam$Law" "testFrom" "[I") ∈ gt := tb_of 376 (by decide +kernel) rfl
theorem tb_377 : (Cond.fieldLink "OneSunbeam$Law" (24 : Nat) "OneSunbeam$Law" "testTo" "[I") ∈ gt := tb_of 377 (by decide +kernel) rfl
theorem tb_378 : (Cond.fieldLink "OneSunbeam$Keepers" (97 : Nat) "OneSunbeam$Law" "testTo" "[I") ∈ gt := tb_of 378 (by decide +kernel) rfl
theorem tb_379 : (Cond.fieldLink "OneSunbeam$Law" (27 : Nat) "OneSunbeam$Law" "clauseCount" "I") ∈ gt := tb_of 379 (by decide +kernel) rfl
theorem tb_380 : (Cond.fieldLink "OneSunbeam$Keepers" (63 : Nat) "OneSunbeam$Law" "clauseCount" "I") ∈ gt := tb_of 380 (by decide +kernel) rfl
theorem tb_381 : (Cond.fieldLink "OneSunbeam$LawReader" (90 : Nat) "OneSunbeam$Law" "clauseCount" "I") ∈ gt := tb_of 381 (by decide +kernel) rfl
theorem tb_382 : (Cond.fieldLink "OneSunbeam$Law" (31 : Nat) "OneSunbeam$Law" "length" "I") ∈ gt := tb_of 382 (by decide +kernel) rfl
theorem tb_398 : (Cond.fieldLink "OneSunbeam" (10 : Nat) "OneSunbeam" "town" "LOneSunbeam$Town;") ∈ gt := tb_of 398 (by decide +kernel) rfl
theorem tb_399 : (Cond.fieldLink "OneSunbeam" (16 : Nat) "OneSunbeam" "trial" "LOneSunbeam$Town;") ∈ gt := tb_of 399 (by decide +kernel) rfl
theorem tb_400 : (Cond.fieldLink "OneSunbeam" (19 : Nat) "OneSunbeam" "images" "[LOneSunbeam$Town;") ∈ gt := tb_of 400 (by decide +kernel) rfl
theorem tb_401 : (Cond.fieldLink "OneSunbeam" (26 : Nat) "OneSunbeam" "beams" "LOneSunbeam$Beams;") ∈ gt := tb_of 401 (by decide +kernel) rfl
theorem tb_402 : (Cond.fieldLink "OneSunbeam" (35 : Nat) "OneSunbeam" "keepers" "LOneSunbeam$Keepers;") ∈ gt := tb_of 402 (by decide +kernel) rfl
theorem tb_403 : (Cond.fieldLink "OneSunbeam" (42 : Nat) "OneSunbeam" "aiming" "LOneSunbeam$Aiming;") ∈ gt := tb_of 403 (by decide +kernel) rfl
theorem tb_404 : (Cond.fieldLink "OneSunbeam" (51 : Nat) "OneSunbeam" "mending" "LOneSunbeam$Mending;") ∈ gt := tb_of 404 (by decide +kernel) rfl
theorem tb_405 : (Cond.fieldLink "OneSunbeam" (58 : Nat) "OneSunbeam" "opening" "LOneSunbeam$Opening;") ∈ gt := tb_of 405 (by decide +kernel) rfl
theorem tb_406 : (Cond.fieldLink "OneSunbeam" (65 : Nat) "OneSunbeam" "theft" "LOneSunbeam$Theft;") ∈ gt := tb_of 406 (by decide +kernel) rfl
theorem tb_407 : (Cond.fieldLink "OneSunbeam" (72 : Nat) "OneSunbeam" "reader" "LOneSunbeam$LawReader;") ∈ gt := tb_of 407 (by decide +kernel) rfl
theorem tb_408 : (Cond.fieldLink "OneSunbeam" (78 : Nat) "OneSunbeam" "laws" "[LOneSunbeam$Law;") ∈ gt := tb_of 408 (by decide +kernel) rfl
theorem tb_409 : (Cond.fieldLink "OneSunbeam" (82 : Nat) "OneSunbeam" "tape" "[B") ∈ gt := tb_of 409 (by decide +kernel) rfl
theorem tb_410 : (Cond.fieldLink "OneSunbeam" (86 : Nat) "OneSunbeam" "gotNow" "[I") ∈ gt := tb_of 410 (by decide +kernel) rfl
theorem tb_411 : (Cond.fieldLink "OneSunbeam" (91 : Nat) "OneSunbeam" "draft" "LOneSunbeam$Law;") ∈ gt := tb_of 411 (by decide +kernel) rfl
theorem tb_412 : (Cond.fieldLink "OneSunbeam" (179 : Nat) "OneSunbeam" "lawCount" "I") ∈ gt := tb_of 412 (by decide +kernel) rfl
theorem tb_413 : (Cond.fieldLink "OneSunbeam" (172 : Nat) "OneSunbeam" "tapeLength" "I") ∈ gt := tb_of 413 (by decide +kernel) rfl
theorem tb_447 : (Cond.methodLink "OneSunbeamLaw" (13 : Nat) ({ cls := "OneSunbeam", name := "town", desc := "(IIIII)Z" } : MethodName)) ∈ gt := tb_of 447 (by decide +kernel) rfl
theorem tb_448 : (Cond.instanceMethod ({ cls := "OneSunbeam", name := "town", desc := "(IIIII)Z" } : MethodName)) ∈ gt := tb_of 448 (by decide +kernel) rfl
theorem tb_449 : (Cond.selects "OneSunbeam" ({ cls := "OneSunbeam", name := "town", desc := "(IIIII)Z" } : MethodName) ({ cls := "OneSunbeam", name := "town", desc := "(IIIII)Z" } : MethodName)) ∈ gt := tb_of 449 (by decide +kernel) rfl
set_option maxRecDepth 8000 in
theorem tb_450 : (Cond.code ({ cls := "OneSunbeam", name := "town", desc := "(IIIII)Z" } : MethodName) prog_1_method_2_code (6 : Nat) (Option.some FieldType.boolean)) ∈ gt := sg_2 210 rfl rfl
theorem tb_451 : (Cond.methodLink "OneSunbeam" (95 : Nat) ({ cls := "OneSunbeam", name := "isWithin", desc := "(III)Z" } : MethodName)) ∈ gt := tb_of 451 (by decide +kernel) rfl
theorem tb_452 : (Cond.static ({ cls := "OneSunbeam", name := "isWithin", desc := "(III)Z" } : MethodName)) ∈ gt := tb_of 452 (by decide +kernel) rfl
set_option maxRecDepth 8000 in
theorem tb_453 : (Cond.code ({ cls := "OneSunbeam", name := "isWithin", desc := "(III)Z" } : MethodName) prog_1_method_35_code (3 : Nat) (Option.some FieldType.boolean)) ∈ gt := sg_2 213 rfl rfl
theorem tb_454 : (Cond.methodLink "OneSunbeam" (99 : Nat) ({ cls := "OneSunbeam$Town", name := "begin", desc := "(IIIII)V" } : MethodName)) ∈ gt := tb_of 454 (by decide +kernel) rfl
theorem tb_455 : (Cond.instanceMethod ({ cls := "OneSunbeam$Town", name := "begin", desc := "(IIIII)V" } : MethodName)) ∈ gt := tb_of 455 (by decide +kernel) rfl
theorem tb_456 : (Cond.selects "OneSunbeam$Town" ({ cls := "OneSunbeam$Town", name := "begin", desc := "(IIIII)V" } : MethodName) ({ cls := "OneSunbeam$Town", name := "begin", desc := "(IIIII)V" } : MethodName)) ∈ gt := tb_of 456 (by decide +kernel) rfl
set_option maxRecDepth 8000 in
theorem tb_457 : (Cond.code ({ cls := "OneSunbeam$Town", name := "begin", desc := "(IIIII)V" } : MethodName) prog_10_method_2_code (6 : Nat) (Option.none : Option FieldType)) ∈ gt := sg_2 217 rfl rfl
theorem tb_458 : (Cond.methodLink "OneSunbeam$Town" (67 : Nat) ({ cls := "java/util/Arrays", name := "fill", desc := "([II)V" } : MethodName)) ∈ gt := tb_of 458 (by decide +kernel) rfl
theorem tb_459 : (Cond.static ({ cls := "java/util/Arrays", name := "fill", desc := "([II)V" } : MethodName)) ∈ gt := tb_of 459 (by decide +kernel) rfl
set_option maxRecDepth 8000 in
theorem tb_460 : (Cond.code ({ cls := "java/util/Arrays", name := "fill", desc := "([II)V" } : MethodName) prog_19_method_103_code (4 : Nat) (Option.none : Option FieldType)) ∈ gt := sg_2 220 rfl rfl
theorem tb_461 : (Cond.methodLink "OneSunbeamLaw" (18 : Nat) ({ cls := "OneSunbeam", name := "rock", desc := "(IIIIZ)I" } : MethodName)) ∈ gt := tb_of 461 (by decide +kernel) rfl
theorem tb_462 : (Cond.instanceMethod ({ cls := "OneSunbeam", name := "rock", desc := "(IIIIZ)I" } : MethodName)) ∈ gt := tb_of 462 (by decide +kernel) rfl
theorem tb_463 : (Cond.selects "OneSunbeam" ({ cls := "OneSunbeam", name := "rock", desc := "(IIIIZ)I" } : MethodName) ({ cls := "OneSunbeam", name := "rock", desc := "(IIIIZ)I" } : MethodName)) ∈ gt := tb_of 463 (by decide +kernel) rfl
set_option maxRecDepth 8000 in
theorem tb_464 : (Cond.code ({ cls := "OneSunbeam", name := "rock", desc := "(IIIIZ)I" } : MethodName) prog_1_method_3_code (6 : Nat) (Option.some FieldType.int)) ∈ gt := sg_2 224 rfl rfl
theorem tb_465 : (Cond.methodLink "OneSunbeam" (103 : Nat) ({ cls := "OneSunbeam$Town", name := "hasRectangle", desc := "(IIII)Z" } : MethodName)) ∈ gt := tb_of 465 (by decide +kernel) rfl
theorem tb_466 : (Cond.instanceMethod ({ cls := "OneSunbeam$Town", name := "hasRectangle", desc := "(IIII)Z" } : MethodName)) ∈ gt := tb_of 466 (by decide +kernel) rfl
theorem tb_467 : (Cond.selects "OneSunbeam$Town" ({ cls := "OneSunbeam$Town", name := "hasRectangle", desc := "(IIII)Z" } : MethodName) ({ cls := "OneSunbeam$Town", name := "hasRectangle", desc := "(IIII)Z" } : MethodName)) ∈ gt := tb_of 467 (by decide +kernel) rfl
set_option maxRecDepth 8000 in
theorem tb_468 : (Cond.code ({ cls := "OneSunbeam$Town", name := "hasRectangle", desc := "(IIII)Z" } : MethodName) prog_10_method_7_code (5 : Nat) (Option.some FieldType.boolean)) ∈ gt := sg_2 228 rfl rfl
theorem tb_469 : (Cond.methodLink "OneSunbeam$Town" (79 : Nat) ({ cls := "OneSunbeam$Town", name := "hasCell", desc := "(II)Z" } : MethodName)) ∈ gt := tb_of 469 (by decide +kernel) rfl
theorem tb_470 : (Cond.instanceMethod ({ cls := "OneSunbeam$Town", name := "hasCell", desc := "(II)Z" } : MethodName)) ∈ gt := tb_of 470 (by decide +kernel) rfl
theorem tb_471 : (Cond.selects "OneSunbeam$Town" ({ cls := "OneSunbeam$Town", name := "hasCell", desc := "(II)Z" } : MethodName) ({ cls := "OneSunbeam$Town", name := "hasCell", desc := "(II)Z" } : MethodName)) ∈ gt := tb_of 471 (by decide +kernel) rfl
set_option maxRecDepth 8000 in
theorem tb_472 : (Cond.code ({ cls := "OneSunbeam$Town", name := "hasCell", desc := "(II)Z" } : MethodName) prog_10_method_5_code (3 : Nat) (Option.some FieldType.boolean)) ∈ gt := sg_2 232 rfl rfl
theorem tb_473 : (Cond.methodLink "OneSunbeam" (107 : Nat) ({ cls := "OneSunbeam$Town", name := "setRock", desc := "(IIIII)I" } : MethodName)) ∈ gt := tb_of 473 (by decide +kernel) rfl
theorem tb_474 : (Cond.instanceMethod ({ cls := "OneSunbeam$Town", name := "setRock", desc := "(IIIII)I" } : MethodName)) ∈ gt := tb_of 474 (by decide +kernel) rfl
theorem tb_475 : (Cond.selects "OneSunbeam$Town" ({ cls := "OneSunbeam$Town", name := "setRock", desc := "(IIIII)I" } : MethodName) ({ cls := "OneSunbeam$Town", name := "setRock", desc := "(IIIII)I" } : MethodName)) ∈ gt := tb_of 475 (by decide +kernel) rfl
set_option maxRecDepth 8000 in
theorem tb_476 : (Cond.code ({ cls := "OneSunbeam$Town", name := "setRock", desc := "(IIIII)I" } : MethodName) prog_10_method_18_code (9 : Nat) (Option.some FieldType.int)) ∈ gt := sg_2 236 rfl rfl
theorem tb_478 : (Cond.static ({ cls := "OneSunbeam", name := "cellOf", desc := "(II)I" } : MethodName)) ∈ gt := tb_of 478 (by decide +kernel) rfl
set_option maxRecDepth 8000 in
theorem tb_479 : (Cond.code ({ cls := "OneSunbeam", name := "cellOf", desc := "(II)I" } : MethodName) prog_1_method_36_code (2 : Nat) (Option.some FieldType.int)) ∈ gt := sg_2 239 rfl rfl
theorem tb_480 : (Cond.methodLink "OneSunbeamLaw" (23 : Nat) ({ cls := "OneSunbeam", name := "sun", desc := "(IIII)Z" } : MethodName)) ∈ gt := tb_of 480 (by decide +kernel) rfl
theorem tb_481 : (Cond.instanceMethod ({ cls := "OneSunbeam", name := "sun", desc := "(IIII)Z" } : MethodName)) ∈ gt := tb_of 481 (by decide +kernel) rfl
theorem tb_482 : (Cond.selects "OneSunbeam" ({ cls := "OneSunbeam", name := "sun", desc := "(IIII)Z" } : MethodName) ({ cls := "OneSunbeam", name := "sun", desc := "(IIII)Z" } : MethodName)) ∈ gt := tb_of 482 (by decide +kernel) rfl
set_option maxRecDepth 8000 in
theorem tb_483 : (Cond.code ({ cls := "OneSunbeam", name := "sun", desc := "(IIII)Z" } : MethodName) prog_1_method_4_code (6 : Nat) (Option.some FieldType.boolean)) ∈ gt := sg_3 3 rfl rfl
theorem tb_484 : (Cond.methodLink "OneSunbeam" (111 : Nat) ({ cls := "OneSunbeam$Town", name := "isBegun", desc := "()Z" } : MethodName)) ∈ gt := tb_of 484 (by decide +kernel) rfl
theorem tb_485 : (Cond.instanceMethod ({ cls := "OneSunbeam$Town", name := "isBegun", desc := "()Z" } : MethodName)) ∈ gt := tb_of 485 (by decide +kernel) rfl
theorem tb_486 : (Cond.selects "OneSunbeam$Town" ({ cls := "OneSunbeam$Town", name := "isBegun", desc := "()Z" } : MethodName) ({ cls := "OneSunbeam$Town", name := "isBegun", desc := "()Z" } : MethodName)) ∈ gt := tb_of 486 (by decide +kernel) rfl
set_option maxRecDepth 8000 in
theorem tb_487 : (Cond.code ({ cls := "OneSunbeam$Town", name := "isBegun", desc := "()Z" } : MethodName) prog_10_method_4_code (1 : Nat) (Option.some FieldType.boolean)) ∈ gt := sg_3 7 rfl rfl
theorem tb_488 : (Cond.constant "OneSunbeam" (115 : Nat) (99999 : Int32)) ∈ gt := tb_of 488 (by decide +kernel) rfl
theorem tb_489 : (Cond.methodLink "OneSunbeamLaw" (28 : Nat) ({ cls := "OneSunbeam", name := "mirror", desc := "(IIIIIII)I" } : MethodName)) ∈ gt := tb_of 489 (by decide +kernel) rfl
theorem tb_490 : (Cond.instanceMethod ({ cls := "OneSunbeam", name := "mirror", desc := "(IIIIIII)I" } : MethodName)) ∈ gt := tb_of 490 (by decide +kernel) rfl
theorem tb_491 : (Cond.selects "OneSunbeam" ({ cls := "OneSunbeam", name := "mirror", desc := "(IIIIIII)I" } : MethodName) ({ cls := "OneSunbeam", name := "mirror", desc := "(IIIIIII)I" } : MethodName)) ∈ gt := tb_of 491 (by decide +kernel) rfl
set_option maxRecDepth 8000 in
theorem tb_492 : (Cond.code ({ cls := "OneSunbeam", name := "mirror", desc := "(IIIIIII)I" } : MethodName) prog_1_method_5_code (9 : Nat) (Option.some FieldType.int)) ∈ gt := sg_3 12 rfl rfl
theorem tb_493 : (Cond.methodLink "OneSunbeam" (122 : Nat) ({ cls := "OneSunbeam$Town", name := "hasCell", desc := "(II)Z" } : MethodName)) ∈ gt := tb_of 493 (by decide +kernel) rfl
theorem tb_494 : (Cond.methodLink "OneSunbeam" (129 : Nat) ({ cls := "OneSunbeam", name := "cellOf", desc := "(II)I" } : MethodName)) ∈ gt := tb_of 494 (by decide +kernel) rfl
theorem tb_495 : (Cond.methodLink "OneSunbeam" (137 : Nat) ({ cls := "OneSunbeam$Town", name := "addMirror", desc := "(II)I" } : MethodName)) ∈ gt := tb_of 495 (by decide +kernel) rfl
theorem tb_496 : (Cond.instanceMethod ({ cls := "OneSunbeam$Town", name := "addMirror", desc := "(II)I" } : MethodName)) ∈ gt := tb_of 496 (by decide +kernel) rfl
theorem tb_497 : (Cond.selects "OneSunbeam$Town" ({ cls := "OneSunbeam$Town", name := "addMirror", desc := "(II)I" } : MethodName) ({ cls := "OneSunbeam$Town", name := "addMirror", desc := "(II)I" } : MethodName)) ∈ gt := tb_of 497 (by decide +kernel) rfl
set_option maxRecDepth 8000 in
theorem tb_498 : (Cond.code ({ cls := "OneSunbeam$Town", name := "addMirror", desc := "(II)I" } : MethodName) prog_10_method_19_code (4 : Nat) (Option.some FieldType.int)) ∈ gt := sg_3 18 rfl rfl
theorem tb_499 : (Cond.methodLink "OneSunbeam$Town" (87 : Nat) ({ cls := "OneSunbeam$Town", name := "setMirror", desc := "(III)V" } : MethodName)) ∈ gt := tb_of 499 (by decide +kernel) rfl
theorem tb_500 : (Cond.instanceMethod ({ cls := "OneSunbeam$Town", name := "setMirror", desc := "(III)V" } : MethodName)) ∈ gt := tb_of 500 (by decide +kernel) rfl
theorem tb_501 : (Cond.selects "OneSunbeam$Town" ({ cls := "OneSunbeam$Town", name := "setMirror", desc := "(III)V" } : MethodName) ({ cls := "OneSunbeam$Town", name := "setMirror", desc := "(III)V" } : MethodName)) ∈ gt := tb_of 501 (by decide +kernel) rfl
set_option maxRecDepth 8000 in
theorem tb_502 : (Cond.code ({ cls := "OneSunbeam$Town", name := "setMirror", desc := "(III)V" } : MethodName) prog_10_method_15_code (4 : Nat) (Option.none : Option FieldType)) ∈ gt := sg_3 22 rfl rfl
theorem tb_503 : (Cond.methodLink "OneSunbeam" (140 : Nat) ({ cls := "OneSunbeam$Town", name := "setMirror", desc := "(III)V" } : MethodName)) ∈ gt := tb_of 503 (by decide +kernel) rfl
theorem tb_504 : (Cond.methodLink "OneSunbeamLaw" (33 : Nat) ({ cls := "OneSunbeam", name := "sets", desc := "(III)I" } : MethodName)) ∈ gt := tb_of 504 (by decide +kernel) rfl
theorem tb_505 : (Cond.instanceMethod ({ cls := "OneSunbeam", name := "sets", desc := "(III)I" } : MethodName)) ∈ gt := tb_of 505 (by decide +kernel) rfl
theorem tb_506 : (Cond.selects "OneSunbeam" ({ cls := "OneSunbeam", name := "sets", desc := "(III)I" } : MethodName) ({ cls := "OneSunbeam", name := "sets", desc := "(III)I" } : MethodName)) ∈ gt := tb_of 506 (by decide +kernel) rfl
set_option maxRecDepth 8000 in
theorem tb_507 : (Cond.code ({ cls := "OneSunbeam", name := "sets", desc := "(III)I" } : MethodName) prog_1_method_6_code (4 : Nat) (Option.some FieldType.int)) ∈ gt := sg_3 27 rfl rfl
theorem tb_508 : (Cond.methodLink "OneSunbeam" (144 : Nat) ({ cls := "OneSunbeam$Town", name := "hasMirror", desc := "(I)Z" } : MethodName)) ∈ gt := tb_of 508 (by decide +kernel) rfl
theorem tb_509 : (Cond.instanceMethod ({ cls := "OneSunbeam$Town", name := "hasMirror", desc := "(I)Z" } : MethodName)) ∈ gt := tb_of 509 (by decide +kernel) rfl
theorem tb_510 : (Cond.selects "OneSunbeam$Town" ({ cls := "OneSunbeam$Town", name := "hasMirror", desc := "(I)Z" } : MethodName) ({ cls := "OneSunbeam$Town", name := "hasMirror", desc := "(I)Z" } : MethodName)) ∈ gt := tb_of 510 (by decide +kernel) rfl
set_option maxRecDepth 8000 in
theorem tb_511 : (Cond.code ({ cls := "OneSunbeam$Town", name := "hasMirror", desc := "(I)Z" } : MethodName) prog_10_method_8_code (2 : Nat) (Option.some FieldType.boolean)) ∈ gt := sg_3 31 rfl rfl
theorem tb_512 : (Cond.methodLink "OneSunbeam" (148 : Nat) ({ cls := "OneSunbeam", name := "changeMirror", desc := "(IIIZ)I" } : MethodName)) ∈ gt := tb_of 512 (by decide +kernel) rfl
theorem tb_514 : (Cond.instanceMethod ({ cls := "OneSunbeam", name := "changeMirror", desc := "(IIIZ)I" } : MethodName)) ∈ gt := tb_of 514 (by decide +kernel) rfl
set_option maxRecDepth 8000 in
theorem tb_515 : (Cond.code ({ cls := "OneSunbeam", name := "changeMirror", desc := "(IIIZ)I" } : MethodName) prog_1_method_38_code (6 : Nat) (Option.some FieldType.int)) ∈ gt := sg_3 35 rfl rfl
theorem tb_516 : (Cond.methodLink "OneSunbeam" (201 : Nat) ({ cls := "OneSunbeam$Town", name := "ofMirror", desc := "(II)I" } : MethodName)) ∈ gt := tb_of 516 (by decide +kernel) rfl
theorem tb_517 : (Cond.instanceMethod ({ cls := "OneSunbeam$Town", name := "ofMirror", desc := "(II)I" } : MethodName)) ∈ gt := tb_of 517 (by decide +kernel) rfl
theorem tb_518 : (Cond.selects "OneSunbeam$Town" ({ cls := "OneSunbeam$Town", name := "ofMirror", desc := "(II)I" } : MethodName) ({ cls := "OneSunbeam$Town", name := "ofMirror", desc := "(II)I" } : MethodName)) ∈ gt := tb_of 518 (by decide +kernel) rfl
set_option maxRecDepth 8000 in
theorem tb_519 : (Cond.code ({ cls := "OneSunbeam$Town", name := "ofMirror", desc := "(II)I" } : MethodName) prog_10_method_14_code (3 : Nat) (Option.some FieldType.int)) ∈ gt := sg_3 39 rfl rfl
theorem tb_520 : (Cond.methodLink "OneSunbeamLaw" (38 : Nat) ({ cls := "OneSunbeam", name := "yard", desc := "(IIIIII)I" } : MethodName)) ∈ gt := tb_of 520 (by decide +kernel) rfl
theorem tb_521 : (Cond.instanceMethod ({ cls := "OneSunbeam", name := "yard", desc := "(IIIIII)I" } : MethodName)) ∈ gt := tb_of 521 (by decide +kernel) rfl
theorem tb_522 : (Cond.selects "OneSunbeam" ({ cls := "OneSunbeam", name := "yard", desc := "(IIIIII)I" } : MethodName) ({ cls := "OneSunbeam", name := "yard", desc := "(IIIIII)I" } : MethodName)) ∈ gt := tb_of 522 (by decide +kernel) rfl
set_option maxRecDepth 8000 in
theorem tb_523 : (Cond.code ({ cls := "OneSunbeam", name := "yard", desc := "(IIIIII)I" } : MethodName) prog_1_method_7_code (8 : Nat) (Option.some FieldType.int)) ∈ gt := sg_3 43 rfl rfl
theorem tb_524 : (Cond.constant "OneSunbeam" (155 : Nat) (9999999 : Int32)) ∈ gt := tb_of 524 (by decide +kernel) rfl
theorem tb_525 : (Cond.methodLink "OneSunbeam" (156 : Nat) ({ cls := "OneSunbeam$Town", name := "addYard", desc := "(IIII)I" } : MethodName)) ∈ gt := tb_of 525 (by decide +kernel) rfl
theorem tb_526 : (Cond.instanceMethod ({ cls := "OneSunbeam$Town", name := "addYard", desc := "(IIII)I" } : MethodName)) ∈ gt := tb_of 526 (by decide +kernel) rfl
theorem tb_527 : (Cond.selects "OneSunbeam$Town" ({ cls := "OneSunbeam$Town", name := "addYard", desc := "(IIII)I" } : MethodName) ({ cls := "OneSunbeam$Town", name := "addYard", desc := "(IIII)I" } : MethodName)) ∈ gt := tb_of 527 (by decide +kernel) rfl
set_option maxRecDepth 8000 in
theorem tb_528 : (Cond.code ({ cls := "OneSunbeam$Town", name := "addYard", desc := "(IIII)I" } : MethodName) prog_10_method_20_code (8 : Nat) (Option.some FieldType.int)) ∈ gt := sg_3 48 rfl rfl
theorem tb_529 : (Cond.methodLink "OneSunbeam$Town" (91 : Nat) ({ cls := "OneSunbeam$Town", name := "setYard", desc := "(III)V" } : MethodName)) ∈ gt := tb_of 529 (by decide +kernel) rfl
theorem tb_530 : (Cond.instanceMethod ({ cls := "OneSunbeam$Town", name := "setYard", desc := "(III)V" } : MethodName)) ∈ gt := tb_of 530 (by decide +kernel) rfl
theorem tb_531 : (Cond.selects "OneSunbeam$Town" ({ cls := "OneSunbeam$Town", name := "setYard", desc := "(III)V" } : MethodName) ({ cls := "OneSunbeam$Town", name := "setYard", desc := "(III)V" } : MethodName)) ∈ gt := tb_of 531 (by decide +kernel) rfl
set_option maxRecDepth 8000 in
theorem tb_532 : (Cond.code ({ cls := "OneSunbeam$Town", name := "setYard", desc := "(III)V" } : MethodName) prog_10_method_17_code (4 : Nat) (Option.none : Option FieldType)) ∈ gt := sg_3 52 rfl rfl
theorem tb_533 : (Cond.methodLink "OneSunbeam" (160 : Nat) ({ cls := "OneSunbeam$Town", name := "setYard", desc := "(III)V" } : MethodName)) ∈ gt := tb_of 533 (by decide +kernel) rfl
theorem tb_534 : (Cond.methodLink "OneSunbeamLaw" (43 : Nat) ({ cls := "OneSunbeam", name := "eyes", desc := "(III)I" } : MethodName)) ∈ gt := tb_of 534 (by decide +kernel) rfl
theorem tb_535 : (Cond.instanceMethod ({ cls := "OneSunbeam", name := "eyes", desc := "(III)I" } : MethodName)) ∈ gt := tb_of 535 (by decide +kernel) rfl
theorem tb_536 : (Cond.selects "OneSunbeam" ({ cls := "OneSunbeam", name := "eyes", desc := "(III)I" } : MethodName) ({ cls := "OneSunbeam", name := "eyes", desc := "(III)I" } : MethodName)) ∈ gt := tb_of 536 (by decide +kernel) rfl
set_option maxRecDepth 8000 in
theorem tb_537 : (Cond.code ({ cls := "OneSunbeam", name := "eyes", desc := "(III)I" } : MethodName) prog_1_method_8_code (5 : Nat) (Option.some FieldType.int)) ∈ gt := sg_3 57 rfl rfl
theorem tb_538 : (Cond.methodLink "OneSunbeamLaw" (47 : Nat) ({ cls := "OneSunbeam", name := "month", desc := "(I)I" } : MethodName)) ∈ gt := tb_of 538 (by decide +kernel) rfl
theorem tb_539 : (Cond.instanceMethod ({ cls := "OneSunbeam", name := "month", desc := "(I)I" } : MethodName)) ∈ gt := tb_of 539 (by decide +kernel) rfl
theorem tb_540 : (Cond.selects "OneSunbeam" ({ cls := "OneSunbeam", name := "month", desc := "(I)I" } : MethodName) ({ cls := "OneSunbeam", name := "month", desc := "(I)I" } : MethodName)) ∈ gt := tb_of 540 (by decide +kernel) rfl
set_option maxRecDepth 8000 in
theorem tb_541 : (Cond.code ({ cls := "OneSunbeam", name := "month", desc := "(I)I" } : MethodName) prog_1_method_9_code (3 : Nat) (Option.some FieldType.int)) ∈ gt := sg_3 61 rfl rfl
theorem tb_542 : (Cond.methodLink "OneSunbeamLaw" (52 : Nat) ({ cls := "OneSunbeam", name := "falls", desc := "(I)I" } : MethodName)) ∈ gt := tb_of 542 (by decide +kernel) rfl
theorem tb_543 : (Cond.instanceMethod ({ cls := "OneSunbeam", name := "falls", desc := "(I)I" } : MethodName)) ∈ gt := tb_of 543 (by decide +kernel) rfl
theorem tb_544 : (Cond.selects "OneSunbeam" ({ cls := "OneSunbeam", name := "falls", desc := "(I)I" } : MethodName) ({ cls := "OneSunbeam", name := "falls", desc := "(I)I" } : MethodName)) ∈ gt := tb_of 544 (by decide +kernel) rfl
set_option maxRecDepth 8000 in
theorem tb_545 : (Cond.code ({ cls := "OneSunbeam", name := "falls", desc := "(I)I" } : MethodName) prog_1_method_10_code (3 : Nat) (Option.some FieldType.int)) ∈ gt := sg_3 65 rfl rfl
theorem tb_546 : (Cond.methodLink "OneSunbeamLaw" (56 : Nat) ({ cls := "OneSunbeam", name := "feed", desc := "(IIIII)I" } : MethodName)) ∈ gt := tb_of 546 (by decide +kernel) rfl
theorem tb_547 : (Cond.instanceMethod ({ cls := "OneSunbeam", name := "feed", desc := "(IIIII)I" } : MethodName)) ∈ gt := tb_of 547 (by decide +kernel) rfl
theorem tb_548 : (Cond.selects "OneSunbeam" ({ cls := "OneSunbeam", name := "feed", desc := "(IIIII)I" } : MethodName) ({ cls := "OneSunbeam", name := "feed", desc := "(IIIII)I" } : MethodName)) ∈ gt := tb_of 548 (by decide +kernel) rfl
set_option maxRecDepth 8000 in
theorem tb_549 : (Cond.code ({ cls := "OneSunbeam", name := "feed", desc := "(IIIII)I" } : MethodName) prog_1_method_11_code (6 : Nat) (Option.some FieldType.int)) ∈ gt := sg_3 69 rfl rfl
theorem tb_550 : (Cond.methodLink "OneSunbeam" (175 : Nat) ({ cls := "OneSunbeam", name := "putOnTape", desc := "(I)V" } : MethodName)) ∈ gt := tb_of 550 (by decide +kernel) rfl
theorem tb_552 : (Cond.instanceMethod ({ cls := "OneSunbeam", name := "putOnTape", desc := "(I)V" } : MethodName)) ∈ gt := tb_of 552 (by decide +kernel) rfl
set_option maxRecDepth 8000 in
theorem tb_553 : (Cond.code ({ cls := "OneSunbeam", name := "putOnTape", desc := "(I)V" } : MethodName) prog_1_method_39_code (3 : Nat) (Option.none : Option FieldType)) ∈ gt := sg_3 73 rfl rfl
theorem tb_554 : (Cond.methodLink "OneSunbeamLaw" (61 : Nat) ({ cls := "OneSunbeam", name := "end", desc := "(I)I" } : MethodName)) ∈ gt := tb_of 554 (by decide +kernel) rfl
theorem tb_555 : (Cond.instanceMethod ({ cls := "OneSunbeam", name := "end", desc := "(I)I" } : MethodName)) ∈ gt := tb_of 555 (by decide +kernel) rfl
theorem tb_556 : (Cond.selects "OneSunbeam" ({ cls := "OneSunbeam", name := "end", desc := "(I)I" } : MethodName) ({ cls := "OneSunbeam", name := "end", desc := "(I)I" } : MethodName)) ∈ gt := tb_of 556 (by decide +kernel) rfl
set_option maxRecDepth 8000 in
theorem tb_557 : (Cond.code ({ cls := "OneSunbeam", name := "end", desc := "(I)I" } : MethodName) prog_1_method_12_code (2 : Nat) (Option.some FieldType.int)) ∈ gt := sg_3 77 rfl rfl
theorem tb_558 : (Cond.methodLink "OneSunbeamLaw" (65 : Nat) ({ cls := "OneSunbeam", name := "law", desc := "()I" } : MethodName)) ∈ gt := tb_of 558 (by decide +kernel) rfl
theorem tb_559 : (Cond.instanceMethod ({ cls := "OneSunbeam", name := "law", desc := "()I" } : MethodName)) ∈ gt := tb_of 559 (by decide +kernel) rfl
theorem tb_560 : (Cond.selects "OneSunbeam" ({ cls := "OneSunbeam", name := "law", desc := "()I" } : MethodName) ({ cls := "OneSunbeam", name := "law", desc := "()I" } : MethodName)) ∈ gt := tb_of 560 (by decide +kernel) rfl
set_option maxRecDepth 8000 in
theorem tb_561 : (Cond.code ({ cls := "OneSunbeam", name := "law", desc := "()I" } : MethodName) prog_1_method_13_code (2 : Nat) (Option.some FieldType.int)) ∈ gt := sg_3 81 rfl rfl
theorem tb_562 : (Cond.methodLink "OneSunbeam" (182 : Nat) ({ cls := "OneSunbeam$LawReader", name := "read", desc := "([BILOneSunbeam$Law;)I" } : MethodName)) ∈ gt := tb_of 562 (by decide +kernel) rfl
theorem tb_563 : (Cond.instanceMethod ({ cls := "OneSunbeam$LawReader", name := "read", desc := "([BILOneSunbeam$Law;)I" } : MethodName)) ∈ gt := tb_of 563 (by decide +kernel) rfl
theorem tb_564 : (Cond.selects "OneSunbeam$LawReader" ({ cls := "OneSunbeam$LawReader", name := "read", desc := "([BILOneSunbeam$Law;)I" } : MethodName) ({ cls := "OneSunbeam$LawReader", name := "read", desc := "([BILOneSunbeam$Law;)I" } : MethodName)) ∈ gt := tb_of 564 (by decide +kernel) rfl
set_option maxRecDepth 8000 in
theorem tb_565 : (Cond.code ({ cls := "OneSunbeam$LawReader", name := "read", desc := "([BILOneSunbeam$Law;)I" } : MethodName) prog_6_method_2_code (5 : Nat) (Option.some FieldType.int)) ∈ gt := sg_3 85 rfl rfl
theorem tb_566 : (Cond.methodLink "OneSunbeam$LawReader" (19 : Nat) ({ cls := "java/lang/System", name := "arraycopy", desc := "(Ljava/lang/Object;ILjava/lang/Object;II)V" } : MethodName)) ∈ gt := tb_of 566 (by decide +kernel) rfl
theorem tb_567 : (Cond.static ({ cls := "java/lang/System", name := "arraycopy", desc := "(Ljava/lang/Object;ILjava/lang/Object;II)V" } : MethodName)) ∈ gt := tb_of 567 (by decide +kernel) rfl
theorem tb_568 : (Cond.native ({ cls := "java/lang/System", name := "arraycopy", desc := "(Ljava/lang/Object;ILjava/lang/Object;II)V" } : MethodName)) ∈ gt := tb_of 568 (by decide +kernel) rfl
theorem tb_569 : (Cond.methodLink "OneSunbeam$LawReader" (54 : Nat) ({ cls := "OneSunbeam$Law", name := "clear", desc := "()V" } : MethodName)) ∈ gt := tb_of 569 (by decide +kernel) rfl
theorem tb_570 : (Cond.instanceMethod ({ cls := "OneSunbeam$Law", name := "clear", desc := "()V" } : MethodName)) ∈ gt := tb_of 570 (by decide +kernel) rfl
theorem tb_571 : (Cond.selects "OneSunbeam$Law" ({ cls := "OneSunbeam$Law", name := "clear", desc := "()V" } : MethodName) ({ cls := "OneSunbeam$Law", name := "clear", desc := "()V" } : MethodName)) ∈ gt := tb_of 571 (by decide +kernel) rfl
set_option maxRecDepth 8000 in
theorem tb_572 : (Cond.code ({ cls := "OneSunbeam$Law", name := "clear", desc := "()V" } : MethodName) prog_5_method_2_code (1 : Nat) (Option.none : Option FieldType)) ∈ gt := sg_3 92 rfl rfl
theorem tb_573 : (Cond.methodLink "OneSunbeam$LawReader" (59 : Nat) ({ cls := "OneSunbeam$LawReader", name := "readToken", desc := "()V" } : MethodName)) ∈ gt := tb_of 573 (by decide +kernel) rfl
theorem tb_575 : (Cond.instanceMethod ({ cls := "OneSunbeam$LawReader", name := "readToken", desc := "()V" } : MethodName)) ∈ gt := tb_of 575 (by decide +kernel) rfl
set_option maxRecDepth 8000 in
theorem tb_576 : (Cond.code ({ cls := "OneSunbeam$LawReader", name := "readToken", desc := "()V" } : MethodName) prog_6_method_17_code (1 : Nat) (Option.none : Option FieldType)) ∈ gt := sg_3 96 rfl rfl
theorem tb_577 : (Cond.methodLink "OneSunbeam$LawReader" (132 : Nat) ({ cls := "OneSunbeam$LawReader", name := "byteAt", desc := "(I)I" } : MethodName)) ∈ gt := tb_of 577 (by decide +kernel) rfl
theorem tb_579 : (Cond.instanceMethod ({ cls := "OneSunbeam$LawReader", name := "byteAt", desc := "(I)I" } : MethodName)) ∈ gt := tb_of 579 (by decide +kernel) rfl
set_option maxRecDepth 8000 in
theorem tb_580 : (Cond.code ({ cls := "OneSunbeam$LawReader", name := "byteAt", desc := "(I)I" } : MethodName) prog_6_method_23_code (2 : Nat) (Option.some FieldType.int)) ∈ gt := sg_3 100 rfl rfl
theorem tb_581 : (Cond.methodLink "OneSunbeam$LawReader" (135 : Nat) ({ cls := "OneSunbeam$LawReader", name := "isDigit", desc := "(I)Z" } : MethodName)) ∈ gt := tb_of 581 (by decide +kernel) rfl
theorem tb_582 : (Cond.static ({ cls := "OneSunbeam$LawReader", name := "isDigit", desc := "(I)Z" } : MethodName)) ∈ gt := tb_of 582 (by decide +kernel) rfl
set_option maxRecDepth 8000 in
theorem tb_583 : (Cond.code ({ cls := "OneSunbeam$LawReader", name := "isDigit", desc := "(I)Z" } : MethodName) prog_6_method_24_code (1 : Nat) (Option.some FieldType.boolean)) ∈ gt := sg_3 103 rfl rfl
theorem tb_584 : (Cond.methodLink "OneSunbeam$LawReader" (139 : Nat) ({ cls := "OneSunbeam$LawReader", name := "readNumber", desc := "()V" } : MethodName)) ∈ gt := tb_of 584 (by decide +kernel) rfl
theorem tb_586 : (Cond.instanceMethod ({ cls := "OneSunbeam$LawReader", name := "readNumber", desc := "()V" } : MethodName)) ∈ gt := tb_of 586 (by decide +kernel) rfl
set_option maxRecDepth 8000 in
theorem tb_587 : (Cond.code ({ cls := "OneSunbeam$LawReader", name := "readNumber", desc := "()V" } : MethodName) prog_6_method_18_code (2 : Nat) (Option.none : Option FieldType)) ∈ gt := sg_3 107 rfl rfl
theorem tb_588 : (Cond.methodLink "OneSunbeam$LawReader" (142 : Nat) ({ cls := "OneSunbeam$LawReader", name := "isLetter", desc := "(I)Z" } : MethodName)) ∈ gt := tb_of 588 (by decide +kernel) rfl
theorem tb_589 : (Cond.static ({ cls := "OneSunbeam$LawReader", name := "isLetter", desc := "(I)Z" } : MethodName)) ∈ gt := tb_of 589 (by decide +kernel) rfl
set_option maxRecDepth 8000 in
theorem tb_590 : (Cond.code ({ cls := "OneSunbeam$LawReader", name := "isLetter", desc := "(I)Z" } : MethodName) prog_6_method_25_code (1 : Nat) (Option.some FieldType.boolean)) ∈ gt := sg_3 110 rfl rfl
theorem tb_591 : (Cond.methodLink "OneSunbeam$LawReader" (145 : Nat) ({ cls := "OneSunbeam$LawReader", name := "yardHere", desc := "()I" } : MethodName)) ∈ gt := tb_of 591 (by decide +kernel) rfl
theorem tb_593 : (Cond.instanceMethod ({ cls := "OneSunbeam$LawReader", name := "yardHere", desc := "()I" } : MethodName)) ∈ gt := tb_of 593 (by decide +kernel) rfl
set_option maxRecDepth 8000 in
theorem tb_594 : (Cond.code ({ cls := "OneSunbeam$LawReader", name := "yardHere", desc := "()I" } : MethodName) prog_6_method_19_code (2 : Nat) (Option.some FieldType.int)) ∈ gt := sg_3 114 rfl rfl
theorem tb_595 : (Cond.methodLink "OneSunbeam$LawReader" (149 : Nat) ({ cls := "OneSunbeam$LawReader", name := "wordHere", desc := "()I" } : MethodName)) ∈ gt := tb_of 595 (by decide +kernel) rfl
theorem tb_597 : (Cond.instanceMethod ({ cls := "OneSunbeam$LawReader", name := "wordHere", desc := "()I" } : MethodName)) ∈ gt := tb_of 597 (by decide +kernel) rfl
set_option maxRecDepth 8000 in
theorem tb_598 : (Cond.code ({ cls := "OneSunbeam$LawReader", name := "wordHere", desc := "()I" } : MethodName) prog_6_method_20_code (1 : Nat) (Option.some FieldType.int)) ∈ gt := sg_3 118 rfl rfl
theorem tb_600 : (Cond.methodLink "OneSunbeam$LawReader" (157 : Nat) ({ cls := "OneSunbeam$LawReader", name := "isWord", desc := "(Ljava/lang/String;)Z" } : MethodName)) ∈ gt := tb_of 600 (by decide +kernel) rfl
theorem tb_602 : (Cond.instanceMethod ({ cls := "OneSunbeam$LawReader", name := "isWord", desc := "(Ljava/lang/String;)Z" } : MethodName)) ∈ gt := tb_of 602 (by decide +kernel) rfl
set_option maxRecDepth 8000 in
theorem tb_603 : (Cond.code ({ cls := "OneSunbeam$LawReader", name := "isWord", desc := "(Ljava/lang/String;)Z" } : MethodName) prog_6_method_21_code (3 : Nat) (Option.some FieldType.boolean)) ∈ gt := sg_3 123 rfl rfl
theorem tb_604 : (Cond.methodLink "OneSunbeam$LawReader" (179 : Nat) ({ cls := "java/lang/String", name := "length", desc := "()I" } : MethodName)) ∈ gt := tb_of 604 (by decide +kernel) rfl
theorem tb_605 : (Cond.instanceMethod ({ cls := "java/lang/String", name := "length", desc := "()I" } : MethodName)) ∈ gt := tb_of 605 (by decide +kernel) rfl
theorem tb_606 : (Cond.selects "java/lang/String" ({ cls := "java/lang/String", name := "length", desc := "()I" } : MethodName) ({ cls := "java/lang/String", name := "length", desc := "()I" } : MethodName)) ∈ gt := tb_of 606 (by decide +kernel) rfl
set_option maxRecDepth 8000 in
theorem tb_607 : (Cond.code ({ cls := "java/lang/String", name := "length", desc := "()I" } : MethodName) prog_15_method_54_code (1 : Nat) (Option.some FieldType.int)) ∈ gt := sg_3 127 rfl rfl
theorem tb_608 : (Cond.methodLink "java/lang/String" (335 : Nat) ({ cls := "java/lang/String", name := "coder", desc := "()B" } : MethodName)) ∈ gt := tb_of 608 (by decide +kernel) rfl
theorem tb_609 : (Cond.instanceMethod ({ cls := "java/lang/String", name := "coder", desc := "()B" } : MethodName)) ∈ gt := tb_of 609 (by decide +kernel) rfl
theorem tb_610 : (Cond.selects "java/lang/String" ({ cls := "java/lang/String", name := "coder", desc := "()B" } : MethodName) ({ cls := "java/lang/String", name := "coder", desc := "()B" } : MethodName)) ∈ gt := tb_of 610 (by decide +kernel) rfl
set_option maxRecDepth 8000 in
theorem tb_611 : (Cond.code ({ cls := "java/lang/String", name := "coder", desc := "()B" } : MethodName) prog_15_method_152_code (1 : Nat) (Option.some FieldType.byte)) ∈ gt := sg_3 131 rfl rfl
theorem tb_612 : (Cond.fieldLink "java/lang/String" (38 : Nat) "java/lang/String" "COMPACT_STRINGS" "Z") ∈ gt := tb_of 612 (by decide +kernel) rfl
theorem tb_614 : (Cond.methodLink "OneSunbeam$LawReader" (183 : Nat) ({ cls := "java/lang/String", name := "charAt", desc := "(I)C" } : MethodName)) ∈ gt := tb_of 614 (by decide +kernel) rfl
theorem tb_615 : (Cond.instanceMethod ({ cls := "java/lang/String", name := "charAt", desc := "(I)C" } : MethodName)) ∈ gt := tb_of 615 (by decide +kernel) rfl
theorem tb_616 : (Cond.selects "java/lang/String" ({ cls := "java/lang/String", name := "charAt", desc := "(I)C" } : MethodName) ({ cls := "java/lang/String", name := "charAt", desc := "(I)C" } : MethodName)) ∈ gt := tb_of 616 (by decide +kernel) rfl
set_option maxRecDepth 8000 in
theorem tb_617 : (Cond.code ({ cls := "java/lang/String", name := "charAt", desc := "(I)C" } : MethodName) prog_15_method_56_code (2 : Nat) (Option.some FieldType.char)) ∈ gt := sg_3 137 rfl rfl
theorem tb_618 : (Cond.methodLink "java/lang/String" (492 : Nat) ({ cls := "java/lang/String", name := "isLatin1", desc := "()Z" } : MethodName)) ∈ gt := tb_of 618 (by decide +kernel) rfl
theorem tb_619 : (Cond.instanceMethod ({ cls := "java/lang/String", name := "isLatin1", desc := "()Z" } : MethodName)) ∈ gt := tb_of 619 (by decide +kernel) rfl
theorem tb_620 : (Cond.selects "java/lang/String" ({ cls := "java/lang/String", name := "isLatin1", desc := "()Z" } : MethodName) ({ cls := "java/lang/String", name := "isLatin1", desc := "()Z" } : MethodName)) ∈ gt := tb_of 620 (by decide +kernel) rfl
set_option maxRecDepth 8000 in
theorem tb_621 : (Cond.code ({ cls := "java/lang/String", name := "isLatin1", desc := "()Z" } : MethodName) prog_15_method_154_code (1 : Nat) (Option.some FieldType.boolean)) ∈ gt := sg_3 141 rfl rfl
theorem tb_622 : (Cond.methodLink "java/lang/String" (495 : Nat) ({ cls := "java/lang/StringLatin1", name := "charAt", desc := "([BI)C" } : MethodName)) ∈ gt := tb_of 622 (by decide +kernel) rfl
theorem tb_623 : (Cond.static ({ cls := "java/lang/StringLatin1", name := "charAt", desc := "([BI)C" } : MethodName)) ∈ gt := tb_of 623 (by decide +kernel) rfl
set_option maxRecDepth 8000 in
theorem tb_624 : (Cond.code ({ cls := "java/lang/StringLatin1", name := "charAt", desc := "([BI)C" } : MethodName) prog_16_method_2_code (2 : Nat) (Option.some FieldType.char)) ∈ gt := sg_3 144 rfl rfl
theorem tb_625 : (Cond.methodLink "java/lang/StringLatin1" (9 : Nat) ({ cls := "java/lang/String", name := "checkIndex", desc := "(II)V" } : MethodName)) ∈ gt := tb_of 625 (by decide +kernel) rfl
theorem tb_626 : (Cond.static ({ cls := "java/lang/String", name := "checkIndex", desc := "(II)V" } : MethodName)) ∈ gt := tb_of 626 (by decide +kernel) rfl
set_option maxRecDepth 8000 in
theorem tb_627 : (Cond.code ({ cls := "java/lang/String", name := "checkIndex", desc := "(II)V" } : MethodName) prog_15_method_155_code (2 : Nat) (Option.none : Option FieldType)) ∈ gt := sg_3 147 rfl rfl
theorem tb_628 : (Cond.fieldLink "java/lang/String" (1053 : Nat) "jdk/internal/util/Preconditions" "SIOOBE_FORMATTER" "Ljava/util/function/BiFunction;") ∈ gt := tb_of 628 (by decide +kernel) rfl
theorem tb_630 : (Cond.methodLink "java/lang/String" (1059 : Nat) ({ cls := "jdk/internal/util/Preconditions", name := "checkIndex", desc := "(IILjava/util/function/BiFunction;)I" } : MethodName)) ∈ gt := tb_of 630 (by decide +kernel) rfl
theorem tb_631 : (Cond.static ({ cls := "jdk/internal/util/Preconditions", name := "checkIndex", desc := "(IILjava/util/function/BiFunction;)I" } : MethodName)) ∈ gt := tb_of 631 (by decide +kernel) rfl
set_option maxRecDepth 8000 in
theorem tb_632 : (Cond.code ({ cls := "jdk/internal/util/Preconditions", name := "checkIndex", desc := "(IILjava/util/function/BiFunction;)I" } : MethodName) prog_20_method_11_code (3 : Nat) (Option.some FieldType.int)) ∈ gt := sg_3 152 rfl rfl
theorem tb_633 : (Cond.methodLink "java/lang/String" (498 : Nat) ({ cls := "java/lang/StringUTF16", name := "charAt", desc := "([BI)C" } : MethodName)) ∈ gt := tb_of 633 (by decide +kernel) rfl
theorem tb_634 : (Cond.static ({ cls := "java/lang/StringUTF16", name := "charAt", desc := "([BI)C" } : MethodName)) ∈ gt := tb_of 634 (by decide +kernel) rfl
set_option maxRecDepth 8000 in
theorem tb_635 : (Cond.code ({ cls := "java/lang/StringUTF16", name := "charAt", desc := "([BI)C" } : MethodName) prog_17_method_83_code (2 : Nat) (Option.some FieldType.char)) ∈ gt := sg_3 155 rfl rfl
theorem tb_636 : (Cond.methodLink "java/lang/StringUTF16" (67 : Nat) ({ cls := "java/lang/StringUTF16", name := "checkIndex", desc := "(I[B)V" } : MethodName)) ∈ gt := tb_of 636 (by decide +kernel) rfl
theorem tb_637 : (Cond.static ({ cls := "java/lang/StringUTF16", name := "checkIndex", desc := "(I[B)V" } : MethodName)) ∈ gt := tb_of 637 (by decide +kernel) rfl
set_option maxRecDepth 8000 in
theorem tb_638 : (Cond.code ({ cls := "java/lang/StringUTF16", name := "checkIndex", desc := "(I[B)V" } : MethodName) prog_17_method_91_code (2 : Nat) (Option.none : Option FieldType)) ∈ gt := sg_3 158 rfl rfl
theorem tb_639 : (Cond.methodLink "java/lang/StringUTF16" (48 : Nat) ({ cls := "java/lang/StringUTF16", name := "length", desc := "([B)I" } : MethodName)) ∈ gt := tb_of 639 (by decide +kernel) rfl
theorem tb_640 : (Cond.static ({ cls := "java/lang/StringUTF16", name := "length", desc := "([B)I" } : MethodName)) ∈ gt := tb_of 640 (by decide +kernel) rfl
set_option maxRecDepth 8000 in
theorem tb_641 : (Cond.code ({ cls := "java/lang/StringUTF16", name := "length", desc := "([B)I" } : MethodName) prog_17_method_6_code (1 : Nat) (Option.some FieldType.int)) ∈ gt := sg_3 161 rfl rfl
theorem tb_642 : (Cond.methodLink "java/lang/StringUTF16" (414 : Nat) ({ cls := "java/lang/String", name := "checkIndex", desc := "(II)V" } : MethodName)) ∈ gt := tb_of 642 (by decide +kernel) rfl
theorem tb_643 : (Cond.methodLink "java/lang/StringUTF16" (71 : Nat) ({ cls := "java/lang/StringUTF16", name := "getChar", desc := "([BI)C" } : MethodName)) ∈ gt := tb_of 643 (by decide +kernel) rfl
theorem tb_644 : (Cond.static ({ cls := "java/lang/StringUTF16", name := "getChar", desc := "([BI)C" } : MethodName)) ∈ gt := tb_of 644 (by decide +kernel) rfl
set_option maxRecDepth 8000 in
theorem tb_645 : (Cond.code ({ cls := "java/lang/StringUTF16", name := "getChar", desc := "([BI)C" } : MethodName) prog_17_method_5_code (2 : Nat) (Option.some FieldType.char)) ∈ gt := sg_3 165 rfl rfl
theorem tb_646 : (Cond.fieldLink "java/lang/StringUTF16" (44 : Nat) "java/lang/StringUTF16" "$assertionsDisabled" "Z") ∈ gt := tb_of 646 (by decide +kernel) rfl
theorem tb_648 : (Cond.fieldLink "java/lang/StringUTF16" (59 : Nat) "java/lang/StringUTF16" "HI_BYTE_SHIFT" "I") ∈ gt := tb_of 648 (by decide +kernel) rfl
theorem tb_650 : (Cond.fieldLink "java/lang/StringUTF16" (63 : Nat) "java/lang/StringUTF16" "LO_BYTE_SHIFT" "I") ∈ gt := tb_of 650 (by decide +kernel) rfl
theorem tb_661 : (Cond.methodLink "OneSunbeam$LawReader" (152 : Nat) ({ cls := "OneSunbeam$LawReader", name := "signHere", desc := "()I" } : MethodName)) ∈ gt := tb_of 661 (by decide +kernel) rfl
theorem tb_663 : (Cond.instanceMethod ({ cls := "OneSunbeam$LawReader", name := "signHere", desc := "()I" } : MethodName)) ∈ gt := tb_of 663 (by decide +kernel) rfl
set_option maxRecDepth 8000 in
theorem tb_664 : (Cond.code ({ cls := "OneSunbeam$LawReader", name := "signHere", desc := "()I" } : MethodName) prog_6_method_22_code (2 : Nat) (Option.some FieldType.int)) ∈ gt := sg_3 184 rfl rfl
theorem tb_665 : (Cond.methodLink "OneSunbeam$LawReader" (62 : Nat) ({ cls := "OneSunbeam$LawReader", name := "takeToken", desc := "()V" } : MethodName)) ∈ gt := tb_of 665 (by decide +kernel) rfl
theorem tb_667 : (Cond.instanceMethod ({ cls := "OneSunbeam$LawReader", name := "takeToken", desc := "()V" } : MethodName)) ∈ gt := tb_of 667 (by decide +kernel) rfl
set_option maxRecDepth 8000 in
theorem tb_668 : (Cond.code ({ cls := "OneSunbeam$LawReader", name := "takeToken", desc := "()V" } : MethodName) prog_6_method_4_code (1 : Nat) (Option.none : Option FieldType)) ∈ gt := sg_3 188 rfl rfl
theorem tb_669 : (Cond.methodLink "OneSunbeam$LawReader" (68 : Nat) ({ cls := "OneSunbeam$LawReader", name := "takeTurn", desc := "()V" } : MethodName)) ∈ gt := tb_of 669 (by decide +kernel) rfl
theorem tb_671 : (Cond.instanceMethod ({ cls := "OneSunbeam$LawReader", name := "takeTurn", desc := "()V" } : MethodName)) ∈ gt := tb_of 671 (by decide +kernel) rfl
set_option maxRecDepth 8000 in
theorem tb_672 : (Cond.code ({ cls := "OneSunbeam$LawReader", name := "takeTurn", desc := "()V" } : MethodName) prog_6_method_5_code (1 : Nat) (Option.none : Option FieldType)) ∈ gt := sg_3 192 rfl rfl
theorem tb_673 : (Cond.methodLink "OneSunbeam$LawReader" (86 : Nat) ({ cls := "OneSunbeam$LawReader", name := "fail", desc := "(I)V" } : MethodName)) ∈ gt := tb_of 673 (by decide +kernel) rfl
theorem tb_675 : (Cond.instanceMethod ({ cls := "OneSunbeam$LawReader", name := "fail", desc := "(I)V" } : MethodName)) ∈ gt := tb_of 675 (by decide +kernel) rfl
set_option maxRecDepth 8000 in
theorem tb_676 : (Cond.code ({ cls := "OneSunbeam$LawReader", name := "fail", desc := "(I)V" } : MethodName) prog_6_method_3_code (2 : Nat) (Option.none : Option FieldType)) ∈ gt := sg_3 196 rfl rfl
theorem tb_677 : (Cond.methodLink "OneSunbeam$LawReader" (71 : Nat) ({ cls := "OneSunbeam$LawReader", name := "takeMirror", desc := "()V" } : MethodName)) ∈ gt := tb_of 677 (by decide +kernel) rfl
theorem tb_679 : (Cond.instanceMethod ({ cls := "OneSunbeam$LawReader", name := "takeMirror", desc := "()V" } : MethodName)) ∈ gt := tb_of 679 (by decide +kernel) rfl
set_option maxRecDepth 8000 in
theorem tb_680 : (Cond.code ({ cls := "OneSunbeam$LawReader", name := "takeMirror", desc := "()V" } : MethodName) prog_6_method_6_code (1 : Nat) (Option.none : Option FieldType)) ∈ gt := sg_3 200 rfl rfl
theorem tb_681 : (Cond.methodLink "OneSunbeam$LawReader" (93 : Nat) ({ cls := "OneSunbeam$Law", name := "beginClause", desc := "(I)V" } : MethodName)) ∈ gt := tb_of 681 (by decide +kernel) rfl
theorem tb_682 : (Cond.instanceMethod ({ cls := "OneSunbeam$Law", name := "beginClause", desc := "(I)V" } : MethodName)) ∈ gt := tb_of 682 (by decide +kernel) rfl
theorem tb_683 : (Cond.selects "OneSunbeam$Law" ({ cls := "OneSunbeam$Law", name := "beginClause", desc := "(I)V" } : MethodName) ({ cls := "OneSunbeam$Law", name := "beginClause", desc := "(I)V" } : MethodName)) ∈ gt := tb_of 683 (by decide +kernel) rfl
set_option maxRecDepth 8000 in
theorem tb_684 : (Cond.code ({ cls := "OneSunbeam$Law", name := "beginClause", desc := "(I)V" } : MethodName) prog_5_method_4_code (2 : Nat) (Option.none : Option FieldType)) ∈ gt := sg_3 204 rfl rfl
theorem tb_685 : (Cond.methodLink "OneSunbeam$LawReader" (74 : Nat) ({ cls := "OneSunbeam$LawReader", name := "takeFact", desc := "()V" } : MethodName)) ∈ gt := tb_of 685 (by decide +kernel) rfl
theorem tb_687 : (Cond.instanceMethod ({ cls := "OneSunbeam$LawReader", name := "takeFact", desc := "()V" } : MethodName)) ∈ gt := tb_of 687 (by decide +kernel) rfl
set_option maxRecDepth 8000 in
theorem tb_688 : (Cond.code ({ cls := "OneSunbeam$LawReader", name := "takeFact", desc := "()V" } : MethodName) prog_6_method_7_code (1 : Nat) (Option.none : Option FieldType)) ∈ gt := sg_3 208 rfl rfl
theorem tb_689 : (Cond.methodLink "OneSunbeam$LawReader" (77 : Nat) ({ cls := "OneSunbeam$LawReader", name := "takeValue", desc := "()V" } : MethodName)) ∈ gt := tb_of 689 (by decide +kernel) rfl
theorem tb_691 : (Cond.instanceMethod ({ cls := "OneSunbeam$LawReader", name := "takeValue", desc := "()V" } : MethodName)) ∈ gt := tb_of 691 (by decide +kernel) rfl
set_option maxRecDepth 8000 in
theorem tb_692 : (Cond.code ({ cls := "OneSunbeam$LawReader", name := "takeValue", desc := "()V" } : MethodName) prog_6_method_8_code (1 : Nat) (Option.none : Option FieldType)) ∈ gt := sg_3 212 rfl rfl
theorem tb_693 : (Cond.methodLink "OneSunbeam$LawReader" (102 : Nat) ({ cls := "OneSunbeam$LawReader", name := "countsOneMore", desc := "()Z" } : MethodName)) ∈ gt := tb_of 693 (by decide +kernel) rfl
theorem tb_695 : (Cond.instanceMethod ({ cls := "OneSunbeam$LawReader", name := "countsOneMore", desc := "()Z" } : MethodName)) ∈ gt := tb_of 695 (by decide +kernel) rfl
set_option maxRecDepth 8000 in
theorem tb_696 : (Cond.code ({ cls := "OneSunbeam$LawReader", name := "countsOneMore", desc := "()Z" } : MethodName) prog_6_method_13_code (1 : Nat) (Option.some FieldType.boolean)) ∈ gt := sg_3 216 rfl rfl
theorem tb_697 : (Cond.methodLink "OneSunbeam$LawReader" (106 : Nat) ({ cls := "OneSunbeam$Law", name := "add", desc := "(I)V" } : MethodName)) ∈ gt := tb_of 697 (by decide +kernel) rfl
theorem tb_698 : (Cond.instanceMethod ({ cls := "OneSunbeam$Law", name := "add", desc := "(I)V" } : MethodName)) ∈ gt := tb_of 698 (by decide +kernel) rfl
theorem tb_699 : (Cond.selects "OneSunbeam$Law" ({ cls := "OneSunbeam$Law", name := "add", desc := "(I)V" } : MethodName) ({ cls := "OneSunbeam$Law", name := "add", desc := "(I)V" } : MethodName)) ∈ gt := tb_of 699 (by decide +kernel) rfl
set_option maxRecDepth 8000 in
theorem tb_700 : (Cond.code ({ cls := "OneSunbeam$Law", name := "add", desc := "(I)V" } : MethodName) prog_5_method_3_code (2 : Nat) (Option.none : Option FieldType)) ∈ gt := sg_3 220 rfl rfl
theorem tb_701 : (Cond.methodLink "OneSunbeam$LawReader" (99 : Nat) ({ cls := "OneSunbeam$LawReader", name := "push", desc := "(I)V" } : MethodName)) ∈ gt := tb_of 701 (by decide +kernel) rfl
theorem tb_703 : (Cond.instanceMethod ({ cls := "OneSunbeam$LawReader", name := "push", desc := "(I)V" } : MethodName)) ∈ gt := tb_of 703 (by decide +kernel) rfl
set_option maxRecDepth 8000 in
theorem tb_704 : (Cond.code ({ cls := "OneSunbeam$LawReader", name := "push", desc := "(I)V" } : MethodName) prog_6_method_14_code (2 : Nat) (Option.none : Option FieldType)) ∈ gt := sg_3 224 rfl rfl
theorem tb_705 : (Cond.methodLink "OneSunbeam$LawReader" (80 : Nat) ({ cls := "OneSunbeam$LawReader", name := "takeBehind", desc := "()V" } : MethodName)) ∈ gt := tb_of 705 (by decide +kernel) rfl
theorem tb_707 : (Cond.instanceMethod ({ cls := "OneSunbeam$LawReader", name := "takeBehind", desc := "()V" } : MethodName)) ∈ gt := tb_of 707 (by decide +kernel) rfl
set_option maxRecDepth 8000 in
theorem tb_708 : (Cond.code ({ cls := "OneSunbeam$LawReader", name := "takeBehind", desc := "()V" } : MethodName) prog_6_method_9_code (2 : Nat) (Option.none : Option FieldType)) ∈ gt := sg_3 228 rfl rfl
theorem tb_709 : (Cond.methodLink "OneSunbeam$LawReader" (109 : Nat) ({ cls := "OneSunbeam$LawReader", name := "takeSign", desc := "(II)V" } : MethodName)) ∈ gt := tb_of 709 (by decide +kernel) rfl
theorem tb_711 : (Cond.instanceMethod ({ cls := "OneSunbeam$LawReader", name := "takeSign", desc := "(II)V" } : MethodName)) ∈ gt := tb_of 711 (by decide +kernel) rfl
set_option maxRecDepth 8000 in
theorem tb_712 : (Cond.code ({ cls := "OneSunbeam$LawReader", name := "takeSign", desc := "(II)V" } : MethodName) prog_6_method_10_code (3 : Nat) (Option.none : Option FieldType)) ∈ gt := sg_3 232 rfl rfl
theorem tb_713 : (Cond.methodLink "OneSunbeam$LawReader" (125 : Nat) ({ cls := "OneSunbeam$LawReader", name := "rankOf", desc := "(I)I" } : MethodName)) ∈ gt := tb_of 713 (by decide +kernel) rfl
theorem tb_714 : (Cond.static ({ cls := "OneSunbeam$LawReader", name := "rankOf", desc := "(I)I" } : MethodName)) ∈ gt := tb_of 714 (by decide +kernel) rfl
set_option maxRecDepth 8000 in
theorem tb_715 : (Cond.code ({ cls := "OneSunbeam$LawReader", name := "rankOf", desc := "(I)I" } : MethodName) prog_6_method_16_code (1 : Nat) (Option.some FieldType.int)) ∈ gt := sg_3 235 rfl rfl
theorem tb_716 : (Cond.methodLink "OneSunbeam$LawReader" (116 : Nat) ({ cls := "OneSunbeam$LawReader", name := "popDownTo", desc := "(I)V" } : MethodName)) ∈ gt := tb_of 716 (by decide +kernel) rfl
theorem tb_718 : (Cond.instanceMethod ({ cls := "OneSunbeam$LawReader", name := "popDownTo", desc := "(I)V" } : MethodName)) ∈ gt := tb_of 718 (by decide +kernel) rfl
set_option maxRecDepth 8000 in
theorem tb_719 : (Cond.code ({ cls := "OneSunbeam$LawReader", name := "popDownTo", desc := "(I)V" } : MethodName) prog_6_method_15_code (2 : Nat) (Option.none : Option FieldType)) ∈ gt := sg_3 239 rfl rfl
theorem tb_720 : (Cond.methodLink "OneSunbeam$LawReader" (113 : Nat) ({ cls := "OneSunbeam$LawReader", name := "closeBracket", desc := "()V" } : MethodName)) ∈ gt := tb_of 720 (by decide +kernel) rfl
theorem tb_722 : (Cond.instanceMethod ({ cls := "OneSunbeam$LawReader", name := "closeBracket", desc := "()V" } : MethodName)) ∈ gt := tb_of 722 (by decide +kernel) rfl
set_option maxRecDepth 8000 in
theorem tb_723 : (Cond.code ({ cls := "OneSunbeam$LawReader", name := "closeBracket", desc := "()V" } : MethodName) prog_6_method_11_code (1 : Nat) (Option.none : Option FieldType)) ∈ gt := sg_4 3 rfl rfl
theorem tb_724 : (Cond.methodLink "OneSunbeam$LawReader" (119 : Nat) ({ cls := "OneSunbeam$Law", name := "beginTest", desc := "()V" } : MethodName)) ∈ gt := tb_of 724 (by decide +kernel) rfl
theorem tb_725 : (Cond.instanceMethod ({ cls := "OneSunbeam$Law", name := "beginTest", desc := "()V" } : MethodName)) ∈ gt := tb_of 725 (by decide +kernel) rfl
theorem tb_726 : (Cond.selects "OneSunbeam$Law" ({ cls := "OneSunbeam$Law", name := "beginTest", desc := "()V" } : MethodName) ({ cls := "OneSunbeam$Law", name := "beginTest", desc := "()V" } : MethodName)) ∈ gt := tb_of 726 (by decide +kernel) rfl
set_option maxRecDepth 8000 in
theorem tb_727 : (Cond.code ({ cls := "OneSunbeam$Law", name := "beginTest", desc := "()V" } : MethodName) prog_5_method_5_code (1 : Nat) (Option.none : Option FieldType)) ∈ gt := sg_4 7 rfl rfl
theorem tb_728 : (Cond.methodLink "OneSunbeam$LawReader" (122 : Nat) ({ cls := "OneSunbeam$LawReader", name := "takeClauseEnd", desc := "()V" } : MethodName)) ∈ gt := tb_of 728 (by decide +kernel) rfl
theorem tb_730 : (Cond.instanceMethod ({ cls := "OneSunbeam$LawReader", name := "takeClauseEnd", desc := "()V" } : MethodName)) ∈ gt := tb_of 730 (by decide +kernel) rfl
set_option maxRecDepth 8000 in
theorem tb_731 : (Cond.code ({ cls := "OneSunbeam$LawReader", name := "takeClauseEnd", desc := "()V" } : MethodName) prog_6_method_12_code (1 : Nat) (Option.none : Option FieldType)) ∈ gt := sg_4 11 rfl rfl
theorem tb_732 : (Cond.methodLink "OneSunbeam$LawReader" (129 : Nat) ({ cls := "OneSunbeam$Law", name := "endClause", desc := "()V" } : MethodName)) ∈ gt := tb_of 732 (by decide +kernel) rfl
theorem tb_733 : (Cond.instanceMethod ({ cls := "OneSunbeam$Law", name := "endClause", desc := "()V" } : MethodName)) ∈ gt := tb_of 733 (by decide +kernel) rfl
theorem tb_734 : (Cond.selects "OneSunbeam$Law" ({ cls := "OneSunbeam$Law", name := "endClause", desc := "()V" } : MethodName) ({ cls := "OneSunbeam$Law", name := "endClause", desc := "()V" } : MethodName)) ∈ gt := tb_of 734 (by decide +kernel) rfl
set_option maxRecDepth 8000 in
theorem tb_735 : (Cond.code ({ cls := "OneSunbeam$Law", name := "endClause", desc := "()V" } : MethodName) prog_5_method_6_code (1 : Nat) (Option.none : Option FieldType)) ∈ gt := sg_4 15 rfl rfl
theorem tb_736 : (Cond.methodLink "OneSunbeamLaw" (70 : Nat) ({ cls := "OneSunbeam", name := "days", desc := "(II)I" } : MethodName)) ∈ gt := tb_of 736 (by decide +kernel) rfl
theorem tb_737 : (Cond.instanceMethod ({ cls := "OneSunbeam", name := "days", desc := "(II)I" } : MethodName)) ∈ gt := tb_of 737 (by decide +kernel) rfl
theorem tb_738 : (Cond.selects "OneSunbeam" ({ cls := "OneSunbeam", name := "days", desc := "(II)I" } : MethodName) ({ cls := "OneSunbeam", name := "days", desc := "(II)I" } : MethodName)) ∈ gt := tb_of 738 (by decide +kernel) rfl
set_option maxRecDepth 8000 in
theorem tb_739 : (Cond.code ({ cls := "OneSunbeam", name := "days", desc := "(II)I" } : MethodName) prog_1_method_14_code (5 : Nat) (Option.some FieldType.int)) ∈ gt := sg_4 19 rfl rfl
theorem tb_740 : (Cond.methodLink "OneSunbeam" (186 : Nat) ({ cls := "OneSunbeam", name := "findLaw", desc := "(I)LOneSunbeam$Law;" } : MethodName)) ∈ gt := tb_of 740 (by decide +kernel) rfl
theorem tb_742 : (Cond.instanceMethod ({ cls := "OneSunbeam", name := "findLaw", desc := "(I)LOneSunbeam$Law;" } : MethodName)) ∈ gt := tb_of 742 (by decide +kernel) rfl
set_option maxRecDepth 8000 in
theorem tb_743 : (Cond.code ({ cls := "OneSunbeam", name := "findLaw", desc := "(I)LOneSunbeam$Law;" } : MethodName) prog_1_method_40_code (2 : Nat) (Option.some (FieldType.object "OneSunbeam$Law"))) ∈ gt := sg_4 23 rfl rfl
theorem tb_744 : (Cond.methodLink "OneSunbeam" (193 : Nat) ({ cls := "OneSunbeam$Keepers", name := "passDay", desc := "(LOneSunbeam$Town;LOneSunbeam$Law;Z)I" } : MethodName)) ∈ gt := tb_of 744 (by decide +kernel) rfl
theorem tb_745 : (Cond.instanceMethod ({ cls := "OneSunbeam$Keepers", name := "passDay", desc := "(LOneSunbeam$Town;LOneSunbeam$Law;Z)I" } : MethodName)) ∈ gt := tb_of 745 (by decide +kernel) rfl
theorem tb_746 : (Cond.selects "OneSunbeam$Keepers" ({ cls := "OneSunbeam$Keepers", name := "passDay", desc := "(LOneSunbeam$Town;LOneSunbeam$Law;Z)I" } : MethodName) ({ cls := "OneSunbeam$Keepers", name := "passDay", desc := "(LOneSunbeam$Town;LOneSunbeam$Law;Z)I" } : MethodName)) ∈ gt := tb_of 746 (by decide +kernel) rfl
set_option maxRecDepth 8000 in
theorem tb_747 : (Cond.code ({ cls := "OneSunbeam$Keepers", name := "passDay", desc := "(LOneSunbeam$Town;LOneSunbeam$Law;Z)I" } : MethodName) prog_4_method_2_code (6 : Nat) (Option.some FieldType.int)) ∈ gt := sg_4 27 rfl rfl
theorem tb_748 : (Cond.methodLink "OneSunbeam$Keepers" (23 : Nat) ({ cls := "java/util/Arrays", name := "fill", desc := "([II)V" } : MethodName)) ∈ gt := tb_of 748 (by decide +kernel) rfl
theorem tb_749 : (Cond.methodLink "OneSunbeam$Keepers" (33 : Nat) ({ cls := "OneSunbeam$Keepers", name := "turnMirrors", desc := "(LOneSunbeam$Town;LOneSunbeam$Law;)V" } : MethodName)) ∈ gt := tb_of 749 (by decide +kernel) rfl
theorem tb_751 : (Cond.instanceMethod ({ cls := "OneSunbeam$Keepers", name := "turnMirrors", desc := "(LOneSunbeam$Town;LOneSunbeam$Law;)V" } : MethodName)) ∈ gt := tb_of 751 (by decide +kernel) rfl
set_option maxRecDepth 8000 in
theorem tb_752 : (Cond.code ({ cls := "OneSunbeam$Keepers", name := "turnMirrors", desc := "(LOneSunbeam$Town;LOneSunbeam$Law;)V" } : MethodName) prog_4_method_3_code (8 : Nat) (Option.none : Option FieldType)) ∈ gt := sg_4 32 rfl rfl
theorem tb_753 : (Cond.methodLink "OneSunbeam$Keepers" (71 : Nat) ({ cls := "OneSunbeam$Town", name := "hasMirror", desc := "(I)Z" } : MethodName)) ∈ gt := tb_of 753 (by decide +kernel) rfl
theorem tb_754 : (Cond.methodLink "OneSunbeam$Keepers" (74 : Nat) ({ cls := "OneSunbeam$Keepers", name := "holds", desc := "(LOneSunbeam$Town;LOneSunbeam$Law;I)Z" } : MethodName)) ∈ gt := tb_of 754 (by decide +kernel) rfl
theorem tb_756 : (Cond.instanceMethod ({ cls := "OneSunbeam$Keepers", name := "holds", desc := "(LOneSunbeam$Town;LOneSunbeam$Law;I)Z" } : MethodName)) ∈ gt := tb_of 756 (by decide +kernel) rfl
set_option maxRecDepth 8000 in
theorem tb_757 : (Cond.code ({ cls := "OneSunbeam$Keepers", name := "holds", desc := "(LOneSunbeam$Town;LOneSunbeam$Law;I)Z" } : MethodName) prog_4_method_5_code (6 : Nat) (Option.some FieldType.boolean)) ∈ gt := sg_4 37 rfl rfl
theorem tb_758 : (Cond.methodLink "OneSunbeam$Keepers" (84 : Nat) ({ cls := "OneSunbeam$Keepers", name := "valueOf", desc := "(LOneSunbeam$Town;LOneSunbeam$Law;III)J" } : MethodName)) ∈ gt := tb_of 758 (by decide +kernel) rfl
theorem tb_760 : (Cond.instanceMethod ({ cls := "OneSunbeam$Keepers", name := "valueOf", desc := "(LOneSunbeam$Town;LOneSunbeam$Law;III)J" } : MethodName)) ∈ gt := tb_of 760 (by decide +kernel) rfl
set_option maxRecDepth 8000 in
theorem tb_761 : (Cond.code ({ cls := "OneSunbeam$Keepers", name := "valueOf", desc := "(LOneSunbeam$Town;LOneSunbeam$Law;III)J" } : MethodName) prog_4_method_6_code (9 : Nat) (Option.some FieldType.long)) ∈ gt := sg_4 41 rfl rfl
theorem tb_762 : (Cond.methodLink "OneSunbeam$Keepers" (103 : Nat) ({ cls := "OneSunbeam$Keepers", name := "wordValue", desc := "(LOneSunbeam$Town;II)J" } : MethodName)) ∈ gt := tb_of 762 (by decide +kernel) rfl
theorem tb_764 : (Cond.instanceMethod ({ cls := "OneSunbeam$Keepers", name := "wordValue", desc := "(LOneSunbeam$Town;II)J" } : MethodName)) ∈ gt := tb_of 764 (by decide +kernel) rfl
set_option maxRecDepth 8000 in
theorem tb_765 : (Cond.code ({ cls := "OneSunbeam$Keepers", name := "wordValue", desc := "(LOneSunbeam$Town;II)J" } : MethodName) prog_4_method_7_code (4 : Nat) (Option.some FieldType.long)) ∈ gt := sg_4 45 rfl rfl
theorem tb_766 : (Cond.methodLink "OneSunbeam$Keepers" (117 : Nat) ({ cls := "OneSunbeam$Town", name := "ofMirror", desc := "(II)I" } : MethodName)) ∈ gt := tb_of 766 (by decide +kernel) rfl
theorem tb_767 : (Cond.methodLink "OneSunbeam$Keepers" (37 : Nat) ({ cls := "OneSunbeam$Town", name := "isLit", desc := "(I)Z" } : MethodName)) ∈ gt := tb_of 767 (by decide +kernel) rfl
theorem tb_768 : (Cond.instanceMethod ({ cls := "OneSunbeam$Town", name := "isLit", desc := "(I)Z" } : MethodName)) ∈ gt := tb_of 768 (by decide +kernel) rfl
theorem tb_769 : (Cond.selects "OneSunbeam$Town" ({ cls := "OneSunbeam$Town", name := "isLit", desc := "(I)Z" } : MethodName) ({ cls := "OneSunbeam$Town", name := "isLit", desc := "(I)Z" } : MethodName)) ∈ gt := tb_of 769 (by decide +kernel) rfl
set_option maxRecDepth 8000 in
theorem tb_770 : (Cond.code ({ cls := "OneSunbeam$Town", name := "isLit", desc := "(I)Z" } : MethodName) prog_10_method_10_code (2 : Nat) (Option.some FieldType.boolean)) ∈ gt := sg_4 50 rfl rfl
theorem tb_771 : (Cond.methodLink "OneSunbeam$Keepers" (121 : Nat) ({ cls := "OneSunbeam$Town", name := "wayOf", desc := "(I)I" } : MethodName)) ∈ gt := tb_of 771 (by decide +kernel) rfl
theorem tb_772 : (Cond.instanceMethod ({ cls := "OneSunbeam$Town", name := "wayOf", desc := "(I)I" } : MethodName)) ∈ gt := tb_of 772 (by decide +kernel) rfl
theorem tb_773 : (Cond.selects "OneSunbeam$Town" ({ cls := "OneSunbeam$Town", name := "wayOf", desc := "(I)I" } : MethodName) ({ cls := "OneSunbeam$Town", name := "wayOf", desc := "(I)I" } : MethodName)) ∈ gt := tb_of 773 (by decide +kernel) rfl
set_option maxRecDepth 8000 in
theorem tb_774 : (Cond.code ({ cls := "OneSunbeam$Town", name := "wayOf", desc := "(I)I" } : MethodName) prog_10_method_11_code (2 : Nat) (Option.some FieldType.int)) ∈ gt := sg_4 54 rfl rfl
theorem tb_775 : (Cond.constantLong "OneSunbeam$Keepers" (125 : Nat) (8 : Int64)) ∈ gt := tb_of 775 (by decide +kernel) rfl
theorem tb_776 : (Cond.methodLink "OneSunbeam$Keepers" (127 : Nat) ({ cls := "OneSunbeam$Keepers", name := "gotByYard", desc := "(I)J" } : MethodName)) ∈ gt := tb_of 776 (by decide +kernel) rfl
theorem tb_778 : (Cond.instanceMethod ({ cls := "OneSunbeam$Keepers", name := "gotByYard", desc := "(I)J" } : MethodName)) ∈ gt := tb_of 778 (by decide +kernel) rfl
set_option maxRecDepth 8000 in
theorem tb_779 : (Cond.code ({ cls := "OneSunbeam$Keepers", name := "gotByYard", desc := "(I)J" } : MethodName) prog_4_method_8_code (2 : Nat) (Option.some FieldType.long)) ∈ gt := sg_4 59 rfl rfl
theorem tb_781 : (Cond.methodLink "OneSunbeam$Keepers" (107 : Nat) ({ cls := "OneSunbeam$Keepers", name := "join", desc := "(IJJ)J" } : MethodName)) ∈ gt := tb_of 781 (by decide +kernel) rfl
theorem tb_782 : (Cond.static ({ cls := "OneSunbeam$Keepers", name := "join", desc := "(IJJ)J" } : MethodName)) ∈ gt := tb_of 782 (by decide +kernel) rfl
set_option maxRecDepth 8000 in
theorem tb_783 : (Cond.code ({ cls := "OneSunbeam$Keepers", name := "join", desc := "(IJJ)J" } : MethodName) prog_4_method_9_code (5 : Nat) (Option.some FieldType.long)) ∈ gt := sg_4 63 rfl rfl
theorem tb_784 : (Cond.methodLink "OneSunbeam$Keepers" (135 : Nat) ({ cls := "OneSunbeam$Keepers", name := "joinTruth", desc := "(IJJ)Z" } : MethodName)) ∈ gt := tb_of 784 (by decide +kernel) rfl
theorem tb_785 : (Cond.static ({ cls := "OneSunbeam$Keepers", name := "joinTruth", desc := "(IJJ)Z" } : MethodName)) ∈ gt := tb_of 785 (by decide +kernel) rfl
set_option maxRecDepth 8000 in
theorem tb_786 : (Cond.code ({ cls := "OneSunbeam$Keepers", name := "joinTruth", desc := "(IJJ)Z" } : MethodName) prog_4_method_10_code (5 : Nat) (Option.some FieldType.boolean)) ∈ gt := sg_4 66 rfl rfl
theorem tb_787 : (Cond.constantLong "OneSunbeam$Keepers" (88 : Nat) (7 : Int64)) ∈ gt := tb_of 787 (by decide +kernel) rfl
theorem tb_788 : (Cond.methodLink "OneSunbeam$Keepers" (90 : Nat) ({ cls := "OneSunbeam$Town", name := "turnTowards", desc := "(II)V" } : MethodName)) ∈ gt := tb_of 788 (by decide +kernel) rfl
theorem tb_789 : (Cond.instanceMethod ({ cls := "OneSunbeam$Town", name := "turnTowards", desc := "(II)V" } : MethodName)) ∈ gt := tb_of 789 (by decide +kernel) rfl
theorem tb_790 : (Cond.selects "OneSunbeam$Town" ({ cls := "OneSunbeam$Town", name := "turnTowards", desc := "(II)V" } : MethodName) ({ cls := "OneSunbeam$Town", name := "turnTowards", desc := "(II)V" } : MethodName)) ∈ gt := tb_of 790 (by decide +kernel) rfl
set_option maxRecDepth 8000 in
theorem tb_791 : (Cond.code ({ cls := "OneSunbeam$Town", name := "turnTowards", desc := "(II)V" } : MethodName) prog_10_method_27_code (7 : Nat) (Option.none : Option FieldType)) ∈ gt := sg_4 71 rfl rfl
theorem tb_792 : (Cond.methodLink "OneSunbeam$Town" (97 : Nat) ({ cls := "OneSunbeam$Town", name := "ofMirror", desc := "(II)I" } : MethodName)) ∈ gt := tb_of 792 (by decide +kernel) rfl
theorem tb_793 : (Cond.methodLink "OneSunbeam$Town" (100 : Nat) ({ cls := "java/lang/Math", name := "min", desc := "(II)I" } : MethodName)) ∈ gt := tb_of 793 (by decide +kernel) rfl
theorem tb_794 : (Cond.static ({ cls := "java/lang/Math", name := "min", desc := "(II)I" } : MethodName)) ∈ gt := tb_of 794 (by decide +kernel) rfl
set_option maxRecDepth 8000 in
theorem tb_795 : (Cond.code ({ cls := "java/lang/Math", name := "min", desc := "(II)I" } : MethodName) prog_14_method_69_code (2 : Nat) (Option.some FieldType.int)) ∈ gt := sg_4 75 rfl rfl
theorem tb_796 : (Cond.methodLink "OneSunbeam$Keepers" (43 : Nat) ({ cls := "OneSunbeam$Beams", name := "shineWatched", desc := "(LOneSunbeam$Town;I)V" } : MethodName)) ∈ gt := tb_of 796 (by decide +kernel) rfl
theorem tb_797 : (Cond.instanceMethod ({ cls := "OneSunbeam$Beams", name := "shineWatched", desc := "(LOneSunbeam$Town;I)V" } : MethodName)) ∈ gt := tb_of 797 (by decide +kernel) rfl
theorem tb_798 : (Cond.selects "OneSunbeam$Beams" ({ cls := "OneSunbeam$Beams", name := "shineWatched", desc := "(LOneSunbeam$Town;I)V" } : MethodName) ({ cls := "OneSunbeam$Beams", name := "shineWatched", desc := "(LOneSunbeam$Town;I)V" } : MethodName)) ∈ gt := tb_of 798 (by decide +kernel) rfl
set_option maxRecDepth 8000 in
theorem tb_799 : (Cond.code ({ cls := "OneSunbeam$Beams", name := "shineWatched", desc := "(LOneSunbeam$Town;I)V" } : MethodName) prog_3_method_3_code (3 : Nat) (Option.none : Option FieldType)) ∈ gt := sg_4 79 rfl rfl
theorem tb_800 : (Cond.methodLink "OneSunbeam$Beams" (63 : Nat) ({ cls := "java/util/Arrays", name := "fill", desc := "([II)V" } : MethodName)) ∈ gt := tb_of 800 (by decide +kernel) rfl
theorem tb_801 : (Cond.methodLink "OneSunbeam$Beams" (69 : Nat) ({ cls := "OneSunbeam$Beams", name := "shine", desc := "(LOneSunbeam$Town;I)V" } : MethodName)) ∈ gt := tb_of 801 (by decide +kernel) rfl
theorem tb_802 : (Cond.instanceMethod ({ cls := "OneSunbeam$Beams", name := "shine", desc := "(LOneSunbeam$Town;I)V" } : MethodName)) ∈ gt := tb_of 802 (by decide +kernel) rfl
theorem tb_803 : (Cond.selects "OneSunbeam$Beams" ({ cls := "OneSunbeam$Beams", name := "shine", desc := "(LOneSunbeam$Town;I)V" } : MethodName) ({ cls := "OneSunbeam$Beams", name := "shine", desc := "(LOneSunbeam$Town;I)V" } : MethodName)) ∈ gt := tb_of 803 (by decide +kernel) rfl
set_option maxRecDepth 8000 in
theorem tb_804 : (Cond.code ({ cls := "OneSunbeam$Beams", name := "shine", desc := "(LOneSunbeam$Town;I)V" } : MethodName) prog_3_method_2_code (8 : Nat) (Option.none : Option FieldType)) ∈ gt := sg_4 84 rfl rfl
theorem tb_805 : (Cond.methodLink "OneSunbeam$Beams" (24 : Nat) ({ cls := "OneSunbeam$Beams", name := "clear", desc := "()V" } : MethodName)) ∈ gt := tb_of 805 (by decide +kernel) rfl
theorem tb_807 : (Cond.instanceMethod ({ cls := "OneSunbeam$Beams", name := "clear", desc := "()V" } : MethodName)) ∈ gt := tb_of 807 (by decide +kernel) rfl
set_option maxRecDepth 8000 in
theorem tb_808 : (Cond.code ({ cls := "OneSunbeam$Beams", name := "clear", desc := "()V" } : MethodName) prog_3_method_10_code (1 : Nat) (Option.none : Option FieldType)) ∈ gt := sg_4 88 rfl rfl
theorem tb_809 : (Cond.methodLink "OneSunbeam$Beams" (36 : Nat) ({ cls := "OneSunbeam$Town", name := "wayOf", desc := "(I)I" } : MethodName)) ∈ gt := tb_of 809 (by decide +kernel) rfl
theorem tb_810 : (Cond.methodLink "OneSunbeam$Beams" (40 : Nat) ({ cls := "OneSunbeam$Town", name := "strengthOf", desc := "(I)I" } : MethodName)) ∈ gt := tb_of 810 (by decide +kernel) rfl
theorem tb_811 : (Cond.instanceMethod ({ cls := "OneSunbeam$Town", name := "strengthOf", desc := "(I)I" } : MethodName)) ∈ gt := tb_of 811 (by decide +kernel) rfl
theorem tb_812 : (Cond.selects "OneSunbeam$Town" ({ cls := "OneSunbeam$Town", name := "strengthOf", desc := "(I)I" } : MethodName) ({ cls := "OneSunbeam$Town", name := "strengthOf", desc := "(I)I" } : MethodName)) ∈ gt := tb_of 812 (by decide +kernel) rfl
set_option maxRecDepth 8000 in
theorem tb_813 : (Cond.code ({ cls := "OneSunbeam$Town", name := "strengthOf", desc := "(I)I" } : MethodName) prog_10_method_12_code (2 : Nat) (Option.some FieldType.int)) ∈ gt := sg_4 93 rfl rfl
theorem tb_814 : (Cond.methodLink "OneSunbeam$Beams" (43 : Nat) ({ cls := "OneSunbeam$Beams", name := "follow", desc := "(LOneSunbeam$Town;IIII)V" } : MethodName)) ∈ gt := tb_of 814 (by decide +kernel) rfl
theorem tb_816 : (Cond.instanceMethod ({ cls := "OneSunbeam$Beams", name := "follow", desc := "(LOneSunbeam$Town;IIII)V" } : MethodName)) ∈ gt := tb_of 816 (by decide +kernel) rfl
set_option maxRecDepth 8000 in
theorem tb_817 : (Cond.code ({ cls := "OneSunbeam$Beams", name := "follow", desc := "(LOneSunbeam$Town;IIII)V" } : MethodName) prog_3_method_11_code (12 : Nat) (Option.none : Option FieldType)) ∈ gt := sg_4 97 rfl rfl
theorem tb_818 : (Cond.methodLink "OneSunbeam$Beams" (98 : Nat) ({ cls := "OneSunbeam$Town", name := "isOpen", desc := "(II)Z" } : MethodName)) ∈ gt := tb_of 818 (by decide +kernel) rfl
theorem tb_819 : (Cond.instanceMethod ({ cls := "OneSunbeam$Town", name := "isOpen", desc := "(II)Z" } : MethodName)) ∈ gt := tb_of 819 (by decide +kernel) rfl
theorem tb_820 : (Cond.selects "OneSunbeam$Town" ({ cls := "OneSunbeam$Town", name := "isOpen", desc := "(II)Z" } : MethodName) ({ cls := "OneSunbeam$Town", name := "isOpen", desc := "(II)Z" } : MethodName)) ∈ gt := tb_of 820 (by decide +kernel) rfl
set_option maxRecDepth 8000 in
theorem tb_821 : (Cond.code ({ cls := "OneSunbeam$Town", name := "isOpen", desc := "(II)Z" } : MethodName) prog_10_method_6_code (3 : Nat) (Option.some FieldType.boolean)) ∈ gt := sg_4 101 rfl rfl
theorem tb_823 : (Cond.methodLink "OneSunbeam$Beams" (106 : Nat) ({ cls := "OneSunbeam$Beams", name := "passAir", desc := "(LOneSunbeam$Town;II)I" } : MethodName)) ∈ gt := tb_of 823 (by decide +kernel) rfl
theorem tb_825 : (Cond.instanceMethod ({ cls := "OneSunbeam$Beams", name := "passAir", desc := "(LOneSunbeam$Town;II)I" } : MethodName)) ∈ gt := tb_of 825 (by decide +kernel) rfl
set_option maxRecDepth 8000 in
theorem tb_826 : (Cond.code ({ cls := "OneSunbeam$Beams", name := "passAir", desc := "(LOneSunbeam$Town;II)I" } : MethodName) prog_3_method_12_code (6 : Nat) (Option.some FieldType.int)) ∈ gt := sg_4 106 rfl rfl
theorem tb_828 : (Cond.static ({ cls := "OneSunbeam", name := "shareOf", desc := "(II)I" } : MethodName)) ∈ gt := tb_of 828 (by decide +kernel) rfl
set_option maxRecDepth 8000 in
theorem tb_829 : (Cond.code ({ cls := "OneSunbeam", name := "shareOf", desc := "(II)I" } : MethodName) prog_1_method_37_code (2 : Nat) (Option.some FieldType.int)) ∈ gt := sg_4 109 rfl rfl
theorem tb_830 : (Cond.methodLink "OneSunbeam$Beams" (113 : Nat) ({ cls := "OneSunbeam$Beams", name := "passYard", desc := "(LOneSunbeam$Town;II)I" } : MethodName)) ∈ gt := tb_of 830 (by decide +kernel) rfl
theorem tb_832 : (Cond.instanceMethod ({ cls := "OneSunbeam$Beams", name := "passYard", desc := "(LOneSunbeam$Town;II)I" } : MethodName)) ∈ gt := tb_of 832 (by decide +kernel) rfl
set_option maxRecDepth 8000 in
theorem tb_833 : (Cond.code ({ cls := "OneSunbeam$Beams", name := "passYard", desc := "(LOneSunbeam$Town;II)I" } : MethodName) prog_3_method_13_code (5 : Nat) (Option.some FieldType.int)) ∈ gt := sg_4 113 rfl rfl
theorem tb_834 : (Cond.methodLink "OneSunbeam$Beams" (136 : Nat) ({ cls := "OneSunbeam$Town", name := "ofYard", desc := "(II)I" } : MethodName)) ∈ gt := tb_of 834 (by decide +kernel) rfl
theorem tb_835 : (Cond.instanceMethod ({ cls := "OneSunbeam$Town", name := "ofYard", desc := "(II)I" } : MethodName)) ∈ gt := tb_of 835 (by decide +kernel) rfl
theorem tb_836 : (Cond.selects "OneSunbeam$Town" ({ cls := "OneSunbeam$Town", name := "ofYard", desc := "(II)I" } : MethodName) ({ cls := "OneSunbeam$Town", name := "ofYard", desc := "(II)I" } : MethodName)) ∈ gt := tb_of 836 (by decide +kernel) rfl
set_option maxRecDepth 8000 in
theorem tb_837 : (Cond.code ({ cls := "OneSunbeam$Town", name := "ofYard", desc := "(II)I" } : MethodName) prog_10_method_16_code (3 : Nat) (Option.some FieldType.int)) ∈ gt := sg_4 117 rfl rfl
theorem tb_838 : (Cond.methodLink "OneSunbeam$Beams" (119 : Nat) ({ cls := "OneSunbeam$Town", name := "isWhole", desc := "(I)Z" } : MethodName)) ∈ gt := tb_of 838 (by decide +kernel) rfl
theorem tb_839 : (Cond.instanceMethod ({ cls := "OneSunbeam$Town", name := "isWhole", desc := "(I)Z" } : MethodName)) ∈ gt := tb_of 839 (by decide +kernel) rfl
theorem tb_840 : (Cond.selects "OneSunbeam$Town" ({ cls := "OneSunbeam$Town", name := "isWhole", desc := "(I)Z" } : MethodName) ({ cls := "OneSunbeam$Town", name := "isWhole", desc := "(I)Z" } : MethodName)) ∈ gt := tb_of 840 (by decide +kernel) rfl
set_option maxRecDepth 8000 in
theorem tb_841 : (Cond.code ({ cls := "OneSunbeam$Town", name := "isWhole", desc := "(I)Z" } : MethodName) prog_10_method_21_code (2 : Nat) (Option.some FieldType.boolean)) ∈ gt := sg_4 121 rfl rfl
theorem tb_842 : (Cond.methodLink "OneSunbeam$Beams" (123 : Nat) ({ cls := "OneSunbeam$Beams", name := "passMirror", desc := "(LOneSunbeam$Town;III)I" } : MethodName)) ∈ gt := tb_of 842 (by decide +kernel) rfl
theorem tb_844 : (Cond.instanceMethod ({ cls := "OneSunbeam$Beams", name := "passMirror", desc := "(LOneSunbeam$Town;III)I" } : MethodName)) ∈ gt := tb_of 844 (by decide +kernel) rfl
set_option maxRecDepth 8000 in
theorem tb_845 : (Cond.code ({ cls := "OneSunbeam$Beams", name := "passMirror", desc := "(LOneSunbeam$Town;III)I" } : MethodName) prog_3_method_14_code (7 : Nat) (Option.some FieldType.int)) ∈ gt := sg_4 125 rfl rfl
theorem tb_846 : (Cond.methodLink "OneSunbeam$Beams" (139 : Nat) ({ cls := "OneSunbeam$Town", name := "lossOf", desc := "(I)I" } : MethodName)) ∈ gt := tb_of 846 (by decide +kernel) rfl
theorem tb_847 : (Cond.instanceMethod ({ cls := "OneSunbeam$Town", name := "lossOf", desc := "(I)I" } : MethodName)) ∈ gt := tb_of 847 (by decide +kernel) rfl
theorem tb_848 : (Cond.selects "OneSunbeam$Town" ({ cls := "OneSunbeam$Town", name := "lossOf", desc := "(I)I" } : MethodName) ({ cls := "OneSunbeam$Town", name := "lossOf", desc := "(I)I" } : MethodName)) ∈ gt := tb_of 848 (by decide +kernel) rfl
set_option maxRecDepth 8000 in
theorem tb_849 : (Cond.code ({ cls := "OneSunbeam$Town", name := "lossOf", desc := "(I)I" } : MethodName) prog_10_method_23_code (3 : Nat) (Option.some FieldType.int)) ∈ gt := sg_4 129 rfl rfl
theorem tb_850 : (Cond.methodLink "OneSunbeam$Beams" (142 : Nat) ({ cls := "OneSunbeam$Town", name := "ofMirror", desc := "(II)I" } : MethodName)) ∈ gt := tb_of 850 (by decide +kernel) rfl
theorem tb_851 : (Cond.methodLink "OneSunbeam$Beams" (145 : Nat) ({ cls := "OneSunbeam$Beams", name := "letWait", desc := "(II)V" } : MethodName)) ∈ gt := tb_of 851 (by decide +kernel) rfl
theorem tb_853 : (Cond.instanceMethod ({ cls := "OneSunbeam$Beams", name := "letWait", desc := "(II)V" } : MethodName)) ∈ gt := tb_of 853 (by decide +kernel) rfl
set_option maxRecDepth 8000 in
theorem tb_854 : (Cond.code ({ cls := "OneSunbeam$Beams", name := "letWait", desc := "(II)V" } : MethodName) prog_3_method_15_code (4 : Nat) (Option.none : Option FieldType)) ∈ gt := sg_4 134 rfl rfl
theorem tb_855 : (Cond.methodLink "OneSunbeam$Beams" (127 : Nat) ({ cls := "OneSunbeam$Town", name := "wayFrom", desc := "(II)I" } : MethodName)) ∈ gt := tb_of 855 (by decide +kernel) rfl
theorem tb_856 : (Cond.instanceMethod ({ cls := "OneSunbeam$Town", name := "wayFrom", desc := "(II)I" } : MethodName)) ∈ gt := tb_of 856 (by decide +kernel) rfl
theorem tb_857 : (Cond.selects "OneSunbeam$Town" ({ cls := "OneSunbeam$Town", name := "wayFrom", desc := "(II)I" } : MethodName) ({ cls := "OneSunbeam$Town", name := "wayFrom", desc := "(II)I" } : MethodName)) ∈ gt := tb_of 857 (by decide +kernel) rfl
set_option maxRecDepth 8000 in
theorem tb_858 : (Cond.code ({ cls := "OneSunbeam$Town", name := "wayFrom", desc := "(II)I" } : MethodName) prog_10_method_24_code (3 : Nat) (Option.some FieldType.int)) ∈ gt := sg_4 138 rfl rfl
theorem tb_863 : (Cond.methodLink "OneSunbeam$Keepers" (49 : Nat) ({ cls := "OneSunbeam$Beams", name := "firstBlind", desc := "(LOneSunbeam$Town;)I" } : MethodName)) ∈ gt := tb_of 863 (by decide +kernel) rfl
theorem tb_864 : (Cond.instanceMethod ({ cls := "OneSunbeam$Beams", name := "firstBlind", desc := "(LOneSunbeam$Town;)I" } : MethodName)) ∈ gt := tb_of 864 (by decide +kernel) rfl
theorem tb_865 : (Cond.selects "OneSunbeam$Beams" ({ cls := "OneSunbeam$Beams", name := "firstBlind", desc := "(LOneSunbeam$Town;)I" } : MethodName) ({ cls := "OneSunbeam$Beams", name := "firstBlind", desc := "(LOneSunbeam$Town;)I" } : MethodName)) ∈ gt := tb_of 865 (by decide +kernel) rfl
set_option maxRecDepth 8000 in
theorem tb_866 : (Cond.code ({ cls := "OneSunbeam$Beams", name := "firstBlind", desc := "(LOneSunbeam$Town;)I" } : MethodName) prog_3_method_8_code (3 : Nat) (Option.some FieldType.int)) ∈ gt := sg_4 146 rfl rfl
theorem tb_867 : (Cond.methodLink "OneSunbeam$Beams" (76 : Nat) ({ cls := "OneSunbeam$Beams", name := "isBlind", desc := "(LOneSunbeam$Town;I)Z" } : MethodName)) ∈ gt := tb_of 867 (by decide +kernel) rfl
theorem tb_869 : (Cond.instanceMethod ({ cls := "OneSunbeam$Beams", name := "isBlind", desc := "(LOneSunbeam$Town;I)Z" } : MethodName)) ∈ gt := tb_of 869 (by decide +kernel) rfl
set_option maxRecDepth 8000 in
theorem tb_870 : (Cond.code ({ cls := "OneSunbeam$Beams", name := "isBlind", desc := "(LOneSunbeam$Town;I)Z" } : MethodName) prog_3_method_9_code (3 : Nat) (Option.some FieldType.boolean)) ∈ gt := sg_4 150 rfl rfl
theorem tb_871 : (Cond.methodLink "OneSunbeam$Keepers" (53 : Nat) ({ cls := "OneSunbeam$Beams", name := "shine", desc := "(LOneSunbeam$Town;I)V" } : MethodName)) ∈ gt := tb_of 871 (by decide +kernel) rfl
theorem tb_872 : (Cond.methodLink "OneSunbeam$Keepers" (56 : Nat) ({ cls := "OneSunbeam$Keepers", name := "addToday", desc := "()V" } : MethodName)) ∈ gt := tb_of 872 (by decide +kernel) rfl
theorem tb_874 : (Cond.instanceMethod ({ cls := "OneSunbeam$Keepers", name := "addToday", desc := "()V" } : MethodName)) ∈ gt := tb_of 874 (by decide +kernel) rfl
set_option maxRecDepth 8000 in
theorem tb_875 : (Cond.code ({ cls := "OneSunbeam$Keepers", name := "addToday", desc := "()V" } : MethodName) prog_4_method_4_code (2 : Nat) (Option.none : Option FieldType)) ∈ gt := sg_4 155 rfl rfl
theorem tb_876 : (Cond.methodLink "OneSunbeam$Keepers" (59 : Nat) ({ cls := "OneSunbeam$Town", name := "endDay", desc := "([I)V" } : MethodName)) ∈ gt := tb_of 876 (by decide +kernel) rfl
theorem tb_877 : (Cond.instanceMethod ({ cls := "OneSunbeam$Town", name := "endDay", desc := "([I)V" } : MethodName)) ∈ gt := tb_of 877 (by decide +kernel) rfl
theorem tb_878 : (Cond.selects "OneSunbeam$Town" ({ cls := "OneSunbeam$Town", name := "endDay", desc := "([I)V" } : MethodName) ({ cls := "OneSunbeam$Town", name := "endDay", desc := "([I)V" } : MethodName)) ∈ gt := tb_of 878 (by decide +kernel) rfl
set_option maxRecDepth 8000 in
theorem tb_879 : (Cond.code ({ cls := "OneSunbeam$Town", name := "endDay", desc := "([I)V" } : MethodName) prog_10_method_28_code (3 : Nat) (Option.none : Option FieldType)) ∈ gt := sg_4 159 rfl rfl
theorem tb_880 : (Cond.methodLink "OneSunbeam" (197 : Nat) ({ cls := "OneSunbeam$Town", name := "metCount", desc := "()I" } : MethodName)) ∈ gt := tb_of 880 (by decide +kernel) rfl
theorem tb_881 : (Cond.instanceMethod ({ cls := "OneSunbeam$Town", name := "metCount", desc := "()I" } : MethodName)) ∈ gt := tb_of 881 (by decide +kernel) rfl
theorem tb_882 : (Cond.selects "OneSunbeam$Town" ({ cls := "OneSunbeam$Town", name := "metCount", desc := "()I" } : MethodName) ({ cls := "OneSunbeam$Town", name := "metCount", desc := "()I" } : MethodName)) ∈ gt := tb_of 882 (by decide +kernel) rfl
set_option maxRecDepth 8000 in
theorem tb_883 : (Cond.code ({ cls := "OneSunbeam$Town", name := "metCount", desc := "()I" } : MethodName) prog_10_method_29_code (3 : Nat) (Option.some FieldType.int)) ∈ gt := sg_4 163 rfl rfl
theorem tb_884 : (Cond.methodLink "OneSunbeam$Town" (94 : Nat) ({ cls := "OneSunbeam$Town", name := "ofYard", desc := "(II)I" } : MethodName)) ∈ gt := tb_of 884 (by decide +kernel) rfl
theorem tb_885 : (Cond.methodLink "OneSunbeamLaw" (75 : Nat) ({ cls := "OneSunbeam", name := "mirrors", desc := "(II)I" } : MethodName)) ∈ gt := tb_of 885 (by decide +kernel) rfl
theorem tb_886 : (Cond.instanceMethod ({ cls := "OneSunbeam", name := "mirrors", desc := "(II)I" } : MethodName)) ∈ gt := tb_of 886 (by decide +kernel) rfl
theorem tb_887 : (Cond.selects "OneSunbeam" ({ cls := "OneSunbeam", name := "mirrors", desc := "(II)I" } : MethodName) ({ cls := "OneSunbeam", name := "mirrors", desc := "(II)I" } : MethodName)) ∈ gt := tb_of 887 (by decide +kernel) rfl
set_option maxRecDepth 8000 in
theorem tb_888 : (Cond.code ({ cls := "OneSunbeam", name := "mirrors", desc := "(II)I" } : MethodName) prog_1_method_15_code (3 : Nat) (Option.some FieldType.int)) ∈ gt := sg_4 168 rfl rfl
theorem tb_889 : (Cond.methodLink "OneSunbeamLaw" (79 : Nat) ({ cls := "OneSunbeam", name := "yards", desc := "(II)I" } : MethodName)) ∈ gt := tb_of 889 (by decide +kernel) rfl
theorem tb_890 : (Cond.instanceMethod ({ cls := "OneSunbeam", name := "yards", desc := "(II)I" } : MethodName)) ∈ gt := tb_of 890 (by decide +kernel) rfl
theorem tb_891 : (Cond.selects "OneSunbeam" ({ cls := "OneSunbeam", name := "yards", desc := "(II)I" } : MethodName) ({ cls := "OneSunbeam", name := "yards", desc := "(II)I" } : MethodName)) ∈ gt := tb_of 891 (by decide +kernel) rfl
set_option maxRecDepth 8000 in
theorem tb_892 : (Cond.code ({ cls := "OneSunbeam", name := "yards", desc := "(II)I" } : MethodName) prog_1_method_16_code (3 : Nat) (Option.some FieldType.int)) ∈ gt := sg_4 172 rfl rfl
theorem tb_893 : (Cond.methodLink "OneSunbeam" (204 : Nat) ({ cls := "OneSunbeam$Town", name := "hasYard", desc := "(I)Z" } : MethodName)) ∈ gt := tb_of 893 (by decide +kernel) rfl
theorem tb_894 : (Cond.instanceMethod ({ cls := "OneSunbeam$Town", name := "hasYard", desc := "(I)Z" } : MethodName)) ∈ gt := tb_of 894 (by decide +kernel) rfl
theorem tb_895 : (Cond.selects "OneSunbeam$Town" ({ cls := "OneSunbeam$Town", name := "hasYard", desc := "(I)Z" } : MethodName) ({ cls := "OneSunbeam$Town", name := "hasYard", desc := "(I)Z" } : MethodName)) ∈ gt := tb_of 895 (by decide +kernel) rfl
set_option maxRecDepth 8000 in
theorem tb_896 : (Cond.code ({ cls := "OneSunbeam$Town", name := "hasYard", desc := "(I)Z" } : MethodName) prog_10_method_9_code (2 : Nat) (Option.some FieldType.boolean)) ∈ gt := sg_4 176 rfl rfl
theorem tb_897 : (Cond.methodLink "OneSunbeam" (207 : Nat) ({ cls := "OneSunbeam$Town", name := "ofYard", desc := "(II)I" } : MethodName)) ∈ gt := tb_of 897 (by decide +kernel) rfl
theorem tb_898 : (Cond.methodLink "OneSunbeamLaw" (83 : Nat) ({ cls := "OneSunbeam", name := "cell", desc := "(III)I" } : MethodName)) ∈ gt := tb_of 898 (by decide +kernel) rfl
theorem tb_899 : (Cond.instanceMethod ({ cls := "OneSunbeam", name := "cell", desc := "(III)I" } : MethodName)) ∈ gt := tb_of 899 (by decide +kernel) rfl
theorem tb_900 : (Cond.selects "OneSunbeam" ({ cls := "OneSunbeam", name := "cell", desc := "(III)I" } : MethodName) ({ cls := "OneSunbeam", name := "cell", desc := "(III)I" } : MethodName)) ∈ gt := tb_of 900 (by decide +kernel) rfl
set_option maxRecDepth 8000 in
theorem tb_901 : (Cond.code ({ cls := "OneSunbeam", name := "cell", desc := "(III)I" } : MethodName) prog_1_method_17_code (5 : Nat) (Option.some FieldType.int)) ∈ gt := sg_4 181 rfl rfl
theorem tb_902 : (Cond.methodLink "OneSunbeamLaw" (87 : Nat) ({ cls := "OneSunbeam", name := "gets", desc := "(II)I" } : MethodName)) ∈ gt := tb_of 902 (by decide +kernel) rfl
theorem tb_903 : (Cond.instanceMethod ({ cls := "OneSunbeam", name := "gets", desc := "(II)I" } : MethodName)) ∈ gt := tb_of 903 (by decide +kernel) rfl
theorem tb_904 : (Cond.selects "OneSunbeam" ({ cls := "OneSunbeam", name := "gets", desc := "(II)I" } : MethodName) ({ cls := "OneSunbeam", name := "gets", desc := "(II)I" } : MethodName)) ∈ gt := tb_of 904 (by decide +kernel) rfl
set_option maxRecDepth 8000 in
theorem tb_905 : (Cond.code ({ cls := "OneSunbeam", name := "gets", desc := "(II)I" } : MethodName) prog_1_method_18_code (3 : Nat) (Option.some FieldType.int)) ∈ gt := sg_4 185 rfl rfl
theorem tb_906 : (Cond.methodLink "OneSunbeam" (216 : Nat) ({ cls := "OneSunbeam$Town", name := "isLit", desc := "(I)Z" } : MethodName)) ∈ gt := tb_of 906 (by decide +kernel) rfl
theorem tb_907 : (Cond.methodLink "OneSunbeam" (219 : Nat) ({ cls := "OneSunbeam$Beams", name := "shine", desc := "(LOneSunbeam$Town;I)V" } : MethodName)) ∈ gt := tb_of 907 (by decide +kernel) rfl
theorem tb_908 : (Cond.methodLink "OneSunbeamLaw" (91 : Nat) ({ cls := "OneSunbeam", name := "light", desc := "(II)I" } : MethodName)) ∈ gt := tb_of 908 (by decide +kernel) rfl
theorem tb_909 : (Cond.instanceMethod ({ cls := "OneSunbeam", name := "light", desc := "(II)I" } : MethodName)) ∈ gt := tb_of 909 (by decide +kernel) rfl
theorem tb_910 : (Cond.selects "OneSunbeam" ({ cls := "OneSunbeam", name := "light", desc := "(II)I" } : MethodName) ({ cls := "OneSunbeam", name := "light", desc := "(II)I" } : MethodName)) ∈ gt := tb_of 910 (by decide +kernel) rfl
set_option maxRecDepth 8000 in
theorem tb_911 : (Cond.code ({ cls := "OneSunbeam", name := "light", desc := "(II)I" } : MethodName) prog_1_method_19_code (3 : Nat) (Option.some FieldType.int)) ∈ gt := sg_4 191 rfl rfl
theorem tb_912 : (Cond.methodLink "OneSunbeam" (226 : Nat) ({ cls := "OneSunbeam$Beams", name := "shineWatched", desc := "(LOneSunbeam$Town;I)V" } : MethodName)) ∈ gt := tb_of 912 (by decide +kernel) rfl
theorem tb_913 : (Cond.methodLink "OneSunbeam" (229 : Nat) ({ cls := "OneSunbeam$Beams", name := "total", desc := "()I" } : MethodName)) ∈ gt := tb_of 913 (by decide +kernel) rfl
theorem tb_914 : (Cond.instanceMethod ({ cls := "OneSunbeam$Beams", name := "total", desc := "()I" } : MethodName)) ∈ gt := tb_of 914 (by decide +kernel) rfl
theorem tb_915 : (Cond.selects "OneSunbeam$Beams" ({ cls := "OneSunbeam$Beams", name := "total", desc := "()I" } : MethodName) ({ cls := "OneSunbeam$Beams", name := "total", desc := "()I" } : MethodName)) ∈ gt := tb_of 915 (by decide +kernel) rfl
set_option maxRecDepth 8000 in
theorem tb_916 : (Cond.code ({ cls := "OneSunbeam$Beams", name := "total", desc := "()I" } : MethodName) prog_3_method_4_code (3 : Nat) (Option.some FieldType.int)) ∈ gt := sg_4 196 rfl rfl
theorem tb_917 : (Cond.methodLink "OneSunbeam" (244 : Nat) ({ cls := "OneSunbeam$Beams", name := "blindCount", desc := "(LOneSunbeam$Town;)I" } : MethodName)) ∈ gt := tb_of 917 (by decide +kernel) rfl
theorem tb_918 : (Cond.instanceMethod ({ cls := "OneSunbeam$Beams", name := "blindCount", desc := "(LOneSunbeam$Town;)I" } : MethodName)) ∈ gt := tb_of 918 (by decide +kernel) rfl
theorem tb_919 : (Cond.selects "OneSunbeam$Beams" ({ cls := "OneSunbeam$Beams", name := "blindCount", desc := "(LOneSunbeam$Town;)I" } : MethodName) ({ cls := "OneSunbeam$Beams", name := "blindCount", desc := "(LOneSunbeam$Town;)I" } : MethodName)) ∈ gt := tb_of 919 (by decide +kernel) rfl
set_option maxRecDepth 8000 in
theorem tb_920 : (Cond.code ({ cls := "OneSunbeam$Beams", name := "blindCount", desc := "(LOneSunbeam$Town;)I" } : MethodName) prog_3_method_7_code (4 : Nat) (Option.some FieldType.int)) ∈ gt := sg_4 200 rfl rfl
theorem tb_921 : (Cond.methodLink "OneSunbeam" (248 : Nat) ({ cls := "OneSunbeam$Beams", name := "firstBlind", desc := "(LOneSunbeam$Town;)I" } : MethodName)) ∈ gt := tb_of 921 (by decide +kernel) rfl
theorem tb_922 : (Cond.methodLink "OneSunbeamLaw" (95 : Nat) ({ cls := "OneSunbeam", name := "passes", desc := "(III)I" } : MethodName)) ∈ gt := tb_of 922 (by decide +kernel) rfl
theorem tb_923 : (Cond.instanceMethod ({ cls := "OneSunbeam", name := "passes", desc := "(III)I" } : MethodName)) ∈ gt := tb_of 923 (by decide +kernel) rfl
theorem tb_924 : (Cond.selects "OneSunbeam" ({ cls := "OneSunbeam", name := "passes", desc := "(III)I" } : MethodName) ({ cls := "OneSunbeam", name := "passes", desc := "(III)I" } : MethodName)) ∈ gt := tb_of 924 (by decide +kernel) rfl
set_option maxRecDepth 8000 in
theorem tb_925 : (Cond.code ({ cls := "OneSunbeam", name := "passes", desc := "(III)I" } : MethodName) prog_1_method_20_code (4 : Nat) (Option.some FieldType.int)) ∈ gt := sg_4 205 rfl rfl
theorem tb_926 : (Cond.methodLink "OneSunbeamLaw" (99 : Nat) ({ cls := "OneSunbeam", name := "sees", desc := "(II)I" } : MethodName)) ∈ gt := tb_of 926 (by decide +kernel) rfl
theorem tb_927 : (Cond.instanceMethod ({ cls := "OneSunbeam", name := "sees", desc := "(II)I" } : MethodName)) ∈ gt := tb_of 927 (by decide +kernel) rfl
theorem tb_928 : (Cond.selects "OneSunbeam" ({ cls := "OneSunbeam", name := "sees", desc := "(II)I" } : MethodName) ({ cls := "OneSunbeam", name := "sees", desc := "(II)I" } : MethodName)) ∈ gt := tb_of 928 (by decide +kernel) rfl
set_option maxRecDepth 8000 in
theorem tb_929 : (Cond.code ({ cls := "OneSunbeam", name := "sees", desc := "(II)I" } : MethodName) prog_1_method_21_code (6 : Nat) (Option.some FieldType.int)) ∈ gt := sg_4 209 rfl rfl
theorem tb_930 : (Cond.methodLink "OneSunbeam" (254 : Nat) ({ cls := "java/lang/System", name := "arraycopy", desc := "(Ljava/lang/Object;ILjava/lang/Object;II)V" } : MethodName)) ∈ gt := tb_of 930 (by decide +kernel) rfl
theorem tb_931 : (Cond.methodLink "OneSunbeamLaw" (103 : Nat) ({ cls := "OneSunbeam", name := "worth", desc := "(II)I" } : MethodName)) ∈ gt := tb_of 931 (by decide +kernel) rfl
theorem tb_932 : (Cond.instanceMethod ({ cls := "OneSunbeam", name := "worth", desc := "(II)I" } : MethodName)) ∈ gt := tb_of 932 (by decide +kernel) rfl
theorem tb_933 : (Cond.selects "OneSunbeam" ({ cls := "OneSunbeam", name := "worth", desc := "(II)I" } : MethodName) ({ cls := "OneSunbeam", name := "worth", desc := "(II)I" } : MethodName)) ∈ gt := tb_of 933 (by decide +kernel) rfl
set_option maxRecDepth 8000 in
theorem tb_934 : (Cond.code ({ cls := "OneSunbeam", name := "worth", desc := "(II)I" } : MethodName) prog_1_method_22_code (3 : Nat) (Option.some FieldType.int)) ∈ gt := sg_4 214 rfl rfl
theorem tb_935 : (Cond.constant "OneSunbeam" (260 : Nat) (-1000000 : Int32)) ∈ gt := tb_of 935 (by decide +kernel) rfl
theorem tb_936 : (Cond.methodLink "OneSunbeam" (261 : Nat) ({ cls := "OneSunbeam", name := "worthOfSet", desc := "(II)I" } : MethodName)) ∈ gt := tb_of 936 (by decide +kernel) rfl
theorem tb_938 : (Cond.instanceMethod ({ cls := "OneSunbeam", name := "worthOfSet", desc := "(II)I" } : MethodName)) ∈ gt := tb_of 938 (by decide +kernel) rfl
set_option maxRecDepth 8000 in
theorem tb_939 : (Cond.code ({ cls := "OneSunbeam", name := "worthOfSet", desc := "(II)I" } : MethodName) prog_1_method_42_code (5 : Nat) (Option.some FieldType.int)) ∈ gt := sg_4 219 rfl rfl
theorem tb_940 : (Cond.methodLink "OneSunbeam" (264 : Nat) ({ cls := "OneSunbeam$Town", name := "mirrorsWith", desc := "(II)I" } : MethodName)) ∈ gt := tb_of 940 (by decide +kernel) rfl
theorem tb_941 : (Cond.instanceMethod ({ cls := "OneSunbeam$Town", name := "mirrorsWith", desc := "(II)I" } : MethodName)) ∈ gt := tb_of 941 (by decide +kernel) rfl
theorem tb_942 : (Cond.selects "OneSunbeam$Town" ({ cls := "OneSunbeam$Town", name := "mirrorsWith", desc := "(II)I" } : MethodName) ({ cls := "OneSunbeam$Town", name := "mirrorsWith", desc := "(II)I" } : MethodName)) ∈ gt := tb_of 942 (by decide +kernel) rfl
set_option maxRecDepth 8000 in
theorem tb_943 : (Cond.code ({ cls := "OneSunbeam$Town", name := "mirrorsWith", desc := "(II)I" } : MethodName) prog_10_method_25_code (5 : Nat) (Option.some FieldType.int)) ∈ gt := sg_4 223 rfl rfl
theorem tb_944 : (Cond.methodLink "OneSunbeam" (332 : Nat) ({ cls := "OneSunbeam$Town", name := "setBroken", desc := "(II)V" } : MethodName)) ∈ gt := tb_of 944 (by decide +kernel) rfl
theorem tb_945 : (Cond.instanceMethod ({ cls := "OneSunbeam$Town", name := "setBroken", desc := "(II)V" } : MethodName)) ∈ gt := tb_of 945 (by decide +kernel) rfl
theorem tb_946 : (Cond.selects "OneSunbeam$Town" ({ cls := "OneSunbeam$Town", name := "setBroken", desc := "(II)V" } : MethodName) ({ cls := "OneSunbeam$Town", name := "setBroken", desc := "(II)V" } : MethodName)) ∈ gt := tb_of 946 (by decide +kernel) rfl
set_option maxRecDepth 8000 in
theorem tb_947 : (Cond.code ({ cls := "OneSunbeam$Town", name := "setBroken", desc := "(II)V" } : MethodName) prog_10_method_26_code (4 : Nat) (Option.none : Option FieldType)) ∈ gt := sg_4 227 rfl rfl
theorem tb_948 : (Cond.methodLink "OneSunbeamLaw" (107 : Nat) ({ cls := "OneSunbeam", name := "owned", desc := "(II)I" } : MethodName)) ∈ gt := tb_of 948 (by decide +kernel) rfl
theorem tb_949 : (Cond.instanceMethod ({ cls := "OneSunbeam", name := "owned", desc := "(II)I" } : MethodName)) ∈ gt := tb_of 949 (by decide +kernel) rfl
theorem tb_950 : (Cond.selects "OneSunbeam" ({ cls := "OneSunbeam", name := "owned", desc := "(II)I" } : MethodName) ({ cls := "OneSunbeam", name := "owned", desc := "(II)I" } : MethodName)) ∈ gt := tb_of 950 (by decide +kernel) rfl
set_option maxRecDepth 8000 in
theorem tb_951 : (Cond.code ({ cls := "OneSunbeam", name := "owned", desc := "(II)I" } : MethodName) prog_1_method_23_code (3 : Nat) (Option.some FieldType.int)) ∈ gt := sg_4 231 rfl rfl
theorem tb_952 : (Cond.methodLink "OneSunbeamLaw" (111 : Nat) ({ cls := "OneSunbeam", name := "aim", desc := "(IIII)I" } : MethodName)) ∈ gt := tb_of 952 (by decide +kernel) rfl
theorem tb_953 : (Cond.instanceMethod ({ cls := "OneSunbeam", name := "aim", desc := "(IIII)I" } : MethodName)) ∈ gt := tb_of 953 (by decide +kernel) rfl
theorem tb_954 : (Cond.selects "OneSunbeam" ({ cls := "OneSunbeam", name := "aim", desc := "(IIII)I" } : MethodName) ({ cls := "OneSunbeam", name := "aim", desc := "(IIII)I" } : MethodName)) ∈ gt := tb_of 954 (by decide +kernel) rfl
set_option maxRecDepth 8000 in
theorem tb_955 : (Cond.code ({ cls := "OneSunbeam", name := "aim", desc := "(IIII)I" } : MethodName) prog_1_method_24_code (5 : Nat) (Option.some FieldType.int)) ∈ gt := sg_4 235 rfl rfl
theorem tb_956 : (Cond.methodLink "OneSunbeam" (267 : Nat) ({ cls := "OneSunbeam", name := "isPlaceOfSet", desc := "(II)Z" } : MethodName)) ∈ gt := tb_of 956 (by decide +kernel) rfl
theorem tb_958 : (Cond.instanceMethod ({ cls := "OneSunbeam", name := "isPlaceOfSet", desc := "(II)Z" } : MethodName)) ∈ gt := tb_of 958 (by decide +kernel) rfl
set_option maxRecDepth 8000 in
theorem tb_959 : (Cond.code ({ cls := "OneSunbeam", name := "isPlaceOfSet", desc := "(II)Z" } : MethodName) prog_1_method_41_code (4 : Nat) (Option.some FieldType.boolean)) ∈ gt := sg_4 239 rfl rfl
theorem tb_960 : (Cond.methodLink "OneSunbeam" (327 : Nat) ({ cls := "java/lang/Integer", name := "bitCount", desc := "(I)I" } : MethodName)) ∈ gt := tb_of 960 (by decide +kernel) rfl
theorem tb_961 : (Cond.static ({ cls := "java/lang/Integer", name := "bitCount", desc := "(I)I" } : MethodName)) ∈ gt := tb_of 961 (by decide +kernel) rfl
set_option maxRecDepth 8000 in
theorem tb_962 : (Cond.code ({ cls := "java/lang/Integer", name := "bitCount", desc := "(I)I" } : MethodName) prog_13_method_49_code (1 : Nat) (Option.some FieldType.int)) ∈ gt := sg_5 2 rfl rfl
theorem tb_963 : (Cond.constant "java/lang/Integer" (265 : Nat) (1431655765 : Int32)) ∈ gt := tb_of 963 (by decide +kernel) rfl
theorem tb_964 : (Cond.constant "java/lang/Integer" (266 : Nat) (858993459 : Int32)) ∈ gt := tb_of 964 (by decide +kernel) rfl
theorem tb_965 : (Cond.constant "java/lang/Integer" (267 : Nat) (252645135 : Int32)) ∈ gt := tb_of 965 (by decide +kernel) rfl
theorem tb_966 : (Cond.methodLink "OneSunbeam" (270 : Nat) ({ cls := "OneSunbeam$Aiming", name := "search", desc := "(LOneSunbeam$Town;III)V" } : MethodName)) ∈ gt := tb_of 966 (by decide +kernel) rfl
theorem tb_967 : (Cond.instanceMethod ({ cls := "OneSunbeam$Aiming", name := "search", desc := "(LOneSunbeam$Town;III)V" } : MethodName)) ∈ gt := tb_of 967 (by decide +kernel) rfl
theorem tb_968 : (Cond.selects "OneSunbeam$Aiming" ({ cls := "OneSunbeam$Aiming", name := "search", desc := "(LOneSunbeam$Town;III)V" } : MethodName) ({ cls := "OneSunbeam$Aiming", name := "search", desc := "(LOneSunbeam$Town;III)V" } : MethodName)) ∈ gt := tb_of 968 (by decide +kernel) rfl
set_option maxRecDepth 8000 in
theorem tb_969 : (Cond.code ({ cls := "OneSunbeam$Aiming", name := "search", desc := "(LOneSunbeam$Town;III)V" } : MethodName) prog_2_method_3_code (8 : Nat) (Option.none : Option FieldType)) ∈ gt := sg_5 9 rfl rfl
theorem tb_970 : (Cond.methodLink "OneSunbeam$Aiming" (39 : Nat) ({ cls := "OneSunbeam$Aiming", name := "gather", desc := "(LOneSunbeam$Town;I)V" } : MethodName)) ∈ gt := tb_of 970 (by decide +kernel) rfl
theorem tb_972 : (Cond.instanceMethod ({ cls := "OneSunbeam$Aiming", name := "gather", desc := "(LOneSunbeam$Town;I)V" } : MethodName)) ∈ gt := tb_of 972 (by decide +kernel) rfl
set_option maxRecDepth 8000 in
theorem tb_973 : (Cond.code ({ cls := "OneSunbeam$Aiming", name := "gather", desc := "(LOneSunbeam$Town;I)V" } : MethodName) prog_2_method_4_code (4 : Nat) (Option.none : Option FieldType)) ∈ gt := sg_5 13 rfl rfl
theorem tb_974 : (Cond.methodLink "OneSunbeam$Aiming" (78 : Nat) ({ cls := "OneSunbeam$Town", name := "ofMirror", desc := "(II)I" } : MethodName)) ∈ gt := tb_of 974 (by decide +kernel) rfl
theorem tb_975 : (Cond.methodLink "OneSunbeam$Aiming" (43 : Nat) ({ cls := "OneSunbeam$Aiming", name := "putSlants", desc := "(LOneSunbeam$Town;[I)V" } : MethodName)) ∈ gt := tb_of 975 (by decide +kernel) rfl
theorem tb_977 : (Cond.instanceMethod ({ cls := "OneSunbeam$Aiming", name := "putSlants", desc := "(LOneSunbeam$Town;[I)V" } : MethodName)) ∈ gt := tb_of 977 (by decide +kernel) rfl
set_option maxRecDepth 8000 in
theorem tb_978 : (Cond.code ({ cls := "OneSunbeam$Aiming", name := "putSlants", desc := "(LOneSunbeam$Town;[I)V" } : MethodName) prog_2_method_5_code (4 : Nat) (Option.none : Option FieldType)) ∈ gt := sg_5 18 rfl rfl
theorem tb_979 : (Cond.methodLink "OneSunbeam$Aiming" (82 : Nat) ({ cls := "OneSunbeam$Town", name := "setMirror", desc := "(III)V" } : MethodName)) ∈ gt := tb_of 979 (by decide +kernel) rfl
theorem tb_980 : (Cond.methodLink "OneSunbeam$Aiming" (47 : Nat) ({ cls := "OneSunbeam$Beams", name := "shine", desc := "(LOneSunbeam$Town;I)V" } : MethodName)) ∈ gt := tb_of 980 (by decide +kernel) rfl
theorem tb_981 : (Cond.methodLink "OneSunbeam$Aiming" (52 : Nat) ({ cls := "OneSunbeam$Aiming", name := "leastGot", desc := "(LOneSunbeam$Town;)I" } : MethodName)) ∈ gt := tb_of 981 (by decide +kernel) rfl
theorem tb_983 : (Cond.instanceMethod ({ cls := "OneSunbeam$Aiming", name := "leastGot", desc := "(LOneSunbeam$Town;)I" } : MethodName)) ∈ gt := tb_of 983 (by decide +kernel) rfl
set_option maxRecDepth 8000 in
theorem tb_984 : (Cond.code ({ cls := "OneSunbeam$Aiming", name := "leastGot", desc := "(LOneSunbeam$Town;)I" } : MethodName) prog_2_method_8_code (7 : Nat) (Option.some FieldType.int)) ∈ gt := sg_5 24 rfl rfl
theorem tb_985 : (Cond.methodLink "OneSunbeam$Aiming" (92 : Nat) ({ cls := "OneSunbeam$Town", name := "ofYard", desc := "(II)I" } : MethodName)) ∈ gt := tb_of 985 (by decide +kernel) rfl
theorem tb_986 : (Cond.methodLink "OneSunbeam$Aiming" (59 : Nat) ({ cls := "java/lang/System", name := "arraycopy", desc := "(Ljava/lang/Object;ILjava/lang/Object;II)V" } : MethodName)) ∈ gt := tb_of 986 (by decide +kernel) rfl
theorem tb_987 : (Cond.methodLink "OneSunbeam$Aiming" (65 : Nat) ({ cls := "OneSunbeam$Aiming", name := "lastTouched", desc := "()I" } : MethodName)) ∈ gt := tb_of 987 (by decide +kernel) rfl
theorem tb_989 : (Cond.instanceMethod ({ cls := "OneSunbeam$Aiming", name := "lastTouched", desc := "()I" } : MethodName)) ∈ gt := tb_of 989 (by decide +kernel) rfl
set_option maxRecDepth 8000 in
theorem tb_990 : (Cond.code ({ cls := "OneSunbeam$Aiming", name := "lastTouched", desc := "()I" } : MethodName) prog_2_method_6_code (2 : Nat) (Option.some FieldType.int)) ∈ gt := sg_5 30 rfl rfl
theorem tb_991 : (Cond.methodLink "OneSunbeam$Aiming" (86 : Nat) ({ cls := "OneSunbeam$Beams", name := "touches", desc := "(I)Z" } : MethodName)) ∈ gt := tb_of 991 (by decide +kernel) rfl
theorem tb_992 : (Cond.instanceMethod ({ cls := "OneSunbeam$Beams", name := "touches", desc := "(I)Z" } : MethodName)) ∈ gt := tb_of 992 (by decide +kernel) rfl
theorem tb_993 : (Cond.selects "OneSunbeam$Beams" ({ cls := "OneSunbeam$Beams", name := "touches", desc := "(I)Z" } : MethodName) ({ cls := "OneSunbeam$Beams", name := "touches", desc := "(I)Z" } : MethodName)) ∈ gt := tb_of 993 (by decide +kernel) rfl
set_option maxRecDepth 8000 in
theorem tb_994 : (Cond.code ({ cls := "OneSunbeam$Beams", name := "touches", desc := "(I)Z" } : MethodName) prog_3_method_5_code (2 : Nat) (Option.some FieldType.boolean)) ∈ gt := sg_5 34 rfl rfl
theorem tb_995 : (Cond.methodLink "OneSunbeam$Aiming" (69 : Nat) ({ cls := "OneSunbeam$Aiming", name := "goOn", desc := "(I)Z" } : MethodName)) ∈ gt := tb_of 995 (by decide +kernel) rfl
theorem tb_997 : (Cond.instanceMethod ({ cls := "OneSunbeam$Aiming", name := "goOn", desc := "(I)Z" } : MethodName)) ∈ gt := tb_of 997 (by decide +kernel) rfl
set_option maxRecDepth 8000 in
theorem tb_998 : (Cond.code ({ cls := "OneSunbeam$Aiming", name := "goOn", desc := "(I)Z" } : MethodName) prog_2_method_7_code (3 : Nat) (Option.some FieldType.boolean)) ∈ gt := sg_5 38 rfl rfl
theorem tb_999 : (Cond.methodLink "OneSunbeam" (274 : Nat) ({ cls := "OneSunbeam$Aiming", name := "answer", desc := "(I)I" } : MethodName)) ∈ gt := tb_of 999 (by decide +kernel) rfl
theorem tb_1000 : (Cond.instanceMethod ({ cls := "OneSunbeam$Aiming", name := "answer", desc := "(I)I" } : MethodName)) ∈ gt := tb_of 1000 (by decide +kernel) rfl
theorem tb_1001 : (Cond.selects "OneSunbeam$Aiming" ({ cls := "OneSunbeam$Aiming", name := "answer", desc := "(I)I" } : MethodName) ({ cls := "OneSunbeam$Aiming", name := "answer", desc := "(I)I" } : MethodName)) ∈ gt := tb_of 1001 (by decide +kernel) rfl
set_option maxRecDepth 8000 in
theorem tb_1002 : (Cond.code ({ cls := "OneSunbeam$Aiming", name := "answer", desc := "(I)I" } : MethodName) prog_2_method_2_code (2 : Nat) (Option.some FieldType.int)) ∈ gt := sg_5 42 rfl rfl
theorem tb_1004 : (Cond.methodLink "OneSunbeamLaw" (116 : Nat) ({ cls := "OneSunbeam", name := "fair", desc := "(III)I" } : MethodName)) ∈ gt := tb_of 1004 (by decide +kernel) rfl
theorem tb_1005 : (Cond.instanceMethod ({ cls := "OneSunbeam", name := "fair", desc := "(III)I" } : MethodName)) ∈ gt := tb_of 1005 (by decide +kernel) rfl
theorem tb_1006 : (Cond.selects "OneSunbeam" ({ cls := "OneSunbeam", name := "fair", desc := "(III)I" } : MethodName) ({ cls := "OneSunbeam", name := "fair", desc := "(III)I" } : MethodName)) ∈ gt := tb_of 1006 (by decide +kernel) rfl
set_option maxRecDepth 8000 in
theorem tb_1007 : (Cond.code ({ cls := "OneSunbeam", name := "fair", desc := "(III)I" } : MethodName) prog_1_method_25_code (4 : Nat) (Option.some FieldType.int)) ∈ gt := sg_5 47 rfl rfl
theorem tb_1008 : (Cond.methodLink "OneSunbeamLaw" (120 : Nat) ({ cls := "OneSunbeam", name := "mends", desc := "(III)I" } : MethodName)) ∈ gt := tb_of 1008 (by decide +kernel) rfl
theorem tb_1009 : (Cond.instanceMethod ({ cls := "OneSunbeam", name := "mends", desc := "(III)I" } : MethodName)) ∈ gt := tb_of 1009 (by decide +kernel) rfl
theorem tb_1010 : (Cond.selects "OneSunbeam" ({ cls := "OneSunbeam", name := "mends", desc := "(III)I" } : MethodName) ({ cls := "OneSunbeam", name := "mends", desc := "(III)I" } : MethodName)) ∈ gt := tb_of 1010 (by decide +kernel) rfl
set_option maxRecDepth 8000 in
theorem tb_1011 : (Cond.code ({ cls := "OneSunbeam", name := "mends", desc := "(III)I" } : MethodName) prog_1_method_26_code (4 : Nat) (Option.some FieldType.int)) ∈ gt := sg_5 51 rfl rfl
theorem tb_1012 : (Cond.methodLink "OneSunbeam" (278 : Nat) ({ cls := "OneSunbeam$Mending", name := "begin", desc := "(II)V" } : MethodName)) ∈ gt := tb_of 1012 (by decide +kernel) rfl
theorem tb_1013 : (Cond.instanceMethod ({ cls := "OneSunbeam$Mending", name := "begin", desc := "(II)V" } : MethodName)) ∈ gt := tb_of 1013 (by decide +kernel) rfl
theorem tb_1014 : (Cond.selects "OneSunbeam$Mending" ({ cls := "OneSunbeam$Mending", name := "begin", desc := "(II)V" } : MethodName) ({ cls := "OneSunbeam$Mending", name := "begin", desc := "(II)V" } : MethodName)) ∈ gt := tb_of 1014 (by decide +kernel) rfl
set_option maxRecDepth 8000 in
theorem tb_1015 : (Cond.code ({ cls := "OneSunbeam$Mending", name := "begin", desc := "(II)V" } : MethodName) prog_7_method_2_code (4 : Nat) (Option.none : Option FieldType)) ∈ gt := sg_5 55 rfl rfl
theorem tb_1016 : (Cond.methodLink "OneSunbeam$Mending" (36 : Nat) ({ cls := "OneSunbeam$Town", name := "ofMirror", desc := "(II)I" } : MethodName)) ∈ gt := tb_of 1016 (by decide +kernel) rfl
theorem tb_1017 : (Cond.methodLink "OneSunbeam$Mending" (45 : Nat) ({ cls := "java/util/Arrays", name := "fill", desc := "([II)V" } : MethodName)) ∈ gt := tb_of 1017 (by decide +kernel) rfl
theorem tb_1018 : (Cond.methodLink "OneSunbeam$Mending" (51 : Nat) ({ cls := "OneSunbeam$Beams", name := "shine", desc := "(LOneSunbeam$Town;I)V" } : MethodName)) ∈ gt := tb_of 1018 (by decide +kernel) rfl
theorem tb_1019 : (Cond.methodLink "OneSunbeam$Mending" (60 : Nat) ({ cls := "OneSunbeam$Town", name := "setMirror", desc := "(III)V" } : MethodName)) ∈ gt := tb_of 1019 (by decide +kernel) rfl
theorem tb_1020 : (Cond.methodLink "OneSunbeam" (281 : Nat) ({ cls := "OneSunbeam$Mending", name := "needsNone", desc := "()Z" } : MethodName)) ∈ gt := tb_of 1020 (by decide +kernel) rfl
theorem tb_1021 : (Cond.instanceMethod ({ cls := "OneSunbeam$Mending", name := "needsNone", desc := "()Z" } : MethodName)) ∈ gt := tb_of 1021 (by decide +kernel) rfl
theorem tb_1022 : (Cond.selects "OneSunbeam$Mending" ({ cls := "OneSunbeam$Mending", name := "needsNone", desc := "()Z" } : MethodName) ({ cls := "OneSunbeam$Mending", name := "needsNone", desc := "()Z" } : MethodName)) ∈ gt := tb_of 1022 (by decide +kernel) rfl
set_option maxRecDepth 8000 in
theorem tb_1023 : (Cond.code ({ cls := "OneSunbeam$Mending", name := "needsNone", desc := "()Z" } : MethodName) prog_7_method_4_code (2 : Nat) (Option.some FieldType.boolean)) ∈ gt := sg_5 63 rfl rfl
theorem tb_1024 : (Cond.methodLink "OneSunbeam$Mending" (64 : Nat) ({ cls := "OneSunbeam$Mending", name := "isEnough", desc := "()Z" } : MethodName)) ∈ gt := tb_of 1024 (by decide +kernel) rfl
theorem tb_1026 : (Cond.instanceMethod ({ cls := "OneSunbeam$Mending", name := "isEnough", desc := "()Z" } : MethodName)) ∈ gt := tb_of 1026 (by decide +kernel) rfl
set_option maxRecDepth 8000 in
theorem tb_1027 : (Cond.code ({ cls := "OneSunbeam$Mending", name := "isEnough", desc := "()Z" } : MethodName) prog_7_method_7_code (2 : Nat) (Option.some FieldType.boolean)) ∈ gt := sg_5 67 rfl rfl
theorem tb_1028 : (Cond.methodLink "OneSunbeam$Mending" (68 : Nat) ({ cls := "OneSunbeam$Beams", name := "touchedSet", desc := "()I" } : MethodName)) ∈ gt := tb_of 1028 (by decide +kernel) rfl
theorem tb_1029 : (Cond.instanceMethod ({ cls := "OneSunbeam$Beams", name := "touchedSet", desc := "()I" } : MethodName)) ∈ gt := tb_of 1029 (by decide +kernel) rfl
theorem tb_1030 : (Cond.selects "OneSunbeam$Beams" ({ cls := "OneSunbeam$Beams", name := "touchedSet", desc := "()I" } : MethodName) ({ cls := "OneSunbeam$Beams", name := "touchedSet", desc := "()I" } : MethodName)) ∈ gt := tb_of 1030 (by decide +kernel) rfl
set_option maxRecDepth 8000 in
theorem tb_1031 : (Cond.code ({ cls := "OneSunbeam$Beams", name := "touchedSet", desc := "()I" } : MethodName) prog_3_method_6_code (1 : Nat) (Option.some FieldType.int)) ∈ gt := sg_5 71 rfl rfl
theorem tb_1032 : (Cond.methodLink "OneSunbeam" (284 : Nat) ({ cls := "OneSunbeam$Mending", name := "findOne", desc := "()Z" } : MethodName)) ∈ gt := tb_of 1032 (by decide +kernel) rfl
theorem tb_1033 : (Cond.instanceMethod ({ cls := "OneSunbeam$Mending", name := "findOne", desc := "()Z" } : MethodName)) ∈ gt := tb_of 1033 (by decide +kernel) rfl
theorem tb_1034 : (Cond.selects "OneSunbeam$Mending" ({ cls := "OneSunbeam$Mending", name := "findOne", desc := "()Z" } : MethodName) ({ cls := "OneSunbeam$Mending", name := "findOne", desc := "()Z" } : MethodName)) ∈ gt := tb_of 1034 (by decide +kernel) rfl
set_option maxRecDepth 8000 in
theorem tb_1035 : (Cond.code ({ cls := "OneSunbeam$Mending", name := "findOne", desc := "()Z" } : MethodName) prog_7_method_5_code (4 : Nat) (Option.some FieldType.boolean)) ∈ gt := sg_5 75 rfl rfl
theorem tb_1036 : (Cond.methodLink "OneSunbeam$Mending" (78 : Nat) ({ cls := "OneSunbeam$Mending", name := "isIn", desc := "(II)Z" } : MethodName)) ∈ gt := tb_of 1036 (by decide +kernel) rfl
theorem tb_1037 : (Cond.static ({ cls := "OneSunbeam$Mending", name := "isIn", desc := "(II)Z" } : MethodName)) ∈ gt := tb_of 1037 (by decide +kernel) rfl
set_option maxRecDepth 8000 in
theorem tb_1038 : (Cond.code ({ cls := "OneSunbeam$Mending", name := "isIn", desc := "(II)Z" } : MethodName) prog_7_method_11_code (2 : Nat) (Option.some FieldType.boolean)) ∈ gt := sg_5 78 rfl rfl
theorem tb_1039 : (Cond.methodLink "OneSunbeam$Mending" (82 : Nat) ({ cls := "OneSunbeam$Mending", name := "isMendedBy", desc := "(II)Z" } : MethodName)) ∈ gt := tb_of 1039 (by decide +kernel) rfl
theorem tb_1041 : (Cond.instanceMethod ({ cls := "OneSunbeam$Mending", name := "isMendedBy", desc := "(II)Z" } : MethodName)) ∈ gt := tb_of 1041 (by decide +kernel) rfl
set_option maxRecDepth 8000 in
theorem tb_1042 : (Cond.code ({ cls := "OneSunbeam$Mending", name := "isMendedBy", desc := "(II)Z" } : MethodName) prog_7_method_8_code (5 : Nat) (Option.some FieldType.boolean)) ∈ gt := sg_5 82 rfl rfl
theorem tb_1043 : (Cond.methodLink "OneSunbeam" (287 : Nat) ({ cls := "OneSunbeam$Mending", name := "findTwo", desc := "()V" } : MethodName)) ∈ gt := tb_of 1043 (by decide +kernel) rfl
theorem tb_1044 : (Cond.instanceMethod ({ cls := "OneSunbeam$Mending", name := "findTwo", desc := "()V" } : MethodName)) ∈ gt := tb_of 1044 (by decide +kernel) rfl
theorem tb_1045 : (Cond.selects "OneSunbeam$Mending" ({ cls := "OneSunbeam$Mending", name := "findTwo", desc := "()V" } : MethodName) ({ cls := "OneSunbeam$Mending", name := "findTwo", desc := "()V" } : MethodName)) ∈ gt := tb_of 1045 (by decide +kernel) rfl
set_option maxRecDepth 8000 in
theorem tb_1046 : (Cond.code ({ cls := "OneSunbeam$Mending", name := "findTwo", desc := "()V" } : MethodName) prog_7_method_6_code (3 : Nat) (Option.none : Option FieldType)) ∈ gt := sg_5 86 rfl rfl
theorem tb_1047 : (Cond.methodLink "OneSunbeam$Mending" (85 : Nat) ({ cls := "OneSunbeam$Mending", name := "findSlants", desc := "(II)Z" } : MethodName)) ∈ gt := tb_of 1047 (by decide +kernel) rfl
theorem tb_1049 : (Cond.instanceMethod ({ cls := "OneSunbeam$Mending", name := "findSlants", desc := "(II)Z" } : MethodName)) ∈ gt := tb_of 1049 (by decide +kernel) rfl
set_option maxRecDepth 8000 in
theorem tb_1050 : (Cond.code ({ cls := "OneSunbeam$Mending", name := "findSlants", desc := "(II)Z" } : MethodName) prog_7_method_9_code (9 : Nat) (Option.some FieldType.boolean)) ∈ gt := sg_5 90 rfl rfl
theorem tb_1051 : (Cond.methodLink "OneSunbeam$Mending" (88 : Nat) ({ cls := "OneSunbeam$Mending", name := "doesPairMatter", desc := "(IIII)Z" } : MethodName)) ∈ gt := tb_of 1051 (by decide +kernel) rfl
theorem tb_1053 : (Cond.instanceMethod ({ cls := "OneSunbeam$Mending", name := "doesPairMatter", desc := "(IIII)Z" } : MethodName)) ∈ gt := tb_of 1053 (by decide +kernel) rfl
set_option maxRecDepth 8000 in
theorem tb_1054 : (Cond.code ({ cls := "OneSunbeam$Mending", name := "doesPairMatter", desc := "(IIII)Z" } : MethodName) prog_7_method_10_code (5 : Nat) (Option.some FieldType.boolean)) ∈ gt := sg_5 94 rfl rfl
theorem tb_1055 : (Cond.methodLink "OneSunbeam" (290 : Nat) ({ cls := "OneSunbeam$Mending", name := "restore", desc := "()V" } : MethodName)) ∈ gt := tb_of 1055 (by decide +kernel) rfl
theorem tb_1056 : (Cond.instanceMethod ({ cls := "OneSunbeam$Mending", name := "restore", desc := "()V" } : MethodName)) ∈ gt := tb_of 1056 (by decide +kernel) rfl
theorem tb_1057 : (Cond.selects "OneSunbeam$Mending" ({ cls := "OneSunbeam$Mending", name := "restore", desc := "()V" } : MethodName) ({ cls := "OneSunbeam$Mending", name := "restore", desc := "()V" } : MethodName)) ∈ gt := tb_of 1057 (by decide +kernel) rfl
set_option maxRecDepth 8000 in
theorem tb_1058 : (Cond.code ({ cls := "OneSunbeam$Mending", name := "restore", desc := "()V" } : MethodName) prog_7_method_3_code (1 : Nat) (Option.none : Option FieldType)) ∈ gt := sg_5 98 rfl rfl
theorem tb_1059 : (Cond.methodLink "OneSunbeamLaw" (124 : Nat) ({ cls := "OneSunbeam", name := "second", desc := "(II)I" } : MethodName)) ∈ gt := tb_of 1059 (by decide +kernel) rfl
theorem tb_1060 : (Cond.instanceMethod ({ cls := "OneSunbeam", name := "second", desc := "(II)I" } : MethodName)) ∈ gt := tb_of 1060 (by decide +kernel) rfl
theorem tb_1061 : (Cond.selects "OneSunbeam" ({ cls := "OneSunbeam", name := "second", desc := "(II)I" } : MethodName) ({ cls := "OneSunbeam", name := "second", desc := "(II)I" } : MethodName)) ∈ gt := tb_of 1061 (by decide +kernel) rfl
set_option maxRecDepth 8000 in
theorem tb_1062 : (Cond.code ({ cls := "OneSunbeam", name := "second", desc := "(II)I" } : MethodName) prog_1_method_27_code (3 : Nat) (Option.some FieldType.int)) ∈ gt := sg_5 102 rfl rfl
theorem tb_1063 : (Cond.methodLink "OneSunbeam" (296 : Nat) ({ cls := "OneSunbeam$Opening", name := "search", desc := "(LOneSunbeam$Town;I)V" } : MethodName)) ∈ gt := tb_of 1063 (by decide +kernel) rfl
theorem tb_1064 : (Cond.instanceMethod ({ cls := "OneSunbeam$Opening", name := "search", desc := "(LOneSunbeam$Town;I)V" } : MethodName)) ∈ gt := tb_of 1064 (by decide +kernel) rfl
theorem tb_1065 : (Cond.selects "OneSunbeam$Opening" ({ cls := "OneSunbeam$Opening", name := "search", desc := "(LOneSunbeam$Town;I)V" } : MethodName) ({ cls := "OneSunbeam$Opening", name := "search", desc := "(LOneSunbeam$Town;I)V" } : MethodName)) ∈ gt := tb_of 1065 (by decide +kernel) rfl
set_option maxRecDepth 8000 in
theorem tb_1066 : (Cond.code ({ cls := "OneSunbeam$Opening", name := "search", desc := "(LOneSunbeam$Town;I)V" } : MethodName) prog_8_method_2_code (9 : Nat) (Option.none : Option FieldType)) ∈ gt := sg_5 106 rfl rfl
theorem tb_1067 : (Cond.methodLink "OneSunbeam$Opening" (33 : Nat) ({ cls := "OneSunbeam$Town", name := "wayOf", desc := "(I)I" } : MethodName)) ∈ gt := tb_of 1067 (by decide +kernel) rfl
theorem tb_1068 : (Cond.methodLink "OneSunbeam$Opening" (43 : Nat) ({ cls := "OneSunbeam$Opening", name := "isEdge", desc := "(LOneSunbeam$Town;II)Z" } : MethodName)) ∈ gt := tb_of 1068 (by decide +kernel) rfl
theorem tb_1069 : (Cond.static ({ cls := "OneSunbeam$Opening", name := "isEdge", desc := "(LOneSunbeam$Town;II)Z" } : MethodName)) ∈ gt := tb_of 1069 (by decide +kernel) rfl
set_option maxRecDepth 8000 in
theorem tb_1070 : (Cond.code ({ cls := "OneSunbeam$Opening", name := "isEdge", desc := "(LOneSunbeam$Town;II)Z" } : MethodName) prog_8_method_3_code (3 : Nat) (Option.some FieldType.boolean)) ∈ gt := sg_5 110 rfl rfl
theorem tb_1071 : (Cond.methodLink "OneSunbeam$Opening" (47 : Nat) ({ cls := "OneSunbeam$Town", name := "isOpen", desc := "(II)Z" } : MethodName)) ∈ gt := tb_of 1071 (by decide +kernel) rfl
theorem tb_1072 : (Cond.methodLink "OneSunbeam$Opening" (51 : Nat) ({ cls := "OneSunbeam$Opening", name := "tryWays", desc := "(LOneSunbeam$Town;I)V" } : MethodName)) ∈ gt := tb_of 1072 (by decide +kernel) rfl
theorem tb_1074 : (Cond.instanceMethod ({ cls := "OneSunbeam$Opening", name := "tryWays", desc := "(LOneSunbeam$Town;I)V" } : MethodName)) ∈ gt := tb_of 1074 (by decide +kernel) rfl
set_option maxRecDepth 8000 in
theorem tb_1075 : (Cond.code ({ cls := "OneSunbeam$Opening", name := "tryWays", desc := "(LOneSunbeam$Town;I)V" } : MethodName) prog_8_method_4_code (4 : Nat) (Option.none : Option FieldType)) ∈ gt := sg_5 115 rfl rfl
theorem tb_1078 : (Cond.methodLink "OneSunbeam$Opening" (66 : Nat) ({ cls := "OneSunbeam$Town", name := "hasCell", desc := "(II)Z" } : MethodName)) ∈ gt := tb_of 1078 (by decide +kernel) rfl
theorem tb_1079 : (Cond.methodLink "OneSunbeam$Opening" (55 : Nat) ({ cls := "OneSunbeam$Town", name := "setWay", desc := "(II)V" } : MethodName)) ∈ gt := tb_of 1079 (by decide +kernel) rfl
theorem tb_1080 : (Cond.instanceMethod ({ cls := "OneSunbeam$Town", name := "setWay", desc := "(II)V" } : MethodName)) ∈ gt := tb_of 1080 (by decide +kernel) rfl
theorem tb_1081 : (Cond.selects "OneSunbeam$Town" ({ cls := "OneSunbeam$Town", name := "setWay", desc := "(II)V" } : MethodName) ({ cls := "OneSunbeam$Town", name := "setWay", desc := "(II)V" } : MethodName)) ∈ gt := tb_of 1081 (by decide +kernel) rfl
set_option maxRecDepth 8000 in
theorem tb_1082 : (Cond.code ({ cls := "OneSunbeam$Town", name := "setWay", desc := "(II)V" } : MethodName) prog_10_method_13_code (3 : Nat) (Option.none : Option FieldType)) ∈ gt := sg_5 122 rfl rfl
theorem tb_1083 : (Cond.methodLink "OneSunbeam$Opening" (69 : Nat) ({ cls := "OneSunbeam$Beams", name := "shine", desc := "(LOneSunbeam$Town;I)V" } : MethodName)) ∈ gt := tb_of 1083 (by decide +kernel) rfl
theorem tb_1084 : (Cond.methodLink "OneSunbeam$Opening" (74 : Nat) ({ cls := "OneSunbeam$Beams", name := "total", desc := "()I" } : MethodName)) ∈ gt := tb_of 1084 (by decide +kernel) rfl
theorem tb_1086 : (Cond.methodLink "OneSunbeamLaw" (128 : Nat) ({ cls := "OneSunbeam", name := "thief", desc := "(II)I" } : MethodName)) ∈ gt := tb_of 1086 (by decide +kernel) rfl
theorem tb_1087 : (Cond.instanceMethod ({ cls := "OneSunbeam", name := "thief", desc := "(II)I" } : MethodName)) ∈ gt := tb_of 1087 (by decide +kernel) rfl
theorem tb_1088 : (Cond.selects "OneSunbeam" ({ cls := "OneSunbeam", name := "thief", desc := "(II)I" } : MethodName) ({ cls := "OneSunbeam", name := "thief", desc := "(II)I" } : MethodName)) ∈ gt := tb_of 1088 (by decide +kernel) rfl
set_option maxRecDepth 8000 in
theorem tb_1089 : (Cond.code ({ cls := "OneSunbeam", name := "thief", desc := "(II)I" } : MethodName) prog_1_method_28_code (3 : Nat) (Option.some FieldType.int)) ∈ gt := sg_5 129 rfl rfl
theorem tb_1090 : (Cond.methodLink "OneSunbeam" (307 : Nat) ({ cls := "OneSunbeam$Theft", name := "search", desc := "(LOneSunbeam$Town;I)V" } : MethodName)) ∈ gt := tb_of 1090 (by decide +kernel) rfl
theorem tb_1091 : (Cond.instanceMethod ({ cls := "OneSunbeam$Theft", name := "search", desc := "(LOneSunbeam$Town;I)V" } : MethodName)) ∈ gt := tb_of 1091 (by decide +kernel) rfl
theorem tb_1092 : (Cond.selects "OneSunbeam$Theft" ({ cls := "OneSunbeam$Theft", name := "search", desc := "(LOneSunbeam$Town;I)V" } : MethodName) ({ cls := "OneSunbeam$Theft", name := "search", desc := "(LOneSunbeam$Town;I)V" } : MethodName)) ∈ gt := tb_of 1092 (by decide +kernel) rfl
set_option maxRecDepth 8000 in
theorem tb_1093 : (Cond.code ({ cls := "OneSunbeam$Theft", name := "search", desc := "(LOneSunbeam$Town;I)V" } : MethodName) prog_9_method_2_code (5 : Nat) (Option.none : Option FieldType)) ∈ gt := sg_5 133 rfl rfl
theorem tb_1094 : (Cond.methodLink "OneSunbeam$Theft" (28 : Nat) ({ cls := "OneSunbeam$Theft", name := "walk", desc := "(LOneSunbeam$Town;I)V" } : MethodName)) ∈ gt := tb_of 1094 (by decide +kernel) rfl
theorem tb_1096 : (Cond.instanceMethod ({ cls := "OneSunbeam$Theft", name := "walk", desc := "(LOneSunbeam$Town;I)V" } : MethodName)) ∈ gt := tb_of 1096 (by decide +kernel) rfl
set_option maxRecDepth 8000 in
theorem tb_1097 : (Cond.code ({ cls := "OneSunbeam$Theft", name := "walk", desc := "(LOneSunbeam$Town;I)V" } : MethodName) prog_9_method_4_code (10 : Nat) (Option.none : Option FieldType)) ∈ gt := sg_5 137 rfl rfl
theorem tb_1098 : (Cond.methodLink "OneSunbeam$Theft" (57 : Nat) ({ cls := "OneSunbeam$Town", name := "wayOf", desc := "(I)I" } : MethodName)) ∈ gt := tb_of 1098 (by decide +kernel) rfl
theorem tb_1099 : (Cond.methodLink "OneSunbeam$Theft" (61 : Nat) ({ cls := "OneSunbeam$Town", name := "strengthOf", desc := "(I)I" } : MethodName)) ∈ gt := tb_of 1099 (by decide +kernel) rfl
theorem tb_1100 : (Cond.methodLink "OneSunbeam$Theft" (66 : Nat) ({ cls := "OneSunbeam$Town", name := "isOpen", desc := "(II)Z" } : MethodName)) ∈ gt := tb_of 1100 (by decide +kernel) rfl
theorem tb_1103 : (Cond.methodLink "OneSunbeam$Theft" (79 : Nat) ({ cls := "OneSunbeam$Town", name := "takeAt", desc := "(I)I" } : MethodName)) ∈ gt := tb_of 1103 (by decide +kernel) rfl
theorem tb_1104 : (Cond.instanceMethod ({ cls := "OneSunbeam$Town", name := "takeAt", desc := "(I)I" } : MethodName)) ∈ gt := tb_of 1104 (by decide +kernel) rfl
theorem tb_1105 : (Cond.selects "OneSunbeam$Town" ({ cls := "OneSunbeam$Town", name := "takeAt", desc := "(I)I" } : MethodName) ({ cls := "OneSunbeam$Town", name := "takeAt", desc := "(I)I" } : MethodName)) ∈ gt := tb_of 1105 (by decide +kernel) rfl
set_option maxRecDepth 8000 in
theorem tb_1106 : (Cond.code ({ cls := "OneSunbeam$Town", name := "takeAt", desc := "(I)I" } : MethodName) prog_10_method_22_code (3 : Nat) (Option.some FieldType.int)) ∈ gt := sg_5 146 rfl rfl
theorem tb_1107 : (Cond.methodLink "OneSunbeam$Theft" (85 : Nat) ({ cls := "OneSunbeam$Town", name := "isWhole", desc := "(I)Z" } : MethodName)) ∈ gt := tb_of 1107 (by decide +kernel) rfl
theorem tb_1108 : (Cond.methodLink "OneSunbeam$Theft" (89 : Nat) ({ cls := "OneSunbeam$Theft", name := "meet", desc := "(II)I" } : MethodName)) ∈ gt := tb_of 1108 (by decide +kernel) rfl
theorem tb_1110 : (Cond.instanceMethod ({ cls := "OneSunbeam$Theft", name := "meet", desc := "(II)I" } : MethodName)) ∈ gt := tb_of 1110 (by decide +kernel) rfl
set_option maxRecDepth 8000 in
theorem tb_1111 : (Cond.code ({ cls := "OneSunbeam$Theft", name := "meet", desc := "(II)I" } : MethodName) prog_9_method_5_code (3 : Nat) (Option.some FieldType.int)) ∈ gt := sg_5 151 rfl rfl
theorem tb_1112 : (Cond.methodLink "OneSunbeam$Theft" (92 : Nat) ({ cls := "OneSunbeam$Town", name := "lossOf", desc := "(I)I" } : MethodName)) ∈ gt := tb_of 1112 (by decide +kernel) rfl
theorem tb_1113 : (Cond.methodLink "OneSunbeam$Theft" (35 : Nat) ({ cls := "OneSunbeam$Town", name := "ofMirror", desc := "(II)I" } : MethodName)) ∈ gt := tb_of 1113 (by decide +kernel) rfl
theorem tb_1114 : (Cond.methodLink "OneSunbeam$Theft" (95 : Nat) ({ cls := "OneSunbeam$Town", name := "wayFrom", desc := "(II)I" } : MethodName)) ∈ gt := tb_of 1114 (by decide +kernel) rfl
theorem tb_1117 : (Cond.methodLink "OneSunbeam$Theft" (41 : Nat) ({ cls := "OneSunbeam$Theft", name := "isExplainedBehind", desc := "(LOneSunbeam$Town;II)Z" } : MethodName)) ∈ gt := tb_of 1117 (by decide +kernel) rfl
theorem tb_1119 : (Cond.instanceMethod ({ cls := "OneSunbeam$Theft", name := "isExplainedBehind", desc := "(LOneSunbeam$Town;II)Z" } : MethodName)) ∈ gt := tb_of 1119 (by decide +kernel) rfl
set_option maxRecDepth 8000 in
theorem tb_1120 : (Cond.code ({ cls := "OneSunbeam$Theft", name := "isExplainedBehind", desc := "(LOneSunbeam$Town;II)Z" } : MethodName) prog_9_method_3_code (7 : Nat) (Option.some FieldType.boolean)) ∈ gt := sg_5 160 rfl rfl
theorem tb_1121 : (Cond.methodLink "OneSunbeam$Theft" (45 : Nat) ({ cls := "java/util/Arrays", name := "fill", desc := "([II)V" } : MethodName)) ∈ gt := tb_of 1121 (by decide +kernel) rfl
theorem tb_1122 : (Cond.methodLink "OneSunbeamLaw" (132 : Nat) ({ cls := "OneSunbeam", name := "dusty", desc := "(IIII)I" } : MethodName)) ∈ gt := tb_of 1122 (by decide +kernel) rfl
theorem tb_1123 : (Cond.instanceMethod ({ cls := "OneSunbeam", name := "dusty", desc := "(IIII)I" } : MethodName)) ∈ gt := tb_of 1123 (by decide +kernel) rfl
theorem tb_1124 : (Cond.selects "OneSunbeam" ({ cls := "OneSunbeam", name := "dusty", desc := "(IIII)I" } : MethodName) ({ cls := "OneSunbeam", name := "dusty", desc := "(IIII)I" } : MethodName)) ∈ gt := tb_of 1124 (by decide +kernel) rfl
set_option maxRecDepth 8000 in
theorem tb_1125 : (Cond.code ({ cls := "OneSunbeam", name := "dusty", desc := "(IIII)I" } : MethodName) prog_1_method_29_code (7 : Nat) (Option.some FieldType.int)) ∈ gt := sg_5 165 rfl rfl
theorem tb_1126 : (Cond.methodLink "OneSunbeam" (317 : Nat) ({ cls := "OneSunbeam", name := "leastDust", desc := "(IIII)I" } : MethodName)) ∈ gt := tb_of 1126 (by decide +kernel) rfl
theorem tb_1128 : (Cond.instanceMethod ({ cls := "OneSunbeam", name := "leastDust", desc := "(IIII)I" } : MethodName)) ∈ gt := tb_of 1128 (by decide +kernel) rfl
set_option maxRecDepth 8000 in
theorem tb_1129 : (Cond.code ({ cls := "OneSunbeam", name := "leastDust", desc := "(IIII)I" } : MethodName) prog_1_method_43_code (5 : Nat) (Option.some FieldType.int)) ∈ gt := sg_5 169 rfl rfl
theorem tb_1130 : (Cond.methodLink "OneSunbeam" (335 : Nat) ({ cls := "OneSunbeam", name := "getWithDust", desc := "(IIII)I" } : MethodName)) ∈ gt := tb_of 1130 (by decide +kernel) rfl
theorem tb_1132 : (Cond.instanceMethod ({ cls := "OneSunbeam", name := "getWithDust", desc := "(IIII)I" } : MethodName)) ∈ gt := tb_of 1132 (by decide +kernel) rfl
set_option maxRecDepth 8000 in
theorem tb_1133 : (Cond.code ({ cls := "OneSunbeam", name := "getWithDust", desc := "(IIII)I" } : MethodName) prog_1_method_46_code (5 : Nat) (Option.some FieldType.int)) ∈ gt := sg_5 173 rfl rfl
theorem tb_1134 : (Cond.methodLink "OneSunbeam" (338 : Nat) ({ cls := "OneSunbeam$Beams", name := "touches", desc := "(I)Z" } : MethodName)) ∈ gt := tb_of 1134 (by decide +kernel) rfl
theorem tb_1135 : (Cond.methodLink "OneSunbeam" (345 : Nat) ({ cls := "OneSunbeam", name := "leastDustOneByOne", desc := "(IIII)I" } : MethodName)) ∈ gt := tb_of 1135 (by decide +kernel) rfl
theorem tb_1137 : (Cond.instanceMethod ({ cls := "OneSunbeam", name := "leastDustOneByOne", desc := "(IIII)I" } : MethodName)) ∈ gt := tb_of 1137 (by decide +kernel) rfl
set_option maxRecDepth 8000 in
theorem tb_1138 : (Cond.code ({ cls := "OneSunbeam", name := "leastDustOneByOne", desc := "(IIII)I" } : MethodName) prog_1_method_44_code (6 : Nat) (Option.some FieldType.int)) ∈ gt := sg_5 178 rfl rfl
theorem tb_1139 : (Cond.methodLink "OneSunbeam" (348 : Nat) ({ cls := "OneSunbeam", name := "leastDustByHalves", desc := "(IIII)I" } : MethodName)) ∈ gt := tb_of 1139 (by decide +kernel) rfl
theorem tb_1141 : (Cond.instanceMethod ({ cls := "OneSunbeam", name := "leastDustByHalves", desc := "(IIII)I" } : MethodName)) ∈ gt := tb_of 1141 (by decide +kernel) rfl
set_option maxRecDepth 8000 in
theorem tb_1142 : (Cond.code ({ cls := "OneSunbeam", name := "leastDustByHalves", desc := "(IIII)I" } : MethodName) prog_1_method_45_code (9 : Nat) (Option.some FieldType.int)) ∈ gt := sg_5 182 rfl rfl
theorem tb_1143 : (Cond.methodLink "OneSunbeamLaw" (136 : Nat) ({ cls := "OneSunbeam", name := "dark", desc := "(III)I" } : MethodName)) ∈ gt := tb_of 1143 (by decide +kernel) rfl
theorem tb_1144 : (Cond.instanceMethod ({ cls := "OneSunbeam", name := "dark", desc := "(III)I" } : MethodName)) ∈ gt := tb_of 1144 (by decide +kernel) rfl
theorem tb_1145 : (Cond.selects "OneSunbeam" ({ cls := "OneSunbeam", name := "dark", desc := "(III)I" } : MethodName) ({ cls := "OneSunbeam", name := "dark", desc := "(III)I" } : MethodName)) ∈ gt := tb_of 1145 (by decide +kernel) rfl
set_option maxRecDepth 8000 in
theorem tb_1146 : (Cond.code ({ cls := "OneSunbeam", name := "dark", desc := "(III)I" } : MethodName) prog_1_method_30_code (7 : Nat) (Option.some FieldType.int)) ∈ gt := sg_5 186 rfl rfl
theorem tb_1147 : (Cond.methodLink "OneSunbeam" (320 : Nat) ({ cls := "OneSunbeam$Town", name := "copyFrom", desc := "(LOneSunbeam$Town;)V" } : MethodName)) ∈ gt := tb_of 1147 (by decide +kernel) rfl
theorem tb_1148 : (Cond.instanceMethod ({ cls := "OneSunbeam$Town", name := "copyFrom", desc := "(LOneSunbeam$Town;)V" } : MethodName)) ∈ gt := tb_of 1148 (by decide +kernel) rfl
theorem tb_1149 : (Cond.selects "OneSunbeam$Town" ({ cls := "OneSunbeam$Town", name := "copyFrom", desc := "(LOneSunbeam$Town;)V" } : MethodName) ({ cls := "OneSunbeam$Town", name := "copyFrom", desc := "(LOneSunbeam$Town;)V" } : MethodName)) ∈ gt := tb_of 1149 (by decide +kernel) rfl
set_option maxRecDepth 8000 in
theorem tb_1150 : (Cond.code ({ cls := "OneSunbeam$Town", name := "copyFrom", desc := "(LOneSunbeam$Town;)V" } : MethodName) prog_10_method_3_code (2 : Nat) (Option.none : Option FieldType)) ∈ gt := sg_5 190 rfl rfl
theorem tb_1151 : (Cond.methodLink "OneSunbeam$Town" (73 : Nat) ({ cls := "java/lang/System", name := "arraycopy", desc := "(Ljava/lang/Object;ILjava/lang/Object;II)V" } : MethodName)) ∈ gt := tb_of 1151 (by decide +kernel) rfl
theorem tb_1152 : (Cond.methodLink "OneSunbeamLaw" (140 : Nat) ({ cls := "OneSunbeam", name := "ahead", desc := "(III)I" } : MethodName)) ∈ gt := tb_of 1152 (by decide +kernel) rfl
theorem tb_1153 : (Cond.instanceMethod ({ cls := "OneSunbeam", name := "ahead", desc := "(III)I" } : MethodName)) ∈ gt := tb_of 1153 (by decide +kernel) rfl
theorem tb_1154 : (Cond.selects "OneSunbeam" ({ cls := "OneSunbeam", name := "ahead", desc := "(III)I" } : MethodName) ({ cls := "OneSunbeam", name := "ahead", desc := "(III)I" } : MethodName)) ∈ gt := tb_of 1154 (by decide +kernel) rfl
set_option maxRecDepth 8000 in
theorem tb_1155 : (Cond.code ({ cls := "OneSunbeam", name := "ahead", desc := "(III)I" } : MethodName) prog_1_method_31_code (7 : Nat) (Option.some FieldType.int)) ∈ gt := sg_5 195 rfl rfl
theorem tb_1156 : (Cond.methodLink "OneSunbeamLaw" (144 : Nat) ({ cls := "OneSunbeam", name := "count", desc := "(I)I" } : MethodName)) ∈ gt := tb_of 1156 (by decide +kernel) rfl
theorem tb_1157 : (Cond.instanceMethod ({ cls := "OneSunbeam", name := "count", desc := "(I)I" } : MethodName)) ∈ gt := tb_of 1157 (by decide +kernel) rfl
theorem tb_1158 : (Cond.selects "OneSunbeam" ({ cls := "OneSunbeam", name := "count", desc := "(I)I" } : MethodName) ({ cls := "OneSunbeam", name := "count", desc := "(I)I" } : MethodName)) ∈ gt := tb_of 1158 (by decide +kernel) rfl
set_option maxRecDepth 8000 in
theorem tb_1159 : (Cond.code ({ cls := "OneSunbeam", name := "count", desc := "(I)I" } : MethodName) prog_1_method_32_code (2 : Nat) (Option.some FieldType.int)) ∈ gt := sg_5 199 rfl rfl
theorem tb_1160 : (Cond.methodLink "OneSunbeam" (324 : Nat) ({ cls := "OneSunbeam", name := "countOfTown", desc := "(I)I" } : MethodName)) ∈ gt := tb_of 1160 (by decide +kernel) rfl
theorem tb_1162 : (Cond.instanceMethod ({ cls := "OneSunbeam", name := "countOfTown", desc := "(I)I" } : MethodName)) ∈ gt := tb_of 1162 (by decide +kernel) rfl
set_option maxRecDepth 8000 in
theorem tb_1163 : (Cond.code ({ cls := "OneSunbeam", name := "countOfTown", desc := "(I)I" } : MethodName) prog_1_method_47_code (2 : Nat) (Option.some FieldType.int)) ∈ gt := sg_5 203 rfl rfl
theorem tb_1164 : (Cond.methodLink "OneSunbeamLaw" (148 : Nat) ({ cls := "OneSunbeam", name := "image", desc := "(I)I" } : MethodName)) ∈ gt := tb_of 1164 (by decide +kernel) rfl
theorem tb_1165 : (Cond.instanceMethod ({ cls := "OneSunbeam", name := "image", desc := "(I)I" } : MethodName)) ∈ gt := tb_of 1165 (by decide +kernel) rfl
theorem tb_1166 : (Cond.selects "OneSunbeam" ({ cls := "OneSunbeam", name := "image", desc := "(I)I" } : MethodName) ({ cls := "OneSunbeam", name := "image", desc := "(I)I" } : MethodName)) ∈ gt := tb_of 1166 (by decide +kernel) rfl
set_option maxRecDepth 8000 in
theorem tb_1167 : (Cond.code ({ cls := "OneSunbeam", name := "image", desc := "(I)I" } : MethodName) prog_1_method_33_code (3 : Nat) (Option.some FieldType.int)) ∈ gt := sg_5 207 rfl rfl
theorem tb_1168 : (Cond.methodLink "OneSunbeamLaw" (152 : Nat) ({ cls := "OneSunbeam", name := "back", desc := "(I)I" } : MethodName)) ∈ gt := tb_of 1168 (by decide +kernel) rfl
theorem tb_1169 : (Cond.instanceMethod ({ cls := "OneSunbeam", name := "back", desc := "(I)I" } : MethodName)) ∈ gt := tb_of 1169 (by decide +kernel) rfl
theorem tb_1170 : (Cond.selects "OneSunbeam" ({ cls := "OneSunbeam", name := "back", desc := "(I)I" } : MethodName) ({ cls := "OneSunbeam", name := "back", desc := "(I)I" } : MethodName)) ∈ gt := tb_of 1170 (by decide +kernel) rfl
set_option maxRecDepth 8000 in
theorem tb_1171 : (Cond.code ({ cls := "OneSunbeam", name := "back", desc := "(I)I" } : MethodName) prog_1_method_34_code (3 : Nat) (Option.some FieldType.int)) ∈ gt := sg_5 211 rfl rfl
theorem tb_1172 : (Cond.classLink "OneSunbeamLaw" (10 : Nat) "OneSunbeamModel") ∈ gt := tb_of 1172 (by decide +kernel) rfl
theorem tb_1173 : (Cond.instantiable "OneSunbeamModel" (80 : Nat)) ∈ gt := tb_of 1173 (by decide +kernel) rfl
theorem tb_1174 : (Cond.methodLink "OneSunbeamLaw" (12 : Nat) ({ cls := "OneSunbeamModel", name := "<init>", desc := "()V" } : MethodName)) ∈ gt := tb_of 1174 (by decide +kernel) rfl
theorem tb_1175 : (Cond.instanceMethod ({ cls := "OneSunbeamModel", name := "<init>", desc := "()V" } : MethodName)) ∈ gt := tb_of 1175 (by decide +kernel) rfl
set_option maxRecDepth 8000 in
theorem tb_1176 : (Cond.code ({ cls := "OneSunbeamModel", name := "<init>", desc := "()V" } : MethodName) prog_12_method_1_code (1 : Nat) (Option.none : Option FieldType)) ∈ gt := sg_5 216 rfl rfl
theorem tb_1177 : (Cond.methodLink "OneSunbeamModel" (1 : Nat) ({ cls := "java/lang/Object", name := "<init>", desc := "()V" } : MethodName)) ∈ gt := tb_of 1177 (by decide +kernel) rfl
theorem tb_1178 : (Cond.fieldLink "OneSunbeamModel" (7 : Nat) "OneSunbeamModel" "scalar" "[I") ∈ gt := tb_of 1178 (by decide +kernel) rfl
theorem tb_1179 : (Cond.fieldLink "OneSunbeamModel" (13 : Nat) "OneSunbeamModel" "rocky" "[I") ∈ gt := tb_of 1179 (by decide +kernel) rfl
theorem tb_1180 : (Cond.fieldLink "OneSunbeamModel" (16 : Nat) "OneSunbeamModel" "eyed" "[I") ∈ gt := tb_of 1180 (by decide +kernel) rfl
theorem tb_1181 : (Cond.fieldLink "OneSunbeamModel" (19 : Nat) "OneSunbeamModel" "sunWay" "[I") ∈ gt := tb_of 1181 (by decide +kernel) rfl
theorem tb_1182 : (Cond.fieldLink "OneSunbeamModel" (22 : Nat) "OneSunbeamModel" "sunStrong" "[I") ∈ gt := tb_of 1182 (by decide +kernel) rfl
theorem tb_1183 : (Cond.fieldLink "OneSunbeamModel" (25 : Nat) "OneSunbeamModel" "mirrorAt" "[I") ∈ gt := tb_of 1183 (by decide +kernel) rfl
theorem tb_1184 : (Cond.fieldLink "OneSunbeamModel" (28 : Nat) "OneSunbeamModel" "mx" "[I") ∈ gt := tb_of 1184 (by decide +kernel) rfl
theorem tb_1185 : (Cond.fieldLink "OneSunbeamModel" (31 : Nat) "OneSunbeamModel" "my" "[I") ∈ gt := tb_of 1185 (by decide +kernel) rfl
theorem tb_1186 : (Cond.fieldLink "OneSunbeamModel" (34 : Nat) "OneSunbeamModel" "slant" "[I") ∈ gt := tb_of 1186 (by decide +kernel) rfl
theorem tb_1187 : (Cond.fieldLink "OneSunbeamModel" (37 : Nat) "OneSunbeamModel" "loss" "[I") ∈ gt := tb_of 1187 (by decide +kernel) rfl
theorem tb_1188 : (Cond.fieldLink "OneSunbeamModel" (40 : Nat) "OneSunbeamModel" "through" "[I") ∈ gt := tb_of 1188 (by decide +kernel) rfl
theorem tb_1189 : (Cond.fieldLink "OneSunbeamModel" (43 : Nat) "OneSunbeamModel" "reach" "[I") ∈ gt := tb_of 1189 (by decide +kernel) rfl
theorem tb_1190 : (Cond.fieldLink "OneSunbeamModel" (46 : Nat) "OneSunbeamModel" "owner" "[I") ∈ gt := tb_of 1190 (by decide +kernel) rfl
theorem tb_1191 : (Cond.fieldLink "OneSunbeamModel" (49 : Nat) "OneSunbeamModel" "dust" "[I") ∈ gt := tb_of 1191 (by decide +kernel) rfl
theorem tb_1192 : (Cond.fieldLink "OneSunbeamModel" (52 : Nat) "OneSunbeamModel" "broken" "[I") ∈ gt := tb_of 1192 (by decide +kernel) rfl
theorem tb_1193 : (Cond.fieldLink "OneSunbeamModel" (55 : Nat) "OneSunbeamModel" "reading" "[I") ∈ gt := tb_of 1193 (by decide +kernel) rfl
theorem tb_1194 : (Cond.fieldLink "OneSunbeamModel" (58 : Nat) "OneSunbeamModel" "yx" "[I") ∈ gt := tb_of 1194 (by decide +kernel) rfl
theorem tb_1195 : (Cond.fieldLink "OneSunbeamModel" (61 : Nat) "OneSunbeamModel" "yy" "[I") ∈ gt := tb_of 1195 (by decide +kernel) rfl
theorem tb_1196 : (Cond.fieldLink "OneSunbeamModel" (64 : Nat) "OneSunbeamModel" "yToX" "[I") ∈ gt := tb_of 1196 (by decide +kernel) rfl
theorem tb_1197 : (Cond.fieldLink "OneSunbeamModel" (67 : Nat) "OneSunbeamModel" "yToY" "[I") ∈ gt := tb_of 1197 (by decide +kernel) rfl
theorem tb_1198 : (Cond.fieldLink "OneSunbeamModel" (70 : Nat) "OneSunbeamModel" "take" "[I") ∈ gt := tb_of 1198 (by decide +kernel) rfl
theorem tb_1199 : (Cond.fieldLink "OneSunbeamModel" (73 : Nat) "OneSunbeamModel" "want" "[I") ∈ gt := tb_of 1199 (by decide +kernel) rfl
theorem tb_1200 : (Cond.fieldLink "OneSunbeamModel" (76 : Nat) "OneSunbeamModel" "lit" "[I") ∈ gt := tb_of 1200 (by decide +kernel) rfl
theorem tb_1201 : (Cond.fieldLink "OneSunbeamModel" (232 : Nat) "OneSunbeamModel" "taped" "I") ∈ gt := tb_of 1201 (by decide +kernel) rfl
theorem tb_1202 : (Cond.fieldLink "OneSunbeamModel" (267 : Nat) "OneSunbeamModel" "p" "I") ∈ gt := tb_of 1202 (by decide +kernel) rfl
theorem tb_1203 : (Cond.fieldLink "OneSunbeamModel" (264 : Nat) "OneSunbeamModel" "fault" "I") ∈ gt := tb_of 1203 (by decide +kernel) rfl
theorem tb_1204 : (Cond.fieldLink "OneSunbeamModel" (294 : Nat) "OneSunbeamModel" "slot" "I") ∈ gt := tb_of 1204 (by decide +kernel) rfl
theorem tb_1205 : (Cond.fieldLink "OneSunbeamModel" (371 : Nat) "OneSunbeamModel" "laws" "I") ∈ gt := tb_of 1205 (by decide +kernel) rfl
theorem tb_1206 : (Cond.fieldLink "OneSunbeamModel" (297 : Nat) "OneSunbeamModel" "entries" "I") ∈ gt := tb_of 1206 (by decide +kernel) rfl
theorem tb_1207 : (Cond.fieldLink "OneSunbeamModel" (337 : Nat) "OneSunbeamModel" "deep" "I") ∈ gt := tb_of 1207 (by decide +kernel) rfl
theorem tb_1208 : (Cond.fieldLink "OneSunbeamModel" (300 : Nat) "OneSunbeamModel" "counted" "I") ∈ gt := tb_of 1208 (by decide +kernel) rfl
theorem tb_1209 : (Cond.fieldLink "OneSunbeamModel" (334 : Nat) "OneSunbeamModel" "opened" "I") ∈ gt := tb_of 1209 (by decide +kernel) rfl
theorem tb_1210 : (Cond.fieldLink "OneSunbeamModel" (79 : Nat) "OneSunbeamModel" "words" "I") ∈ gt := tb_of 1210 (by decide +kernel) rfl
theorem tb_1211 : (Cond.fieldLink "OneSunbeamModel" (83 : Nat) "OneSunbeamModel" "tape" "[B") ∈ gt := tb_of 1211 (by decide +kernel) rfl
theorem tb_1212 : (Cond.fieldLink "OneSunbeamModel" (87 : Nat) "OneSunbeamModel" "sort" "[I") ∈ gt := tb_of 1212 (by decide +kernel) rfl
theorem tb_1213 : (Cond.fieldLink "OneSunbeamModel" (90 : Nat) "OneSunbeamModel" "number" "[I") ∈ gt := tb_of 1213 (by decide +kernel) rfl
theorem tb_1214 : (Cond.fieldLink "OneSunbeamModel" (93 : Nat) "OneSunbeamModel" "clauses" "[I") ∈ gt := tb_of 1214 (by decide +kernel) rfl
theorem tb_1215 : (Cond.fieldLink "OneSunbeamModel" (96 : Nat) "OneSunbeamModel" "turned" "[I") ∈ gt := tb_of 1215 (by decide +kernel) rfl
theorem tb_1216 : (Cond.fieldLink "OneSunbeamModel" (99 : Nat) "OneSunbeamModel" "sumAt" "[I") ∈ gt := tb_of 1216 (by decide +kernel) rfl
theorem tb_1217 : (Cond.fieldLink "OneSunbeamModel" (102 : Nat) "OneSunbeamModel" "testAt" "[I") ∈ gt := tb_of 1217 (by decide +kernel) rfl
theorem tb_1218 : (Cond.fieldLink "OneSunbeamModel" (105 : Nat) "OneSunbeamModel" "endAt" "[I") ∈ gt := tb_of 1218 (by decide +kernel) rfl
theorem tb_1219 : (Cond.fieldLink "OneSunbeamModel" (108 : Nat) "OneSunbeamModel" "open" "[I") ∈ gt := tb_of 1219 (by decide +kernel) rfl
theorem tb_1220 : (Cond.fieldLink "OneSunbeamModel" (111 : Nat) "OneSunbeamModel" "asked" "[J") ∈ gt := tb_of 1220 (by decide +kernel) rfl
theorem tb_1221 : (Cond.fieldLink "OneSunbeamModel" (115 : Nat) "OneSunbeamModel" "stack" "[J") ∈ gt := tb_of 1221 (by decide +kernel) rfl
theorem tb_1222 : (Cond.fieldLink "OneSunbeamModel" (118 : Nat) "OneSunbeamModel" "waitX" "[I") ∈ gt := tb_of 1222 (by decide +kernel) rfl
theorem tb_1223 : (Cond.fieldLink "OneSunbeamModel" (121 : Nat) "OneSunbeamModel" "waitY" "[I") ∈ gt := tb_of 1223 (by decide +kernel) rfl
theorem tb_1224 : (Cond.fieldLink "OneSunbeamModel" (124 : Nat) "OneSunbeamModel" "waitWay" "[I") ∈ gt := tb_of 1224 (by decide +kernel) rfl
theorem tb_1225 : (Cond.fieldLink "OneSunbeamModel" (127 : Nat) "OneSunbeamModel" "waitStrong" "[I") ∈ gt := tb_of 1225 (by decide +kernel) rfl
theorem tb_1226 : (Cond.fieldLink "OneSunbeamModel" (130 : Nat) "OneSunbeamModel" "passing" "[I") ∈ gt := tb_of 1226 (by decide +kernel) rfl
theorem tb_1227 : (Cond.fieldLink "OneSunbeamModel" (133 : Nat) "OneSunbeamModel" "got" "[I") ∈ gt := tb_of 1227 (by decide +kernel) rfl
theorem tb_1228 : (Cond.fieldLink "OneSunbeamModel" (391 : Nat) "OneSunbeamModel" "firstWaits" "I") ∈ gt := tb_of 1228 (by decide +kernel) rfl
theorem tb_1229 : (Cond.fieldLink "OneSunbeamModel" (385 : Nat) "OneSunbeamModel" "waits" "I") ∈ gt := tb_of 1229 (by decide +kernel) rfl
theorem tb_1230 : (Cond.fieldLink "OneSunbeamModel" (410 : Nat) "OneSunbeamModel" "lost" "I") ∈ gt := tb_of 1230 (by decide +kernel) rfl
theorem tb_1231 : (Cond.fieldLink "OneSunbeamModel" (388 : Nat) "OneSunbeamModel" "spilt" "I") ∈ gt := tb_of 1231 (by decide +kernel) rfl
theorem tb_1232 : (Cond.fieldLink "OneSunbeamModel" (407 : Nat) "OneSunbeamModel" "entered" "I") ∈ gt := tb_of 1232 (by decide +kernel) rfl
theorem tb_1233 : (Cond.fieldLink "OneSunbeamModel" (394 : Nat) "OneSunbeamModel" "beams" "I") ∈ gt := tb_of 1233 (by decide +kernel) rfl
theorem tb_1234 : (Cond.fieldLink "OneSunbeamModel" (136 : Nat) "OneSunbeamModel" "thief" "I") ∈ gt := tb_of 1234 (by decide +kernel) rfl
theorem tb_1235 : (Cond.fieldLink "OneSunbeamModel" (139 : Nat) "OneSunbeamModel" "isMet" "[Z") ∈ gt := tb_of 1235 (by decide +kernel) rfl
theorem tb_1236 : (Cond.fieldLink "OneSunbeamModel" (397 : Nat) "OneSunbeamModel" "seeks" "Z") ∈ gt := tb_of 1236 (by decide +kernel) rfl
theorem tb_1237 : (Cond.fieldLink "OneSunbeamModel" (143 : Nat) "OneSunbeamModel" "order" "[I") ∈ gt := tb_of 1237 (by decide +kernel) rfl
theorem tb_1238 : (Cond.fieldLink "OneSunbeamModel" (146 : Nat) "OneSunbeamModel" "comes" "[I") ∈ gt := tb_of 1238 (by decide +kernel) rfl
theorem tb_1239 : (Cond.fieldLink "OneSunbeamModel" (149 : Nat) "OneSunbeamModel" "comesAt" "[I") ∈ gt := tb_of 1239 (by decide +kernel) rfl
theorem tb_1240 : (Cond.fieldLink "OneSunbeamModel" (401 : Nat) "OneSunbeamModel" "manyMet" "I") ∈ gt := tb_of 1240 (by decide +kernel) rfl
theorem tb_1241 : (Cond.fieldLink "OneSunbeamModel" (152 : Nat) "OneSunbeamModel" "dayGot" "[I") ∈ gt := tb_of 1241 (by decide +kernel) rfl
theorem tb_1242 : (Cond.fieldLink "OneSunbeamModel" (452 : Nat) "OneSunbeamModel" "blindHours" "I") ∈ gt := tb_of 1242 (by decide +kernel) rfl
theorem tb_1243 : (Cond.fieldLink "OneSunbeamModel" (155 : Nat) "OneSunbeamModel" "before" "[I") ∈ gt := tb_of 1243 (by decide +kernel) rfl
theorem tb_1244 : (Cond.fieldLink "OneSunbeamModel" (158 : Nat) "OneSunbeamModel" "keptSlant" "[I") ∈ gt := tb_of 1244 (by decide +kernel) rfl
theorem tb_1245 : (Cond.fieldLink "OneSunbeamModel" (161 : Nat) "OneSunbeamModel" "keptBroken" "[I") ∈ gt := tb_of 1245 (by decide +kernel) rfl
theorem tb_1246 : (Cond.fieldLink "OneSunbeamModel" (164 : Nat) "OneSunbeamModel" "keptDust" "[I") ∈ gt := tb_of 1246 (by decide +kernel) rfl
theorem tb_1247 : (Cond.fieldLink "OneSunbeamModel" (167 : Nat) "OneSunbeamModel" "keptLit" "[I") ∈ gt := tb_of 1247 (by decide +kernel) rfl
theorem tb_1248 : (Cond.fieldLink "OneSunbeamModel" (170 : Nat) "OneSunbeamModel" "row" "[I") ∈ gt := tb_of 1248 (by decide +kernel) rfl
theorem tb_1249 : (Cond.fieldLink "OneSunbeamModel" (173 : Nat) "OneSunbeamModel" "bestRow" "[I") ∈ gt := tb_of 1249 (by decide +kernel) rfl
theorem tb_1250 : (Cond.fieldLink "OneSunbeamModel" (176 : Nat) "OneSunbeamModel" "mended" "[I") ∈ gt := tb_of 1250 (by decide +kernel) rfl
theorem tb_1251 : (Cond.fieldLink "OneSunbeamModel" (526 : Nat) "OneSunbeamModel" "keptDay" "I") ∈ gt := tb_of 1251 (by decide +kernel) rfl
theorem tb_1252 : (Cond.fieldLink "OneSunbeamModel" (529 : Nat) "OneSunbeamModel" "keptMonth" "I") ∈ gt := tb_of 1252 (by decide +kernel) rfl
theorem tb_1253 : (Cond.fieldLink "OneSunbeamModel" (179 : Nat) "OneSunbeamModel" "images" "[I") ∈ gt := tb_of 1253 (by decide +kernel) rfl
theorem tb_1254 : (Cond.fieldLink "OneSunbeamModel" (182 : Nat) "OneSunbeamModel" "isMade" "[Z") ∈ gt := tb_of 1254 (by decide +kernel) rfl
theorem tb_1255 : (Cond.fieldLink "OneSunbeamModel" (545 : Nat) "OneSunbeamModel" "imageAt" "I") ∈ gt := tb_of 1255 (by decide +kernel) rfl
theorem tb_1256 : (Cond.fieldLink "OneSunbeamModel" (542 : Nat) "OneSunbeamModel" "goesBack" "Z") ∈ gt := tb_of 1256 (by decide +kernel) rfl
theorem tb_1418 : (Cond.arrayClass FieldType.boolean) ∈ gt := tb_of 1418 (by decide +kernel) rfl
theorem tb_1419 : (Cond.methodLink "OneSunbeamLaw" (17 : Nat) ({ cls := "OneSunbeamModel", name := "town", desc := "(IIIII)Z" } : MethodName)) ∈ gt := tb_of 1419 (by decide +kernel) rfl
theorem tb_1420 : (Cond.instanceMethod ({ cls := "OneSunbeamModel", name := "town", desc := "(IIIII)Z" } : MethodName)) ∈ gt := tb_of 1420 (by decide +kernel) rfl
theorem tb_1421 : (Cond.selects "OneSunbeamModel" ({ cls := "OneSunbeamModel", name := "town", desc := "(IIIII)Z" } : MethodName) ({ cls := "OneSunbeamModel", name := "town", desc := "(IIIII)Z" } : MethodName)) ∈ gt := tb_of 1421 (by decide +kernel) rfl
set_option maxRecDepth 8000 in
theorem tb_1422 : (Cond.code ({ cls := "OneSunbeamModel", name := "town", desc := "(IIIII)Z" } : MethodName) prog_12_method_11_code (7 : Nat) (Option.some FieldType.boolean)) ∈ gt := sg_6 222 rfl rfl
theorem tb_1423 : (Cond.constantLong "OneSunbeamModel" (200 : Nat) (4 : Int64)) ∈ gt := tb_of 1423 (by decide +kernel) rfl
theorem tb_1424 : (Cond.constantLong "OneSunbeamModel" (202 : Nat) (24 : Int64)) ∈ gt := tb_of 1424 (by decide +kernel) rfl
theorem tb_1425 : (Cond.methodLink "OneSunbeamModel" (192 : Nat) ({ cls := "OneSunbeamModel", name := "in", desc := "(JJJ)Z" } : MethodName)) ∈ gt := tb_of 1425 (by decide +kernel) rfl
theorem tb_1426 : (Cond.static ({ cls := "OneSunbeamModel", name := "in", desc := "(JJJ)Z" } : MethodName)) ∈ gt := tb_of 1426 (by decide +kernel) rfl
set_option maxRecDepth 8000 in
theorem tb_1427 : (Cond.code ({ cls := "OneSunbeamModel", name := "in", desc := "(JJJ)Z" } : MethodName) prog_12_method_3_code (6 : Nat) (Option.some FieldType.boolean)) ∈ gt := sg_6 227 rfl rfl
theorem tb_1428 : (Cond.constantLong "OneSunbeamModel" (204 : Nat) (1000 : Int64)) ∈ gt := tb_of 1428 (by decide +kernel) rfl
theorem tb_1429 : (Cond.methodLink "OneSunbeamLaw" (22 : Nat) ({ cls := "OneSunbeamModel", name := "rock", desc := "(IIIIZ)I" } : MethodName)) ∈ gt := tb_of 1429 (by decide +kernel) rfl
theorem tb_1430 : (Cond.instanceMethod ({ cls := "OneSunbeamModel", name := "rock", desc := "(IIIIZ)I" } : MethodName)) ∈ gt := tb_of 1430 (by decide +kernel) rfl
theorem tb_1431 : (Cond.selects "OneSunbeamModel" ({ cls := "OneSunbeamModel", name := "rock", desc := "(IIIIZ)I" } : MethodName) ({ cls := "OneSunbeamModel", name := "rock", desc := "(IIIIZ)I" } : MethodName)) ∈ gt := tb_of 1431 (by decide +kernel) rfl
set_option maxRecDepth 8000 in
theorem tb_1432 : (Cond.code ({ cls := "OneSunbeamModel", name := "rock", desc := "(IIIIZ)I" } : MethodName) prog_12_method_12_code (9 : Nat) (Option.some FieldType.int)) ∈ gt := sg_6 232 rfl rfl
theorem tb_1433 : (Cond.methodLink "OneSunbeamModel" (206 : Nat) ({ cls := "OneSunbeamModel", name := "isArea", desc := "(IIII)Z" } : MethodName)) ∈ gt := tb_of 1433 (by decide +kernel) rfl
theorem tb_1435 : (Cond.instanceMethod ({ cls := "OneSunbeamModel", name := "isArea", desc := "(IIII)Z" } : MethodName)) ∈ gt := tb_of 1435 (by decide +kernel) rfl
set_option maxRecDepth 8000 in
theorem tb_1436 : (Cond.code ({ cls := "OneSunbeamModel", name := "isArea", desc := "(IIII)Z" } : MethodName) prog_12_method_8_code (5 : Nat) (Option.some FieldType.boolean)) ∈ gt := sg_6 236 rfl rfl
theorem tb_1437 : (Cond.methodLink "OneSunbeamModel" (196 : Nat) ({ cls := "OneSunbeamModel", name := "isCell", desc := "(II)Z" } : MethodName)) ∈ gt := tb_of 1437 (by decide +kernel) rfl
theorem tb_1439 : (Cond.instanceMethod ({ cls := "OneSunbeamModel", name := "isCell", desc := "(II)Z" } : MethodName)) ∈ gt := tb_of 1439 (by decide +kernel) rfl
set_option maxRecDepth 8000 in
theorem tb_1440 : (Cond.code ({ cls := "OneSunbeamModel", name := "isCell", desc := "(II)Z" } : MethodName) prog_12_method_7_code (3 : Nat) (Option.some FieldType.boolean)) ∈ gt := sg_7 0 rfl rfl
theorem tb_1441 : (Cond.methodLink "OneSunbeamModel" (188 : Nat) ({ cls := "OneSunbeamModel", name := "isTown", desc := "()Z" } : MethodName)) ∈ gt := tb_of 1441 (by decide +kernel) rfl
theorem tb_1443 : (Cond.instanceMethod ({ cls := "OneSunbeamModel", name := "isTown", desc := "()Z" } : MethodName)) ∈ gt := tb_of 1443 (by decide +kernel) rfl
set_option maxRecDepth 8000 in
theorem tb_1444 : (Cond.code ({ cls := "OneSunbeamModel", name := "isTown", desc := "()Z" } : MethodName) prog_12_method_6_code (1 : Nat) (Option.some FieldType.boolean)) ∈ gt := sg_7 4 rfl rfl
theorem tb_1445 : (Cond.methodLink "OneSunbeamLaw" (27 : Nat) ({ cls := "OneSunbeamModel", name := "sun", desc := "(IIII)Z" } : MethodName)) ∈ gt := tb_of 1445 (by decide +kernel) rfl
theorem tb_1446 : (Cond.instanceMethod ({ cls := "OneSunbeamModel", name := "sun", desc := "(IIII)Z" } : MethodName)) ∈ gt := tb_of 1446 (by decide +kernel) rfl
theorem tb_1447 : (Cond.selects "OneSunbeamModel" ({ cls := "OneSunbeamModel", name := "sun", desc := "(IIII)Z" } : MethodName) ({ cls := "OneSunbeamModel", name := "sun", desc := "(IIII)Z" } : MethodName)) ∈ gt := tb_of 1447 (by decide +kernel) rfl
set_option maxRecDepth 8000 in
theorem tb_1448 : (Cond.code ({ cls := "OneSunbeamModel", name := "sun", desc := "(IIII)Z" } : MethodName) prog_12_method_13_code (6 : Nat) (Option.some FieldType.boolean)) ∈ gt := sg_7 8 rfl rfl
theorem tb_1449 : (Cond.constantLong "OneSunbeamModel" (210 : Nat) (11 : Int64)) ∈ gt := tb_of 1449 (by decide +kernel) rfl
theorem tb_1450 : (Cond.constantLong "OneSunbeamModel" (212 : Nat) (23 : Int64)) ∈ gt := tb_of 1450 (by decide +kernel) rfl
theorem tb_1451 : (Cond.constantLong "OneSunbeamModel" (214 : Nat) (7 : Int64)) ∈ gt := tb_of 1451 (by decide +kernel) rfl
theorem tb_1452 : (Cond.constantLong "OneSunbeamModel" (216 : Nat) (99999 : Int64)) ∈ gt := tb_of 1452 (by decide +kernel) rfl
theorem tb_1453 : (Cond.methodLink "OneSunbeamLaw" (32 : Nat) ({ cls := "OneSunbeamModel", name := "mirror", desc := "(IIIIIII)I" } : MethodName)) ∈ gt := tb_of 1453 (by decide +kernel) rfl
theorem tb_1454 : (Cond.instanceMethod ({ cls := "OneSunbeamModel", name := "mirror", desc := "(IIIIIII)I" } : MethodName)) ∈ gt := tb_of 1454 (by decide +kernel) rfl
theorem tb_1455 : (Cond.selects "OneSunbeamModel" ({ cls := "OneSunbeamModel", name := "mirror", desc := "(IIIIIII)I" } : MethodName) ({ cls := "OneSunbeamModel", name := "mirror", desc := "(IIIIIII)I" } : MethodName)) ∈ gt := tb_of 1455 (by decide +kernel) rfl
set_option maxRecDepth 8000 in
theorem tb_1456 : (Cond.code ({ cls := "OneSunbeamModel", name := "mirror", desc := "(IIIIIII)I" } : MethodName) prog_12_method_14_code (9 : Nat) (Option.some FieldType.int)) ∈ gt := sg_7 16 rfl rfl
theorem tb_1457 : (Cond.constantLong "OneSunbeamModel" (218 : Nat) (9 : Int64)) ∈ gt := tb_of 1457 (by decide +kernel) rfl
theorem tb_1458 : (Cond.methodLink "OneSunbeamLaw" (37 : Nat) ({ cls := "OneSunbeamModel", name := "sets", desc := "(III)I" } : MethodName)) ∈ gt := tb_of 1458 (by decide +kernel) rfl
theorem tb_1459 : (Cond.instanceMethod ({ cls := "OneSunbeamModel", name := "sets", desc := "(III)I" } : MethodName)) ∈ gt := tb_of 1459 (by decide +kernel) rfl
theorem tb_1460 : (Cond.selects "OneSunbeamModel" ({ cls := "OneSunbeamModel", name := "sets", desc := "(III)I" } : MethodName) ({ cls := "OneSunbeamModel", name := "sets", desc := "(III)I" } : MethodName)) ∈ gt := tb_of 1460 (by decide +kernel) rfl
set_option maxRecDepth 8000 in
theorem tb_1461 : (Cond.code ({ cls := "OneSunbeamModel", name := "sets", desc := "(III)I" } : MethodName) prog_12_method_15_code (5 : Nat) (Option.some FieldType.int)) ∈ gt := sg_7 21 rfl rfl
theorem tb_1462 : (Cond.methodLink "OneSunbeamModel" (220 : Nat) ({ cls := "OneSunbeamModel", name := "isMirror", desc := "(I)Z" } : MethodName)) ∈ gt := tb_of 1462 (by decide +kernel) rfl
theorem tb_1464 : (Cond.instanceMethod ({ cls := "OneSunbeamModel", name := "isMirror", desc := "(I)Z" } : MethodName)) ∈ gt := tb_of 1464 (by decide +kernel) rfl
set_option maxRecDepth 8000 in
theorem tb_1465 : (Cond.code ({ cls := "OneSunbeamModel", name := "isMirror", desc := "(I)Z" } : MethodName) prog_12_method_9_code (2 : Nat) (Option.some FieldType.boolean)) ∈ gt := sg_7 25 rfl rfl
theorem tb_1466 : (Cond.constantLong "OneSunbeamModel" (224 : Nat) (3 : Int64)) ∈ gt := tb_of 1466 (by decide +kernel) rfl
theorem tb_1467 : (Cond.constantLong "OneSunbeamModel" (226 : Nat) (-1 : Int64)) ∈ gt := tb_of 1467 (by decide +kernel) rfl
theorem tb_1468 : (Cond.methodLink "OneSunbeamLaw" (42 : Nat) ({ cls := "OneSunbeamModel", name := "yard", desc := "(IIIIII)I" } : MethodName)) ∈ gt := tb_of 1468 (by decide +kernel) rfl
theorem tb_1469 : (Cond.instanceMethod ({ cls := "OneSunbeamModel", name := "yard", desc := "(IIIIII)I" } : MethodName)) ∈ gt := tb_of 1469 (by decide +kernel) rfl
theorem tb_1470 : (Cond.selects "OneSunbeamModel" ({ cls := "OneSunbeamModel", name := "yard", desc := "(IIIIII)I" } : MethodName) ({ cls := "OneSunbeamModel", name := "yard", desc := "(IIIIII)I" } : MethodName)) ∈ gt := tb_of 1470 (by decide +kernel) rfl
set_option maxRecDepth 8000 in
theorem tb_1471 : (Cond.code ({ cls := "OneSunbeamModel", name := "yard", desc := "(IIIIII)I" } : MethodName) prog_12_method_16_code (8 : Nat) (Option.some FieldType.int)) ∈ gt := sg_7 31 rfl rfl
theorem tb_1472 : (Cond.constantLong "OneSunbeamModel" (228 : Nat) (9999999 : Int64)) ∈ gt := tb_of 1472 (by decide +kernel) rfl
theorem tb_1473 : (Cond.methodLink "OneSunbeamLaw" (46 : Nat) ({ cls := "OneSunbeamModel", name := "eyes", desc := "(III)I" } : MethodName)) ∈ gt := tb_of 1473 (by decide +kernel) rfl
theorem tb_1474 : (Cond.instanceMethod ({ cls := "OneSunbeamModel", name := "eyes", desc := "(III)I" } : MethodName)) ∈ gt := tb_of 1474 (by decide +kernel) rfl
theorem tb_1475 : (Cond.selects "OneSunbeamModel" ({ cls := "OneSunbeamModel", name := "eyes", desc := "(III)I" } : MethodName) ({ cls := "OneSunbeamModel", name := "eyes", desc := "(III)I" } : MethodName)) ∈ gt := tb_of 1475 (by decide +kernel) rfl
set_option maxRecDepth 8000 in
theorem tb_1476 : (Cond.code ({ cls := "OneSunbeamModel", name := "eyes", desc := "(III)I" } : MethodName) prog_12_method_17_code (5 : Nat) (Option.some FieldType.int)) ∈ gt := sg_7 36 rfl rfl
theorem tb_1477 : (Cond.methodLink "OneSunbeamLaw" (51 : Nat) ({ cls := "OneSunbeamModel", name := "month", desc := "(I)I" } : MethodName)) ∈ gt := tb_of 1477 (by decide +kernel) rfl
theorem tb_1478 : (Cond.instanceMethod ({ cls := "OneSunbeamModel", name := "month", desc := "(I)I" } : MethodName)) ∈ gt := tb_of 1478 (by decide +kernel) rfl
theorem tb_1479 : (Cond.selects "OneSunbeamModel" ({ cls := "OneSunbeamModel", name := "month", desc := "(I)I" } : MethodName) ({ cls := "OneSunbeamModel", name := "month", desc := "(I)I" } : MethodName)) ∈ gt := tb_of 1479 (by decide +kernel) rfl
set_option maxRecDepth 8000 in
theorem tb_1480 : (Cond.code ({ cls := "OneSunbeamModel", name := "month", desc := "(I)I" } : MethodName) prog_12_method_18_code (3 : Nat) (Option.some FieldType.int)) ∈ gt := sg_7 40 rfl rfl
theorem tb_1481 : (Cond.methodLink "OneSunbeamLaw" (55 : Nat) ({ cls := "OneSunbeamModel", name := "falls", desc := "(I)I" } : MethodName)) ∈ gt := tb_of 1481 (by decide +kernel) rfl
theorem tb_1482 : (Cond.instanceMethod ({ cls := "OneSunbeamModel", name := "falls", desc := "(I)I" } : MethodName)) ∈ gt := tb_of 1482 (by decide +kernel) rfl
theorem tb_1483 : (Cond.selects "OneSunbeamModel" ({ cls := "OneSunbeamModel", name := "falls", desc := "(I)I" } : MethodName) ({ cls := "OneSunbeamModel", name := "falls", desc := "(I)I" } : MethodName)) ∈ gt := tb_of 1483 (by decide +kernel) rfl
set_option maxRecDepth 8000 in
theorem tb_1484 : (Cond.code ({ cls := "OneSunbeamModel", name := "falls", desc := "(I)I" } : MethodName) prog_12_method_19_code (3 : Nat) (Option.some FieldType.int)) ∈ gt := sg_7 44 rfl rfl
theorem tb_1485 : (Cond.constantLong "OneSunbeamModel" (230 : Nat) (99 : Int64)) ∈ gt := tb_of 1485 (by decide +kernel) rfl
theorem tb_1486 : (Cond.methodLink "OneSunbeamLaw" (60 : Nat) ({ cls := "OneSunbeamModel", name := "feed", desc := "(IIIII)I" } : MethodName)) ∈ gt := tb_of 1486 (by decide +kernel) rfl
theorem tb_1487 : (Cond.instanceMethod ({ cls := "OneSunbeamModel", name := "feed", desc := "(IIIII)I" } : MethodName)) ∈ gt := tb_of 1487 (by decide +kernel) rfl
theorem tb_1488 : (Cond.selects "OneSunbeamModel" ({ cls := "OneSunbeamModel", name := "feed", desc := "(IIIII)I" } : MethodName) ({ cls := "OneSunbeamModel", name := "feed", desc := "(IIIII)I" } : MethodName)) ∈ gt := tb_of 1488 (by decide +kernel) rfl
set_option maxRecDepth 8000 in
theorem tb_1489 : (Cond.code ({ cls := "OneSunbeamModel", name := "feed", desc := "(IIIII)I" } : MethodName) prog_12_method_20_code (6 : Nat) (Option.some FieldType.int)) ∈ gt := sg_7 49 rfl rfl
theorem tb_1490 : (Cond.methodLink "OneSunbeamModel" (235 : Nat) ({ cls := "OneSunbeamModel", name := "put", desc := "(I)V" } : MethodName)) ∈ gt := tb_of 1490 (by decide +kernel) rfl
theorem tb_1492 : (Cond.instanceMethod ({ cls := "OneSunbeamModel", name := "put", desc := "(I)V" } : MethodName)) ∈ gt := tb_of 1492 (by decide +kernel) rfl
set_option maxRecDepth 8000 in
theorem tb_1493 : (Cond.code ({ cls := "OneSunbeamModel", name := "put", desc := "(I)V" } : MethodName) prog_12_method_21_code (3 : Nat) (Option.none : Option FieldType)) ∈ gt := sg_7 53 rfl rfl
theorem tb_1494 : (Cond.methodLink "OneSunbeamLaw" (64 : Nat) ({ cls := "OneSunbeamModel", name := "end", desc := "(I)I" } : MethodName)) ∈ gt := tb_of 1494 (by decide +kernel) rfl
theorem tb_1495 : (Cond.instanceMethod ({ cls := "OneSunbeamModel", name := "end", desc := "(I)I" } : MethodName)) ∈ gt := tb_of 1495 (by decide +kernel) rfl
theorem tb_1496 : (Cond.selects "OneSunbeamModel" ({ cls := "OneSunbeamModel", name := "end", desc := "(I)I" } : MethodName) ({ cls := "OneSunbeamModel", name := "end", desc := "(I)I" } : MethodName)) ∈ gt := tb_of 1496 (by decide +kernel) rfl
set_option maxRecDepth 8000 in
theorem tb_1497 : (Cond.code ({ cls := "OneSunbeamModel", name := "end", desc := "(I)I" } : MethodName) prog_12_method_22_code (2 : Nat) (Option.some FieldType.int)) ∈ gt := sg_7 57 rfl rfl
theorem tb_1498 : (Cond.methodLink "OneSunbeamLaw" (69 : Nat) ({ cls := "OneSunbeamModel", name := "law", desc := "()I" } : MethodName)) ∈ gt := tb_of 1498 (by decide +kernel) rfl
theorem tb_1499 : (Cond.instanceMethod ({ cls := "OneSunbeamModel", name := "law", desc := "()I" } : MethodName)) ∈ gt := tb_of 1499 (by decide +kernel) rfl
theorem tb_1500 : (Cond.selects "OneSunbeamModel" ({ cls := "OneSunbeamModel", name := "law", desc := "()I" } : MethodName) ({ cls := "OneSunbeamModel", name := "law", desc := "()I" } : MethodName)) ∈ gt := tb_of 1500 (by decide +kernel) rfl
set_option maxRecDepth 8000 in
theorem tb_1501 : (Cond.code ({ cls := "OneSunbeamModel", name := "law", desc := "()I" } : MethodName) prog_12_method_43_code (3 : Nat) (Option.some FieldType.int)) ∈ gt := sg_7 61 rfl rfl
theorem tb_1502 : (Cond.methodLink "OneSunbeamModel" (374 : Nat) ({ cls := "OneSunbeamModel", name := "clause", desc := "(I)V" } : MethodName)) ∈ gt := tb_of 1502 (by decide +kernel) rfl
theorem tb_1504 : (Cond.instanceMethod ({ cls := "OneSunbeamModel", name := "clause", desc := "(I)V" } : MethodName)) ∈ gt := tb_of 1504 (by decide +kernel) rfl
set_option maxRecDepth 8000 in
theorem tb_1505 : (Cond.code ({ cls := "OneSunbeamModel", name := "clause", desc := "(I)V" } : MethodName) prog_12_method_42_code (4 : Nat) (Option.none : Option FieldType)) ∈ gt := sg_7 65 rfl rfl
theorem tb_1506 : (Cond.methodLink "OneSunbeamModel" (287 : Nat) ({ cls := "OneSunbeamModel", name := "blanks", desc := "()V" } : MethodName)) ∈ gt := tb_of 1506 (by decide +kernel) rfl
theorem tb_1508 : (Cond.instanceMethod ({ cls := "OneSunbeamModel", name := "blanks", desc := "()V" } : MethodName)) ∈ gt := tb_of 1508 (by decide +kernel) rfl
set_option maxRecDepth 8000 in
theorem tb_1509 : (Cond.code ({ cls := "OneSunbeamModel", name := "blanks", desc := "()V" } : MethodName) prog_12_method_26_code (1 : Nat) (Option.none : Option FieldType)) ∈ gt := sg_7 69 rfl rfl
theorem tb_1510 : (Cond.methodLink "OneSunbeamModel" (270 : Nat) ({ cls := "OneSunbeamModel", name := "sign", desc := "()I" } : MethodName)) ∈ gt := tb_of 1510 (by decide +kernel) rfl
theorem tb_1512 : (Cond.instanceMethod ({ cls := "OneSunbeamModel", name := "sign", desc := "()I" } : MethodName)) ∈ gt := tb_of 1512 (by decide +kernel) rfl
set_option maxRecDepth 8000 in
theorem tb_1513 : (Cond.code ({ cls := "OneSunbeamModel", name := "sign", desc := "()I" } : MethodName) prog_12_method_25_code (1 : Nat) (Option.some FieldType.int)) ∈ gt := sg_7 73 rfl rfl
theorem tb_1515 : (Cond.methodLink "OneSunbeamModel" (290 : Nat) ({ cls := "OneSunbeamModel", name := "stands", desc := "(Ljava/lang/String;)Z" } : MethodName)) ∈ gt := tb_of 1515 (by decide +kernel) rfl
theorem tb_1517 : (Cond.instanceMethod ({ cls := "OneSunbeamModel", name := "stands", desc := "(Ljava/lang/String;)Z" } : MethodName)) ∈ gt := tb_of 1517 (by decide +kernel) rfl
set_option maxRecDepth 8000 in
theorem tb_1518 : (Cond.code ({ cls := "OneSunbeamModel", name := "stands", desc := "(Ljava/lang/String;)Z" } : MethodName) prog_12_method_28_code (5 : Nat) (Option.some FieldType.boolean)) ∈ gt := sg_7 78 rfl rfl
theorem tb_1519 : (Cond.methodLink "OneSunbeamModel" (278 : Nat) ({ cls := "java/lang/String", name := "length", desc := "()I" } : MethodName)) ∈ gt := tb_of 1519 (by decide +kernel) rfl
theorem tb_1520 : (Cond.methodLink "OneSunbeamModel" (283 : Nat) ({ cls := "java/lang/String", name := "charAt", desc := "(I)C" } : MethodName)) ∈ gt := tb_of 1520 (by decide +kernel) rfl
theorem tb_1521 : (Cond.methodLink "OneSunbeamModel" (303 : Nat) ({ cls := "OneSunbeamModel", name := "fails", desc := "(II)V" } : MethodName)) ∈ gt := tb_of 1521 (by decide +kernel) rfl
theorem tb_1523 : (Cond.instanceMethod ({ cls := "OneSunbeamModel", name := "fails", desc := "(II)V" } : MethodName)) ∈ gt := tb_of 1523 (by decide +kernel) rfl
set_option maxRecDepth 8000 in
theorem tb_1524 : (Cond.code ({ cls := "OneSunbeamModel", name := "fails", desc := "(II)V" } : MethodName) prog_12_method_24_code (3 : Nat) (Option.none : Option FieldType)) ∈ gt := sg_7 84 rfl rfl
theorem tb_1525 : (Cond.methodLink "OneSunbeamModel" (311 : Nat) ({ cls := "OneSunbeamModel", name := "digits", desc := "(I)I" } : MethodName)) ∈ gt := tb_of 1525 (by decide +kernel) rfl
theorem tb_1527 : (Cond.instanceMethod ({ cls := "OneSunbeamModel", name := "digits", desc := "(I)I" } : MethodName)) ∈ gt := tb_of 1527 (by decide +kernel) rfl
set_option maxRecDepth 8000 in
theorem tb_1528 : (Cond.code ({ cls := "OneSunbeamModel", name := "digits", desc := "(I)I" } : MethodName) prog_12_method_32_code (4 : Nat) (Option.some FieldType.int)) ∈ gt := sg_7 88 rfl rfl
theorem tb_1529 : (Cond.methodLink "OneSunbeamModel" (307 : Nat) ({ cls := "OneSunbeamModel", name := "isDigit", desc := "()Z" } : MethodName)) ∈ gt := tb_of 1529 (by decide +kernel) rfl
theorem tb_1531 : (Cond.instanceMethod ({ cls := "OneSunbeamModel", name := "isDigit", desc := "()Z" } : MethodName)) ∈ gt := tb_of 1531 (by decide +kernel) rfl
set_option maxRecDepth 8000 in
theorem tb_1532 : (Cond.code ({ cls := "OneSunbeamModel", name := "isDigit", desc := "()Z" } : MethodName) prog_12_method_27_code (1 : Nat) (Option.some FieldType.boolean)) ∈ gt := sg_7 92 rfl rfl
theorem tb_1533 : (Cond.constantLong "OneSunbeamModel" (274 : Nat) (48 : Int64)) ∈ gt := tb_of 1533 (by decide +kernel) rfl
theorem tb_1534 : (Cond.constantLong "OneSunbeamModel" (276 : Nat) (57 : Int64)) ∈ gt := tb_of 1534 (by decide +kernel) rfl
theorem tb_1535 : (Cond.methodLink "OneSunbeamModel" (331 : Nat) ({ cls := "OneSunbeamModel", name := "sum", desc := "()V" } : MethodName)) ∈ gt := tb_of 1535 (by decide +kernel) rfl
theorem tb_1537 : (Cond.instanceMethod ({ cls := "OneSunbeamModel", name := "sum", desc := "()V" } : MethodName)) ∈ gt := tb_of 1537 (by decide +kernel) rfl
set_option maxRecDepth 8000 in
theorem tb_1538 : (Cond.code ({ cls := "OneSunbeamModel", name := "sum", desc := "()V" } : MethodName) prog_12_method_35_code (2 : Nat) (Option.none : Option FieldType)) ∈ gt := sg_7 98 rfl rfl
theorem tb_1539 : (Cond.methodLink "OneSunbeamModel" (328 : Nat) ({ cls := "OneSunbeamModel", name := "term", desc := "()V" } : MethodName)) ∈ gt := tb_of 1539 (by decide +kernel) rfl
theorem tb_1541 : (Cond.instanceMethod ({ cls := "OneSunbeamModel", name := "term", desc := "()V" } : MethodName)) ∈ gt := tb_of 1541 (by decide +kernel) rfl
set_option maxRecDepth 8000 in
theorem tb_1542 : (Cond.code ({ cls := "OneSunbeamModel", name := "term", desc := "()V" } : MethodName) prog_12_method_34_code (2 : Nat) (Option.none : Option FieldType)) ∈ gt := sg_7 102 rfl rfl
theorem tb_1543 : (Cond.methodLink "OneSunbeamModel" (325 : Nat) ({ cls := "OneSunbeamModel", name := "value", desc := "()V" } : MethodName)) ∈ gt := tb_of 1543 (by decide +kernel) rfl
theorem tb_1545 : (Cond.instanceMethod ({ cls := "OneSunbeamModel", name := "value", desc := "()V" } : MethodName)) ∈ gt := tb_of 1545 (by decide +kernel) rfl
set_option maxRecDepth 8000 in
theorem tb_1546 : (Cond.code ({ cls := "OneSunbeamModel", name := "value", desc := "()V" } : MethodName) prog_12_method_33_code (3 : Nat) (Option.none : Option FieldType)) ∈ gt := sg_7 106 rfl rfl
theorem tb_1547 : (Cond.constant "OneSunbeamModel" (310 : Nat) (99999 : Int32)) ∈ gt := tb_of 1547 (by decide +kernel) rfl
theorem tb_1548 : (Cond.methodLink "OneSunbeamModel" (315 : Nat) ({ cls := "OneSunbeamModel", name := "isCounted", desc := "(I)V" } : MethodName)) ∈ gt := tb_of 1548 (by decide +kernel) rfl
theorem tb_1550 : (Cond.instanceMethod ({ cls := "OneSunbeamModel", name := "isCounted", desc := "(I)V" } : MethodName)) ∈ gt := tb_of 1550 (by decide +kernel) rfl
set_option maxRecDepth 8000 in
theorem tb_1551 : (Cond.code ({ cls := "OneSunbeamModel", name := "isCounted", desc := "(I)V" } : MethodName) prog_12_method_31_code (2 : Nat) (Option.none : Option FieldType)) ∈ gt := sg_7 111 rfl rfl
theorem tb_1552 : (Cond.methodLink "OneSunbeamModel" (318 : Nat) ({ cls := "OneSunbeamModel", name := "entry", desc := "(II)V" } : MethodName)) ∈ gt := tb_of 1552 (by decide +kernel) rfl
theorem tb_1554 : (Cond.instanceMethod ({ cls := "OneSunbeamModel", name := "entry", desc := "(II)V" } : MethodName)) ∈ gt := tb_of 1554 (by decide +kernel) rfl
set_option maxRecDepth 8000 in
theorem tb_1555 : (Cond.code ({ cls := "OneSunbeamModel", name := "entry", desc := "(II)V" } : MethodName) prog_12_method_30_code (3 : Nat) (Option.none : Option FieldType)) ∈ gt := sg_7 115 rfl rfl
theorem tb_1556 : (Cond.methodLink "OneSunbeamModel" (321 : Nat) ({ cls := "OneSunbeamModel", name := "wordOf", desc := "(I)Ljava/lang/String;" } : MethodName)) ∈ gt := tb_of 1556 (by decide +kernel) rfl
theorem tb_1557 : (Cond.static ({ cls := "OneSunbeamModel", name := "wordOf", desc := "(I)Ljava/lang/String;" } : MethodName)) ∈ gt := tb_of 1557 (by decide +kernel) rfl
set_option maxRecDepth 8000 in
theorem tb_1558 : (Cond.code ({ cls := "OneSunbeamModel", name := "wordOf", desc := "(I)Ljava/lang/String;" } : MethodName) prog_12_method_23_code (1 : Nat) (Option.some (FieldType.object "java/lang/String"))) ∈ gt := sg_7 118 rfl rfl
theorem tb_1573 : (Cond.methodLink "OneSunbeamModel" (365 : Nat) ({ cls := "OneSunbeamModel", name := "takes", desc := "(Ljava/lang/String;)Z" } : MethodName)) ∈ gt := tb_of 1573 (by decide +kernel) rfl
theorem tb_1575 : (Cond.instanceMethod ({ cls := "OneSunbeamModel", name := "takes", desc := "(Ljava/lang/String;)Z" } : MethodName)) ∈ gt := tb_of 1575 (by decide +kernel) rfl
set_option maxRecDepth 8000 in
theorem tb_1576 : (Cond.code ({ cls := "OneSunbeamModel", name := "takes", desc := "(Ljava/lang/String;)Z" } : MethodName) prog_12_method_29_code (3 : Nat) (Option.some FieldType.boolean)) ∈ gt := sg_7 136 rfl rfl
theorem tb_1577 : (Cond.methodLink "OneSunbeamModel" (368 : Nat) ({ cls := "OneSunbeamModel", name := "test", desc := "()V" } : MethodName)) ∈ gt := tb_of 1577 (by decide +kernel) rfl
theorem tb_1579 : (Cond.instanceMethod ({ cls := "OneSunbeamModel", name := "test", desc := "()V" } : MethodName)) ∈ gt := tb_of 1579 (by decide +kernel) rfl
set_option maxRecDepth 8000 in
theorem tb_1580 : (Cond.code ({ cls := "OneSunbeamModel", name := "test", desc := "()V" } : MethodName) prog_12_method_41_code (5 : Nat) (Option.none : Option FieldType)) ∈ gt := sg_7 140 rfl rfl
theorem tb_1581 : (Cond.methodLink "OneSunbeamModel" (351 : Nat) ({ cls := "OneSunbeamModel", name := "fact", desc := "()Z" } : MethodName)) ∈ gt := tb_of 1581 (by decide +kernel) rfl
theorem tb_1583 : (Cond.instanceMethod ({ cls := "OneSunbeamModel", name := "fact", desc := "()Z" } : MethodName)) ∈ gt := tb_of 1583 (by decide +kernel) rfl
set_option maxRecDepth 8000 in
theorem tb_1584 : (Cond.code ({ cls := "OneSunbeamModel", name := "fact", desc := "()Z" } : MethodName) prog_12_method_40_code (1 : Nat) (Option.some FieldType.boolean)) ∈ gt := sg_7 144 rfl rfl
theorem tb_1586 : (Cond.methodLink "OneSunbeamModel" (345 : Nat) ({ cls := "OneSunbeamModel", name := "opens", desc := "(I)V" } : MethodName)) ∈ gt := tb_of 1586 (by decide +kernel) rfl
theorem tb_1588 : (Cond.instanceMethod ({ cls := "OneSunbeamModel", name := "opens", desc := "(I)V" } : MethodName)) ∈ gt := tb_of 1588 (by decide +kernel) rfl
set_option maxRecDepth 8000 in
theorem tb_1589 : (Cond.code ({ cls := "OneSunbeamModel", name := "opens", desc := "(I)V" } : MethodName) prog_12_method_38_code (2 : Nat) (Option.none : Option FieldType)) ∈ gt := sg_7 149 rfl rfl
theorem tb_1590 : (Cond.methodLink "OneSunbeamModel" (348 : Nat) ({ cls := "OneSunbeamModel", name := "compared", desc := "()V" } : MethodName)) ∈ gt := tb_of 1590 (by decide +kernel) rfl
theorem tb_1592 : (Cond.instanceMethod ({ cls := "OneSunbeamModel", name := "compared", desc := "()V" } : MethodName)) ∈ gt := tb_of 1592 (by decide +kernel) rfl
set_option maxRecDepth 8000 in
theorem tb_1593 : (Cond.code ({ cls := "OneSunbeamModel", name := "compared", desc := "()V" } : MethodName) prog_12_method_36_code (3 : Nat) (Option.none : Option FieldType)) ∈ gt := sg_7 153 rfl rfl
theorem tb_1594 : (Cond.methodLink "OneSunbeamModel" (354 : Nat) ({ cls := "OneSunbeamModel", name := "answers", desc := "(I)V" } : MethodName)) ∈ gt := tb_of 1594 (by decide +kernel) rfl
theorem tb_1596 : (Cond.instanceMethod ({ cls := "OneSunbeamModel", name := "answers", desc := "(I)V" } : MethodName)) ∈ gt := tb_of 1596 (by decide +kernel) rfl
set_option maxRecDepth 8000 in
theorem tb_1597 : (Cond.code ({ cls := "OneSunbeamModel", name := "answers", desc := "(I)V" } : MethodName) prog_12_method_39_code (2 : Nat) (Option.none : Option FieldType)) ∈ gt := sg_7 157 rfl rfl
theorem tb_1598 : (Cond.methodLink "OneSunbeamModel" (340 : Nat) ({ cls := "OneSunbeamModel", name := "top", desc := "()I" } : MethodName)) ∈ gt := tb_of 1598 (by decide +kernel) rfl
theorem tb_1600 : (Cond.instanceMethod ({ cls := "OneSunbeamModel", name := "top", desc := "()I" } : MethodName)) ∈ gt := tb_of 1600 (by decide +kernel) rfl
set_option maxRecDepth 8000 in
theorem tb_1601 : (Cond.code ({ cls := "OneSunbeamModel", name := "top", desc := "()I" } : MethodName) prog_12_method_37_code (1 : Nat) (Option.some FieldType.int)) ∈ gt := sg_7 161 rfl rfl
theorem tb_1604 : (Cond.methodLink "OneSunbeamLaw" (74 : Nat) ({ cls := "OneSunbeamModel", name := "days", desc := "(II)I" } : MethodName)) ∈ gt := tb_of 1604 (by decide +kernel) rfl
theorem tb_1605 : (Cond.instanceMethod ({ cls := "OneSunbeamModel", name := "days", desc := "(II)I" } : MethodName)) ∈ gt := tb_of 1605 (by decide +kernel) rfl
theorem tb_1606 : (Cond.selects "OneSunbeamModel" ({ cls := "OneSunbeamModel", name := "days", desc := "(II)I" } : MethodName) ({ cls := "OneSunbeamModel", name := "days", desc := "(II)I" } : MethodName)) ∈ gt := tb_of 1606 (by decide +kernel) rfl
set_option maxRecDepth 8000 in
theorem tb_1607 : (Cond.code ({ cls := "OneSunbeamModel", name := "days", desc := "(II)I" } : MethodName) prog_12_method_65_code (4 : Nat) (Option.some FieldType.int)) ∈ gt := sg_7 167 rfl rfl
theorem tb_1608 : (Cond.methodLink "OneSunbeamModel" (458 : Nat) ({ cls := "OneSunbeamModel", name := "isLaw", desc := "(I)Z" } : MethodName)) ∈ gt := tb_of 1608 (by decide +kernel) rfl
theorem tb_1610 : (Cond.instanceMethod ({ cls := "OneSunbeamModel", name := "isLaw", desc := "(I)Z" } : MethodName)) ∈ gt := tb_of 1610 (by decide +kernel) rfl
set_option maxRecDepth 8000 in
theorem tb_1611 : (Cond.code ({ cls := "OneSunbeamModel", name := "isLaw", desc := "(I)Z" } : MethodName) prog_12_method_44_code (2 : Nat) (Option.some FieldType.boolean)) ∈ gt := sg_7 171 rfl rfl
theorem tb_1612 : (Cond.constantLong "OneSunbeamModel" (461 : Nat) (30 : Int64)) ∈ gt := tb_of 1612 (by decide +kernel) rfl
theorem tb_1613 : (Cond.methodLink "OneSunbeamModel" (463 : Nat) ({ cls := "OneSunbeamModel", name := "goesDay", desc := "(I)V" } : MethodName)) ∈ gt := tb_of 1613 (by decide +kernel) rfl
theorem tb_1615 : (Cond.instanceMethod ({ cls := "OneSunbeamModel", name := "goesDay", desc := "(I)V" } : MethodName)) ∈ gt := tb_of 1615 (by decide +kernel) rfl
set_option maxRecDepth 8000 in
theorem tb_1616 : (Cond.code ({ cls := "OneSunbeamModel", name := "goesDay", desc := "(I)V" } : MethodName) prog_12_method_63_code (4 : Nat) (Option.none : Option FieldType)) ∈ gt := sg_7 176 rfl rfl
theorem tb_1617 : (Cond.methodLink "OneSunbeamModel" (449 : Nat) ({ cls := "OneSunbeamModel", name := "turns", desc := "(III)V" } : MethodName)) ∈ gt := tb_of 1617 (by decide +kernel) rfl
theorem tb_1619 : (Cond.instanceMethod ({ cls := "OneSunbeamModel", name := "turns", desc := "(III)V" } : MethodName)) ∈ gt := tb_of 1619 (by decide +kernel) rfl
set_option maxRecDepth 8000 in
theorem tb_1620 : (Cond.code ({ cls := "OneSunbeamModel", name := "turns", desc := "(III)V" } : MethodName) prog_12_method_62_code (9 : Nat) (Option.none : Option FieldType)) ∈ gt := sg_7 180 rfl rfl
theorem tb_1621 : (Cond.methodLink "OneSunbeamModel" (442 : Nat) ({ cls := "OneSunbeamModel", name := "asks", desc := "(II)V" } : MethodName)) ∈ gt := tb_of 1621 (by decide +kernel) rfl
theorem tb_1623 : (Cond.instanceMethod ({ cls := "OneSunbeamModel", name := "asks", desc := "(II)V" } : MethodName)) ∈ gt := tb_of 1623 (by decide +kernel) rfl
set_option maxRecDepth 8000 in
theorem tb_1624 : (Cond.code ({ cls := "OneSunbeamModel", name := "asks", desc := "(II)V" } : MethodName) prog_12_method_61_code (4 : Nat) (Option.none : Option FieldType)) ∈ gt := sg_7 184 rfl rfl
theorem tb_1625 : (Cond.methodLink "OneSunbeamModel" (433 : Nat) ({ cls := "OneSunbeamModel", name := "sunOf", desc := "(I)I" } : MethodName)) ∈ gt := tb_of 1625 (by decide +kernel) rfl
theorem tb_1627 : (Cond.instanceMethod ({ cls := "OneSunbeamModel", name := "sunOf", desc := "(I)I" } : MethodName)) ∈ gt := tb_of 1627 (by decide +kernel) rfl
set_option maxRecDepth 8000 in
theorem tb_1628 : (Cond.code ({ cls := "OneSunbeamModel", name := "sunOf", desc := "(I)I" } : MethodName) prog_12_method_56_code (2 : Nat) (Option.some FieldType.int)) ∈ gt := sg_7 188 rfl rfl
theorem tb_1629 : (Cond.constantLong "OneSunbeamModel" (440 : Nat) (8 : Int64)) ∈ gt := tb_of 1629 (by decide +kernel) rfl
theorem tb_1630 : (Cond.methodLink "OneSunbeamModel" (445 : Nat) ({ cls := "OneSunbeamModel", name := "answer", desc := "(III)J" } : MethodName)) ∈ gt := tb_of 1630 (by decide +kernel) rfl
theorem tb_1632 : (Cond.instanceMethod ({ cls := "OneSunbeamModel", name := "answer", desc := "(III)J" } : MethodName)) ∈ gt := tb_of 1632 (by decide +kernel) rfl
set_option maxRecDepth 8000 in
theorem tb_1633 : (Cond.code ({ cls := "OneSunbeamModel", name := "answer", desc := "(III)J" } : MethodName) prog_12_method_47_code (8 : Nat) (Option.some FieldType.long)) ∈ gt := sg_7 193 rfl rfl
theorem tb_1634 : (Cond.methodLink "OneSunbeamModel" (381 : Nat) ({ cls := "OneSunbeamModel", name := "both", desc := "(IJJ)J" } : MethodName)) ∈ gt := tb_of 1634 (by decide +kernel) rfl
theorem tb_1635 : (Cond.static ({ cls := "OneSunbeamModel", name := "both", desc := "(IJJ)J" } : MethodName)) ∈ gt := tb_of 1635 (by decide +kernel) rfl
set_option maxRecDepth 8000 in
theorem tb_1636 : (Cond.code ({ cls := "OneSunbeamModel", name := "both", desc := "(IJJ)J" } : MethodName) prog_12_method_46_code (5 : Nat) (Option.some FieldType.long)) ∈ gt := sg_7 196 rfl rfl
theorem tb_1637 : (Cond.methodLink "OneSunbeamModel" (377 : Nat) ({ cls := "OneSunbeamModel", name := "truth", desc := "(Z)J" } : MethodName)) ∈ gt := tb_of 1637 (by decide +kernel) rfl
theorem tb_1638 : (Cond.static ({ cls := "OneSunbeamModel", name := "truth", desc := "(Z)J" } : MethodName)) ∈ gt := tb_of 1638 (by decide +kernel) rfl
set_option maxRecDepth 8000 in
theorem tb_1639 : (Cond.code ({ cls := "OneSunbeamModel", name := "truth", desc := "(Z)J" } : MethodName) prog_12_method_45_code (1 : Nat) (Option.some FieldType.long)) ∈ gt := sg_7 199 rfl rfl
theorem tb_1640 : (Cond.methodLink "OneSunbeamModel" (404 : Nat) ({ cls := "OneSunbeamModel", name := "shines", desc := "(I)V" } : MethodName)) ∈ gt := tb_of 1640 (by decide +kernel) rfl
theorem tb_1642 : (Cond.instanceMethod ({ cls := "OneSunbeamModel", name := "shines", desc := "(I)V" } : MethodName)) ∈ gt := tb_of 1642 (by decide +kernel) rfl
set_option maxRecDepth 8000 in
theorem tb_1643 : (Cond.code ({ cls := "OneSunbeamModel", name := "shines", desc := "(I)V" } : MethodName) prog_12_method_57_code (3 : Nat) (Option.none : Option FieldType)) ∈ gt := sg_7 203 rfl rfl
theorem tb_1644 : (Cond.methodLink "OneSunbeamModel" (436 : Nat) ({ cls := "OneSunbeamModel", name := "traces", desc := "(III)V" } : MethodName)) ∈ gt := tb_of 1644 (by decide +kernel) rfl
theorem tb_1646 : (Cond.instanceMethod ({ cls := "OneSunbeamModel", name := "traces", desc := "(III)V" } : MethodName)) ∈ gt := tb_of 1646 (by decide +kernel) rfl
set_option maxRecDepth 8000 in
theorem tb_1647 : (Cond.code ({ cls := "OneSunbeamModel", name := "traces", desc := "(III)V" } : MethodName) prog_12_method_55_code (5 : Nat) (Option.none : Option FieldType)) ∈ gt := sg_7 207 rfl rfl
theorem tb_1648 : (Cond.methodLink "OneSunbeamModel" (430 : Nat) ({ cls := "OneSunbeamModel", name := "goes", desc := "(IIII)V" } : MethodName)) ∈ gt := tb_of 1648 (by decide +kernel) rfl
theorem tb_1650 : (Cond.instanceMethod ({ cls := "OneSunbeamModel", name := "goes", desc := "(IIII)V" } : MethodName)) ∈ gt := tb_of 1650 (by decide +kernel) rfl
set_option maxRecDepth 8000 in
theorem tb_1651 : (Cond.code ({ cls := "OneSunbeamModel", name := "goes", desc := "(IIII)V" } : MethodName) prog_12_method_54_code (15 : Nat) (Option.none : Option FieldType)) ∈ gt := sg_7 211 rfl rfl
theorem tb_1652 : (Cond.methodLink "OneSunbeamModel" (413 : Nat) ({ cls := "OneSunbeamModel", name := "yardOf", desc := "(II)I" } : MethodName)) ∈ gt := tb_of 1652 (by decide +kernel) rfl
theorem tb_1654 : (Cond.instanceMethod ({ cls := "OneSunbeamModel", name := "yardOf", desc := "(II)I" } : MethodName)) ∈ gt := tb_of 1654 (by decide +kernel) rfl
set_option maxRecDepth 8000 in
theorem tb_1655 : (Cond.code ({ cls := "OneSunbeamModel", name := "yardOf", desc := "(II)I" } : MethodName) prog_12_method_50_code (4 : Nat) (Option.some FieldType.int)) ∈ gt := sg_7 215 rfl rfl
theorem tb_1656 : (Cond.methodLink "OneSunbeamModel" (417 : Nat) ({ cls := "OneSunbeamModel", name := "told", desc := "(II)I" } : MethodName)) ∈ gt := tb_of 1656 (by decide +kernel) rfl
theorem tb_1658 : (Cond.instanceMethod ({ cls := "OneSunbeamModel", name := "told", desc := "(II)I" } : MethodName)) ∈ gt := tb_of 1658 (by decide +kernel) rfl
set_option maxRecDepth 8000 in
theorem tb_1659 : (Cond.code ({ cls := "OneSunbeamModel", name := "told", desc := "(II)I" } : MethodName) prog_12_method_52_code (3 : Nat) (Option.some FieldType.int)) ∈ gt := sg_7 219 rfl rfl
theorem tb_1660 : (Cond.methodLink "OneSunbeamModel" (420 : Nat) ({ cls := "OneSunbeamModel", name := "stepX", desc := "(I)I" } : MethodName)) ∈ gt := tb_of 1660 (by decide +kernel) rfl
theorem tb_1661 : (Cond.static ({ cls := "OneSunbeamModel", name := "stepX", desc := "(I)I" } : MethodName)) ∈ gt := tb_of 1661 (by decide +kernel) rfl
set_option maxRecDepth 8000 in
theorem tb_1662 : (Cond.code ({ cls := "OneSunbeamModel", name := "stepX", desc := "(I)I" } : MethodName) prog_12_method_48_code (1 : Nat) (Option.some FieldType.int)) ∈ gt := sg_7 222 rfl rfl
theorem tb_1663 : (Cond.methodLink "OneSunbeamModel" (423 : Nat) ({ cls := "OneSunbeamModel", name := "stepY", desc := "(I)I" } : MethodName)) ∈ gt := tb_of 1663 (by decide +kernel) rfl
theorem tb_1664 : (Cond.static ({ cls := "OneSunbeamModel", name := "stepY", desc := "(I)I" } : MethodName)) ∈ gt := tb_of 1664 (by decide +kernel) rfl
set_option maxRecDepth 8000 in
theorem tb_1665 : (Cond.code ({ cls := "OneSunbeamModel", name := "stepY", desc := "(I)I" } : MethodName) prog_12_method_49_code (1 : Nat) (Option.some FieldType.int)) ∈ gt := sg_7 225 rfl rfl
theorem tb_1666 : (Cond.methodLink "OneSunbeamModel" (426 : Nat) ({ cls := "OneSunbeamModel", name := "waitsFor", desc := "(IIII)V" } : MethodName)) ∈ gt := tb_of 1666 (by decide +kernel) rfl
theorem tb_1668 : (Cond.instanceMethod ({ cls := "OneSunbeamModel", name := "waitsFor", desc := "(IIII)V" } : MethodName)) ∈ gt := tb_of 1668 (by decide +kernel) rfl
set_option maxRecDepth 8000 in
theorem tb_1669 : (Cond.code ({ cls := "OneSunbeamModel", name := "waitsFor", desc := "(IIII)V" } : MethodName) prog_12_method_51_code (6 : Nat) (Option.none : Option FieldType)) ∈ gt := sg_7 229 rfl rfl
theorem tb_1670 : (Cond.methodLink "OneSunbeamModel" (455 : Nat) ({ cls := "OneSunbeamModel", name := "blindCells", desc := "()I" } : MethodName)) ∈ gt := tb_of 1670 (by decide +kernel) rfl
theorem tb_1672 : (Cond.instanceMethod ({ cls := "OneSunbeamModel", name := "blindCells", desc := "()I" } : MethodName)) ∈ gt := tb_of 1672 (by decide +kernel) rfl
set_option maxRecDepth 8000 in
theorem tb_1673 : (Cond.code ({ cls := "OneSunbeamModel", name := "blindCells", desc := "()I" } : MethodName) prog_12_method_59_code (3 : Nat) (Option.some FieldType.int)) ∈ gt := sg_7 233 rfl rfl
theorem tb_1674 : (Cond.methodLink "OneSunbeamModel" (466 : Nat) ({ cls := "OneSunbeamModel", name := "met", desc := "()I" } : MethodName)) ∈ gt := tb_of 1674 (by decide +kernel) rfl
theorem tb_1676 : (Cond.instanceMethod ({ cls := "OneSunbeamModel", name := "met", desc := "()I" } : MethodName)) ∈ gt := tb_of 1676 (by decide +kernel) rfl
set_option maxRecDepth 8000 in
theorem tb_1677 : (Cond.code ({ cls := "OneSunbeamModel", name := "met", desc := "()I" } : MethodName) prog_12_method_64_code (3 : Nat) (Option.some FieldType.int)) ∈ gt := sg_7 237 rfl rfl
theorem tb_1678 : (Cond.methodLink "OneSunbeamLaw" (78 : Nat) ({ cls := "OneSunbeamModel", name := "mirrors", desc := "(II)I" } : MethodName)) ∈ gt := tb_of 1678 (by decide +kernel) rfl
theorem tb_1679 : (Cond.instanceMethod ({ cls := "OneSunbeamModel", name := "mirrors", desc := "(II)I" } : MethodName)) ∈ gt := tb_of 1679 (by decide +kernel) rfl
theorem tb_1680 : (Cond.selects "OneSunbeamModel" ({ cls := "OneSunbeamModel", name := "mirrors", desc := "(II)I" } : MethodName) ({ cls := "OneSunbeamModel", name := "mirrors", desc := "(II)I" } : MethodName)) ∈ gt := tb_of 1680 (by decide +kernel) rfl
set_option maxRecDepth 8000 in
theorem tb_1681 : (Cond.code ({ cls := "OneSunbeamModel", name := "mirrors", desc := "(II)I" } : MethodName) prog_12_method_66_code (3 : Nat) (Option.some FieldType.int)) ∈ gt := sg_8 1 rfl rfl
theorem tb_1682 : (Cond.methodLink "OneSunbeamLaw" (82 : Nat) ({ cls := "OneSunbeamModel", name := "yards", desc := "(II)I" } : MethodName)) ∈ gt := tb_of 1682 (by decide +kernel) rfl
theorem tb_1683 : (Cond.instanceMethod ({ cls := "OneSunbeamModel", name := "yards", desc := "(II)I" } : MethodName)) ∈ gt := tb_of 1683 (by decide +kernel) rfl
theorem tb_1684 : (Cond.selects "OneSunbeamModel" ({ cls := "OneSunbeamModel", name := "yards", desc := "(II)I" } : MethodName) ({ cls := "OneSunbeamModel", name := "yards", desc := "(II)I" } : MethodName)) ∈ gt := tb_of 1684 (by decide +kernel) rfl
set_option maxRecDepth 8000 in
theorem tb_1685 : (Cond.code ({ cls := "OneSunbeamModel", name := "yards", desc := "(II)I" } : MethodName) prog_12_method_67_code (3 : Nat) (Option.some FieldType.int)) ∈ gt := sg_8 5 rfl rfl
theorem tb_1686 : (Cond.methodLink "OneSunbeamModel" (469 : Nat) ({ cls := "OneSunbeamModel", name := "isYard", desc := "(I)Z" } : MethodName)) ∈ gt := tb_of 1686 (by decide +kernel) rfl
theorem tb_1688 : (Cond.instanceMethod ({ cls := "OneSunbeamModel", name := "isYard", desc := "(I)Z" } : MethodName)) ∈ gt := tb_of 1688 (by decide +kernel) rfl
set_option maxRecDepth 8000 in
theorem tb_1689 : (Cond.code ({ cls := "OneSunbeamModel", name := "isYard", desc := "(I)Z" } : MethodName) prog_12_method_10_code (2 : Nat) (Option.some FieldType.boolean)) ∈ gt := sg_8 9 rfl rfl
theorem tb_1690 : (Cond.methodLink "OneSunbeamLaw" (86 : Nat) ({ cls := "OneSunbeamModel", name := "cell", desc := "(III)I" } : MethodName)) ∈ gt := tb_of 1690 (by decide +kernel) rfl
theorem tb_1691 : (Cond.instanceMethod ({ cls := "OneSunbeamModel", name := "cell", desc := "(III)I" } : MethodName)) ∈ gt := tb_of 1691 (by decide +kernel) rfl
theorem tb_1692 : (Cond.selects "OneSunbeamModel" ({ cls := "OneSunbeamModel", name := "cell", desc := "(III)I" } : MethodName) ({ cls := "OneSunbeamModel", name := "cell", desc := "(III)I" } : MethodName)) ∈ gt := tb_of 1692 (by decide +kernel) rfl
set_option maxRecDepth 8000 in
theorem tb_1693 : (Cond.code ({ cls := "OneSunbeamModel", name := "cell", desc := "(III)I" } : MethodName) prog_12_method_68_code (5 : Nat) (Option.some FieldType.int)) ∈ gt := sg_8 13 rfl rfl
theorem tb_1694 : (Cond.methodLink "OneSunbeamLaw" (90 : Nat) ({ cls := "OneSunbeamModel", name := "gets", desc := "(II)I" } : MethodName)) ∈ gt := tb_of 1694 (by decide +kernel) rfl
theorem tb_1695 : (Cond.instanceMethod ({ cls := "OneSunbeamModel", name := "gets", desc := "(II)I" } : MethodName)) ∈ gt := tb_of 1695 (by decide +kernel) rfl
theorem tb_1696 : (Cond.selects "OneSunbeamModel" ({ cls := "OneSunbeamModel", name := "gets", desc := "(II)I" } : MethodName) ({ cls := "OneSunbeamModel", name := "gets", desc := "(II)I" } : MethodName)) ∈ gt := tb_of 1696 (by decide +kernel) rfl
set_option maxRecDepth 8000 in
theorem tb_1697 : (Cond.code ({ cls := "OneSunbeamModel", name := "gets", desc := "(II)I" } : MethodName) prog_12_method_70_code (3 : Nat) (Option.some FieldType.int)) ∈ gt := sg_8 17 rfl rfl
theorem tb_1698 : (Cond.methodLink "OneSunbeamModel" (472 : Nat) ({ cls := "OneSunbeamModel", name := "isBright", desc := "(I)Z" } : MethodName)) ∈ gt := tb_of 1698 (by decide +kernel) rfl
theorem tb_1700 : (Cond.instanceMethod ({ cls := "OneSunbeamModel", name := "isBright", desc := "(I)Z" } : MethodName)) ∈ gt := tb_of 1700 (by decide +kernel) rfl
set_option maxRecDepth 8000 in
theorem tb_1701 : (Cond.code ({ cls := "OneSunbeamModel", name := "isBright", desc := "(I)Z" } : MethodName) prog_12_method_69_code (2 : Nat) (Option.some FieldType.boolean)) ∈ gt := sg_8 21 rfl rfl
theorem tb_1702 : (Cond.methodLink "OneSunbeamLaw" (94 : Nat) ({ cls := "OneSunbeamModel", name := "light", desc := "(II)I" } : MethodName)) ∈ gt := tb_of 1702 (by decide +kernel) rfl
theorem tb_1703 : (Cond.instanceMethod ({ cls := "OneSunbeamModel", name := "light", desc := "(II)I" } : MethodName)) ∈ gt := tb_of 1703 (by decide +kernel) rfl
theorem tb_1704 : (Cond.selects "OneSunbeamModel" ({ cls := "OneSunbeamModel", name := "light", desc := "(II)I" } : MethodName) ({ cls := "OneSunbeamModel", name := "light", desc := "(II)I" } : MethodName)) ∈ gt := tb_of 1704 (by decide +kernel) rfl
set_option maxRecDepth 8000 in
theorem tb_1705 : (Cond.code ({ cls := "OneSunbeamModel", name := "light", desc := "(II)I" } : MethodName) prog_12_method_71_code (3 : Nat) (Option.some FieldType.int)) ∈ gt := sg_8 25 rfl rfl
theorem tb_1706 : (Cond.constantLong "OneSunbeamModel" (475 : Nat) (6 : Int64)) ∈ gt := tb_of 1706 (by decide +kernel) rfl
theorem tb_1707 : (Cond.methodLink "OneSunbeamModel" (477 : Nat) ({ cls := "OneSunbeamModel", name := "allGot", desc := "()I" } : MethodName)) ∈ gt := tb_of 1707 (by decide +kernel) rfl
theorem tb_1709 : (Cond.instanceMethod ({ cls := "OneSunbeamModel", name := "allGot", desc := "()I" } : MethodName)) ∈ gt := tb_of 1709 (by decide +kernel) rfl
set_option maxRecDepth 8000 in
theorem tb_1710 : (Cond.code ({ cls := "OneSunbeamModel", name := "allGot", desc := "()I" } : MethodName) prog_12_method_58_code (3 : Nat) (Option.some FieldType.int)) ∈ gt := sg_8 30 rfl rfl
theorem tb_1711 : (Cond.methodLink "OneSunbeamModel" (480 : Nat) ({ cls := "OneSunbeamModel", name := "firstBlind", desc := "()I" } : MethodName)) ∈ gt := tb_of 1711 (by decide +kernel) rfl
theorem tb_1713 : (Cond.instanceMethod ({ cls := "OneSunbeamModel", name := "firstBlind", desc := "()I" } : MethodName)) ∈ gt := tb_of 1713 (by decide +kernel) rfl
set_option maxRecDepth 8000 in
theorem tb_1714 : (Cond.code ({ cls := "OneSunbeamModel", name := "firstBlind", desc := "()I" } : MethodName) prog_12_method_60_code (2 : Nat) (Option.some FieldType.int)) ∈ gt := sg_8 34 rfl rfl
theorem tb_1715 : (Cond.methodLink "OneSunbeamLaw" (98 : Nat) ({ cls := "OneSunbeamModel", name := "passes", desc := "(III)I" } : MethodName)) ∈ gt := tb_of 1715 (by decide +kernel) rfl
theorem tb_1716 : (Cond.instanceMethod ({ cls := "OneSunbeamModel", name := "passes", desc := "(III)I" } : MethodName)) ∈ gt := tb_of 1716 (by decide +kernel) rfl
theorem tb_1717 : (Cond.selects "OneSunbeamModel" ({ cls := "OneSunbeamModel", name := "passes", desc := "(III)I" } : MethodName) ({ cls := "OneSunbeamModel", name := "passes", desc := "(III)I" } : MethodName)) ∈ gt := tb_of 1717 (by decide +kernel) rfl
set_option maxRecDepth 8000 in
theorem tb_1718 : (Cond.code ({ cls := "OneSunbeamModel", name := "passes", desc := "(III)I" } : MethodName) prog_12_method_72_code (4 : Nat) (Option.some FieldType.int)) ∈ gt := sg_8 38 rfl rfl
theorem tb_1719 : (Cond.methodLink "OneSunbeamLaw" (102 : Nat) ({ cls := "OneSunbeamModel", name := "sees", desc := "(II)I" } : MethodName)) ∈ gt := tb_of 1719 (by decide +kernel) rfl
theorem tb_1720 : (Cond.instanceMethod ({ cls := "OneSunbeamModel", name := "sees", desc := "(II)I" } : MethodName)) ∈ gt := tb_of 1720 (by decide +kernel) rfl
theorem tb_1721 : (Cond.selects "OneSunbeamModel" ({ cls := "OneSunbeamModel", name := "sees", desc := "(II)I" } : MethodName) ({ cls := "OneSunbeamModel", name := "sees", desc := "(II)I" } : MethodName)) ∈ gt := tb_of 1721 (by decide +kernel) rfl
set_option maxRecDepth 8000 in
theorem tb_1722 : (Cond.code ({ cls := "OneSunbeamModel", name := "sees", desc := "(II)I" } : MethodName) prog_12_method_74_code (6 : Nat) (Option.some FieldType.int)) ∈ gt := sg_8 42 rfl rfl
theorem tb_1723 : (Cond.methodLink "OneSunbeamModel" (483 : Nat) ({ cls := "OneSunbeamModel", name := "copy", desc := "([I[I)V" } : MethodName)) ∈ gt := tb_of 1723 (by decide +kernel) rfl
theorem tb_1724 : (Cond.static ({ cls := "OneSunbeamModel", name := "copy", desc := "([I[I)V" } : MethodName)) ∈ gt := tb_of 1724 (by decide +kernel) rfl
set_option maxRecDepth 8000 in
theorem tb_1725 : (Cond.code ({ cls := "OneSunbeamModel", name := "copy", desc := "([I[I)V" } : MethodName) prog_12_method_73_code (3 : Nat) (Option.none : Option FieldType)) ∈ gt := sg_8 45 rfl rfl
theorem tb_1726 : (Cond.methodLink "OneSunbeamLaw" (106 : Nat) ({ cls := "OneSunbeamModel", name := "worth", desc := "(II)I" } : MethodName)) ∈ gt := tb_of 1726 (by decide +kernel) rfl
theorem tb_1727 : (Cond.instanceMethod ({ cls := "OneSunbeamModel", name := "worth", desc := "(II)I" } : MethodName)) ∈ gt := tb_of 1727 (by decide +kernel) rfl
theorem tb_1728 : (Cond.selects "OneSunbeamModel" ({ cls := "OneSunbeamModel", name := "worth", desc := "(II)I" } : MethodName) ({ cls := "OneSunbeamModel", name := "worth", desc := "(II)I" } : MethodName)) ∈ gt := tb_of 1728 (by decide +kernel) rfl
set_option maxRecDepth 8000 in
theorem tb_1729 : (Cond.code ({ cls := "OneSunbeamModel", name := "worth", desc := "(II)I" } : MethodName) prog_12_method_75_code (5 : Nat) (Option.some FieldType.int)) ∈ gt := sg_8 49 rfl rfl
theorem tb_1730 : (Cond.constant "OneSunbeamModel" (487 : Nat) (-1000000 : Int32)) ∈ gt := tb_of 1730 (by decide +kernel) rfl
theorem tb_1731 : (Cond.methodLink "OneSunbeamLaw" (110 : Nat) ({ cls := "OneSunbeamModel", name := "owned", desc := "(II)I" } : MethodName)) ∈ gt := tb_of 1731 (by decide +kernel) rfl
theorem tb_1732 : (Cond.instanceMethod ({ cls := "OneSunbeamModel", name := "owned", desc := "(II)I" } : MethodName)) ∈ gt := tb_of 1732 (by decide +kernel) rfl
theorem tb_1733 : (Cond.selects "OneSunbeamModel" ({ cls := "OneSunbeamModel", name := "owned", desc := "(II)I" } : MethodName) ({ cls := "OneSunbeamModel", name := "owned", desc := "(II)I" } : MethodName)) ∈ gt := tb_of 1733 (by decide +kernel) rfl
set_option maxRecDepth 8000 in
theorem tb_1734 : (Cond.code ({ cls := "OneSunbeamModel", name := "owned", desc := "(II)I" } : MethodName) prog_12_method_76_code (5 : Nat) (Option.some FieldType.int)) ∈ gt := sg_8 54 rfl rfl
theorem tb_1735 : (Cond.methodLink "OneSunbeamLaw" (115 : Nat) ({ cls := "OneSunbeamModel", name := "aim", desc := "(IIII)I" } : MethodName)) ∈ gt := tb_of 1735 (by decide +kernel) rfl
theorem tb_1736 : (Cond.instanceMethod ({ cls := "OneSunbeamModel", name := "aim", desc := "(IIII)I" } : MethodName)) ∈ gt := tb_of 1736 (by decide +kernel) rfl
theorem tb_1737 : (Cond.selects "OneSunbeamModel" ({ cls := "OneSunbeamModel", name := "aim", desc := "(IIII)I" } : MethodName) ({ cls := "OneSunbeamModel", name := "aim", desc := "(IIII)I" } : MethodName)) ∈ gt := tb_of 1737 (by decide +kernel) rfl
set_option maxRecDepth 8000 in
theorem tb_1738 : (Cond.code ({ cls := "OneSunbeamModel", name := "aim", desc := "(IIII)I" } : MethodName) prog_12_method_80_code (6 : Nat) (Option.some FieldType.int)) ∈ gt := sg_8 58 rfl rfl
theorem tb_1739 : (Cond.methodLink "OneSunbeamModel" (497 : Nat) ({ cls := "OneSunbeamModel", name := "isSet", desc := "(I)Z" } : MethodName)) ∈ gt := tb_of 1739 (by decide +kernel) rfl
theorem tb_1741 : (Cond.instanceMethod ({ cls := "OneSunbeamModel", name := "isSet", desc := "(I)Z" } : MethodName)) ∈ gt := tb_of 1741 (by decide +kernel) rfl
set_option maxRecDepth 8000 in
theorem tb_1742 : (Cond.code ({ cls := "OneSunbeamModel", name := "isSet", desc := "(I)Z" } : MethodName) prog_12_method_77_code (2 : Nat) (Option.some FieldType.boolean)) ∈ gt := sg_8 62 rfl rfl
theorem tb_1743 : (Cond.methodLink "OneSunbeamModel" (488 : Nat) ({ cls := "OneSunbeamModel", name := "bits", desc := "(I)I" } : MethodName)) ∈ gt := tb_of 1743 (by decide +kernel) rfl
theorem tb_1744 : (Cond.static ({ cls := "OneSunbeamModel", name := "bits", desc := "(I)I" } : MethodName)) ∈ gt := tb_of 1744 (by decide +kernel) rfl
set_option maxRecDepth 8000 in
theorem tb_1745 : (Cond.code ({ cls := "OneSunbeamModel", name := "bits", desc := "(I)I" } : MethodName) prog_12_method_5_code (3 : Nat) (Option.some FieldType.int)) ∈ gt := sg_8 65 rfl rfl
theorem tb_1746 : (Cond.methodLink "OneSunbeamModel" (500 : Nat) ({ cls := "OneSunbeamModel", name := "searches", desc := "(III)I" } : MethodName)) ∈ gt := tb_of 1746 (by decide +kernel) rfl
theorem tb_1748 : (Cond.instanceMethod ({ cls := "OneSunbeamModel", name := "searches", desc := "(III)I" } : MethodName)) ∈ gt := tb_of 1748 (by decide +kernel) rfl
set_option maxRecDepth 8000 in
theorem tb_1749 : (Cond.code ({ cls := "OneSunbeamModel", name := "searches", desc := "(III)I" } : MethodName) prog_12_method_79_code (10 : Nat) (Option.some FieldType.int)) ∈ gt := sg_8 69 rfl rfl
theorem tb_1750 : (Cond.methodLink "OneSunbeamModel" (491 : Nat) ({ cls := "OneSunbeamModel", name := "has", desc := "(II)Z" } : MethodName)) ∈ gt := tb_of 1750 (by decide +kernel) rfl
theorem tb_1751 : (Cond.static ({ cls := "OneSunbeamModel", name := "has", desc := "(II)Z" } : MethodName)) ∈ gt := tb_of 1751 (by decide +kernel) rfl
set_option maxRecDepth 8000 in
theorem tb_1752 : (Cond.code ({ cls := "OneSunbeamModel", name := "has", desc := "(II)Z" } : MethodName) prog_12_method_4_code (2 : Nat) (Option.some FieldType.boolean)) ∈ gt := sg_8 72 rfl rfl
theorem tb_1753 : (Cond.methodLink "OneSunbeamModel" (494 : Nat) ({ cls := "OneSunbeamModel", name := "fairest", desc := "()I" } : MethodName)) ∈ gt := tb_of 1753 (by decide +kernel) rfl
theorem tb_1755 : (Cond.instanceMethod ({ cls := "OneSunbeamModel", name := "fairest", desc := "()I" } : MethodName)) ∈ gt := tb_of 1755 (by decide +kernel) rfl
set_option maxRecDepth 8000 in
theorem tb_1756 : (Cond.code ({ cls := "OneSunbeamModel", name := "fairest", desc := "()I" } : MethodName) prog_12_method_78_code (5 : Nat) (Option.some FieldType.int)) ∈ gt := sg_8 76 rfl rfl
theorem tb_1757 : (Cond.methodLink "OneSunbeamLaw" (119 : Nat) ({ cls := "OneSunbeamModel", name := "fair", desc := "(III)I" } : MethodName)) ∈ gt := tb_of 1757 (by decide +kernel) rfl
theorem tb_1758 : (Cond.instanceMethod ({ cls := "OneSunbeamModel", name := "fair", desc := "(III)I" } : MethodName)) ∈ gt := tb_of 1758 (by decide +kernel) rfl
theorem tb_1759 : (Cond.selects "OneSunbeamModel" ({ cls := "OneSunbeamModel", name := "fair", desc := "(III)I" } : MethodName) ({ cls := "OneSunbeamModel", name := "fair", desc := "(III)I" } : MethodName)) ∈ gt := tb_of 1759 (by decide +kernel) rfl
set_option maxRecDepth 8000 in
theorem tb_1760 : (Cond.code ({ cls := "OneSunbeamModel", name := "fair", desc := "(III)I" } : MethodName) prog_12_method_81_code (5 : Nat) (Option.some FieldType.int)) ∈ gt := sg_8 80 rfl rfl
theorem tb_1761 : (Cond.methodLink "OneSunbeamLaw" (123 : Nat) ({ cls := "OneSunbeamModel", name := "mends", desc := "(III)I" } : MethodName)) ∈ gt := tb_of 1761 (by decide +kernel) rfl
theorem tb_1762 : (Cond.instanceMethod ({ cls := "OneSunbeamModel", name := "mends", desc := "(III)I" } : MethodName)) ∈ gt := tb_of 1762 (by decide +kernel) rfl
theorem tb_1763 : (Cond.selects "OneSunbeamModel" ({ cls := "OneSunbeamModel", name := "mends", desc := "(III)I" } : MethodName) ({ cls := "OneSunbeamModel", name := "mends", desc := "(III)I" } : MethodName)) ∈ gt := tb_of 1763 (by decide +kernel) rfl
set_option maxRecDepth 8000 in
theorem tb_1764 : (Cond.code ({ cls := "OneSunbeamModel", name := "mends", desc := "(III)I" } : MethodName) prog_12_method_87_code (5 : Nat) (Option.some FieldType.int)) ∈ gt := sg_8 84 rfl rfl
theorem tb_1765 : (Cond.methodLink "OneSunbeamModel" (507 : Nat) ({ cls := "OneSunbeamModel", name := "isMended", desc := "(IIIII)V" } : MethodName)) ∈ gt := tb_of 1765 (by decide +kernel) rfl
theorem tb_1767 : (Cond.instanceMethod ({ cls := "OneSunbeamModel", name := "isMended", desc := "(IIIII)V" } : MethodName)) ∈ gt := tb_of 1767 (by decide +kernel) rfl
set_option maxRecDepth 8000 in
theorem tb_1768 : (Cond.code ({ cls := "OneSunbeamModel", name := "isMended", desc := "(IIIII)V" } : MethodName) prog_12_method_83_code (6 : Nat) (Option.none : Option FieldType)) ∈ gt := sg_8 88 rfl rfl
theorem tb_1769 : (Cond.methodLink "OneSunbeamModel" (504 : Nat) ({ cls := "OneSunbeamModel", name := "isHalf", desc := "(I)Z" } : MethodName)) ∈ gt := tb_of 1769 (by decide +kernel) rfl
theorem tb_1771 : (Cond.instanceMethod ({ cls := "OneSunbeamModel", name := "isHalf", desc := "(I)Z" } : MethodName)) ∈ gt := tb_of 1771 (by decide +kernel) rfl
set_option maxRecDepth 8000 in
theorem tb_1772 : (Cond.code ({ cls := "OneSunbeamModel", name := "isHalf", desc := "(I)Z" } : MethodName) prog_12_method_82_code (4 : Nat) (Option.some FieldType.boolean)) ∈ gt := sg_8 92 rfl rfl
theorem tb_1773 : (Cond.methodLink "OneSunbeamModel" (515 : Nat) ({ cls := "OneSunbeamModel", name := "mendsOne", desc := "(I)Z" } : MethodName)) ∈ gt := tb_of 1773 (by decide +kernel) rfl
theorem tb_1775 : (Cond.instanceMethod ({ cls := "OneSunbeamModel", name := "mendsOne", desc := "(I)Z" } : MethodName)) ∈ gt := tb_of 1775 (by decide +kernel) rfl
set_option maxRecDepth 8000 in
theorem tb_1776 : (Cond.code ({ cls := "OneSunbeamModel", name := "mendsOne", desc := "(I)Z" } : MethodName) prog_12_method_84_code (5 : Nat) (Option.some FieldType.boolean)) ∈ gt := sg_8 96 rfl rfl
theorem tb_1777 : (Cond.methodLink "OneSunbeamModel" (518 : Nat) ({ cls := "OneSunbeamModel", name := "mendsTwo", desc := "(I)Z" } : MethodName)) ∈ gt := tb_of 1777 (by decide +kernel) rfl
theorem tb_1779 : (Cond.instanceMethod ({ cls := "OneSunbeamModel", name := "mendsTwo", desc := "(I)Z" } : MethodName)) ∈ gt := tb_of 1779 (by decide +kernel) rfl
set_option maxRecDepth 8000 in
theorem tb_1780 : (Cond.code ({ cls := "OneSunbeamModel", name := "mendsTwo", desc := "(I)Z" } : MethodName) prog_12_method_86_code (4 : Nat) (Option.some FieldType.boolean)) ∈ gt := sg_8 100 rfl rfl
theorem tb_1781 : (Cond.methodLink "OneSunbeamModel" (511 : Nat) ({ cls := "OneSunbeamModel", name := "mendsPair", desc := "(III)Z" } : MethodName)) ∈ gt := tb_of 1781 (by decide +kernel) rfl
theorem tb_1783 : (Cond.instanceMethod ({ cls := "OneSunbeamModel", name := "mendsPair", desc := "(III)Z" } : MethodName)) ∈ gt := tb_of 1783 (by decide +kernel) rfl
set_option maxRecDepth 8000 in
theorem tb_1784 : (Cond.code ({ cls := "OneSunbeamModel", name := "mendsPair", desc := "(III)Z" } : MethodName) prog_12_method_85_code (7 : Nat) (Option.some FieldType.boolean)) ∈ gt := sg_8 104 rfl rfl
theorem tb_1785 : (Cond.methodLink "OneSunbeamLaw" (127 : Nat) ({ cls := "OneSunbeamModel", name := "second", desc := "(II)I" } : MethodName)) ∈ gt := tb_of 1785 (by decide +kernel) rfl
theorem tb_1786 : (Cond.instanceMethod ({ cls := "OneSunbeamModel", name := "second", desc := "(II)I" } : MethodName)) ∈ gt := tb_of 1786 (by decide +kernel) rfl
theorem tb_1787 : (Cond.selects "OneSunbeamModel" ({ cls := "OneSunbeamModel", name := "second", desc := "(II)I" } : MethodName) ({ cls := "OneSunbeamModel", name := "second", desc := "(II)I" } : MethodName)) ∈ gt := tb_of 1787 (by decide +kernel) rfl
set_option maxRecDepth 8000 in
theorem tb_1788 : (Cond.code ({ cls := "OneSunbeamModel", name := "second", desc := "(II)I" } : MethodName) prog_12_method_88_code (12 : Nat) (Option.some FieldType.int)) ∈ gt := sg_8 108 rfl rfl
theorem tb_1789 : (Cond.constantLong "OneSunbeamModel" (521 : Nat) (2 : Int64)) ∈ gt := tb_of 1789 (by decide +kernel) rfl
theorem tb_1790 : (Cond.methodLink "OneSunbeamLaw" (131 : Nat) ({ cls := "OneSunbeamModel", name := "thief", desc := "(II)I" } : MethodName)) ∈ gt := tb_of 1790 (by decide +kernel) rfl
theorem tb_1791 : (Cond.instanceMethod ({ cls := "OneSunbeamModel", name := "thief", desc := "(II)I" } : MethodName)) ∈ gt := tb_of 1791 (by decide +kernel) rfl
theorem tb_1792 : (Cond.selects "OneSunbeamModel" ({ cls := "OneSunbeamModel", name := "thief", desc := "(II)I" } : MethodName) ({ cls := "OneSunbeamModel", name := "thief", desc := "(II)I" } : MethodName)) ∈ gt := tb_of 1792 (by decide +kernel) rfl
set_option maxRecDepth 8000 in
theorem tb_1793 : (Cond.code ({ cls := "OneSunbeamModel", name := "thief", desc := "(II)I" } : MethodName) prog_12_method_89_code (7 : Nat) (Option.some FieldType.int)) ∈ gt := sg_8 113 rfl rfl
theorem tb_1794 : (Cond.methodLink "OneSunbeamModel" (523 : Nat) ({ cls := "OneSunbeamModel", name := "follows", desc := "(I)V" } : MethodName)) ∈ gt := tb_of 1794 (by decide +kernel) rfl
theorem tb_1796 : (Cond.instanceMethod ({ cls := "OneSunbeamModel", name := "follows", desc := "(I)V" } : MethodName)) ∈ gt := tb_of 1796 (by decide +kernel) rfl
set_option maxRecDepth 8000 in
theorem tb_1797 : (Cond.code ({ cls := "OneSunbeamModel", name := "follows", desc := "(I)V" } : MethodName) prog_12_method_53_code (3 : Nat) (Option.none : Option FieldType)) ∈ gt := sg_8 117 rfl rfl
theorem tb_1798 : (Cond.methodLink "OneSunbeamLaw" (135 : Nat) ({ cls := "OneSunbeamModel", name := "dusty", desc := "(IIII)I" } : MethodName)) ∈ gt := tb_of 1798 (by decide +kernel) rfl
theorem tb_1799 : (Cond.instanceMethod ({ cls := "OneSunbeamModel", name := "dusty", desc := "(IIII)I" } : MethodName)) ∈ gt := tb_of 1799 (by decide +kernel) rfl
theorem tb_1800 : (Cond.selects "OneSunbeamModel" ({ cls := "OneSunbeamModel", name := "dusty", desc := "(IIII)I" } : MethodName) ({ cls := "OneSunbeamModel", name := "dusty", desc := "(IIII)I" } : MethodName)) ∈ gt := tb_of 1800 (by decide +kernel) rfl
set_option maxRecDepth 8000 in
theorem tb_1801 : (Cond.code ({ cls := "OneSunbeamModel", name := "dusty", desc := "(IIII)I" } : MethodName) prog_12_method_90_code (8 : Nat) (Option.some FieldType.int)) ∈ gt := sg_8 121 rfl rfl
theorem tb_1802 : (Cond.methodLink "OneSunbeamLaw" (139 : Nat) ({ cls := "OneSunbeamModel", name := "dark", desc := "(III)I" } : MethodName)) ∈ gt := tb_of 1802 (by decide +kernel) rfl
theorem tb_1803 : (Cond.instanceMethod ({ cls := "OneSunbeamModel", name := "dark", desc := "(III)I" } : MethodName)) ∈ gt := tb_of 1803 (by decide +kernel) rfl
theorem tb_1804 : (Cond.selects "OneSunbeamModel" ({ cls := "OneSunbeamModel", name := "dark", desc := "(III)I" } : MethodName) ({ cls := "OneSunbeamModel", name := "dark", desc := "(III)I" } : MethodName)) ∈ gt := tb_of 1804 (by decide +kernel) rfl
set_option maxRecDepth 8000 in
theorem tb_1805 : (Cond.code ({ cls := "OneSunbeamModel", name := "dark", desc := "(III)I" } : MethodName) prog_12_method_93_code (6 : Nat) (Option.some FieldType.int)) ∈ gt := sg_8 125 rfl rfl
theorem tb_1806 : (Cond.methodLink "OneSunbeamModel" (532 : Nat) ({ cls := "OneSunbeamModel", name := "keeps", desc := "()V" } : MethodName)) ∈ gt := tb_of 1806 (by decide +kernel) rfl
theorem tb_1808 : (Cond.instanceMethod ({ cls := "OneSunbeamModel", name := "keeps", desc := "()V" } : MethodName)) ∈ gt := tb_of 1808 (by decide +kernel) rfl
set_option maxRecDepth 8000 in
theorem tb_1809 : (Cond.code ({ cls := "OneSunbeamModel", name := "keeps", desc := "()V" } : MethodName) prog_12_method_91_code (1 : Nat) (Option.none : Option FieldType)) ∈ gt := sg_8 129 rfl rfl
theorem tb_1810 : (Cond.methodLink "OneSunbeamModel" (535 : Nat) ({ cls := "OneSunbeamModel", name := "putsBack", desc := "()V" } : MethodName)) ∈ gt := tb_of 1810 (by decide +kernel) rfl
theorem tb_1812 : (Cond.instanceMethod ({ cls := "OneSunbeamModel", name := "putsBack", desc := "()V" } : MethodName)) ∈ gt := tb_of 1812 (by decide +kernel) rfl
set_option maxRecDepth 8000 in
theorem tb_1813 : (Cond.code ({ cls := "OneSunbeamModel", name := "putsBack", desc := "()V" } : MethodName) prog_12_method_92_code (1 : Nat) (Option.none : Option FieldType)) ∈ gt := sg_8 133 rfl rfl
theorem tb_1814 : (Cond.methodLink "OneSunbeamLaw" (143 : Nat) ({ cls := "OneSunbeamModel", name := "ahead", desc := "(III)I" } : MethodName)) ∈ gt := tb_of 1814 (by decide +kernel) rfl
theorem tb_1815 : (Cond.instanceMethod ({ cls := "OneSunbeamModel", name := "ahead", desc := "(III)I" } : MethodName)) ∈ gt := tb_of 1815 (by decide +kernel) rfl
theorem tb_1816 : (Cond.selects "OneSunbeamModel" ({ cls := "OneSunbeamModel", name := "ahead", desc := "(III)I" } : MethodName) ({ cls := "OneSunbeamModel", name := "ahead", desc := "(III)I" } : MethodName)) ∈ gt := tb_of 1816 (by decide +kernel) rfl
set_option maxRecDepth 8000 in
theorem tb_1817 : (Cond.code ({ cls := "OneSunbeamModel", name := "ahead", desc := "(III)I" } : MethodName) prog_12_method_94_code (5 : Nat) (Option.some FieldType.int)) ∈ gt := sg_8 137 rfl rfl
theorem tb_1818 : (Cond.constantLong "OneSunbeamModel" (538 : Nat) (10 : Int64)) ∈ gt := tb_of 1818 (by decide +kernel) rfl
theorem tb_1819 : (Cond.constantLong "OneSunbeamModel" (540 : Nat) (-2 : Int64)) ∈ gt := tb_of 1819 (by decide +kernel) rfl
theorem tb_1820 : (Cond.methodLink "OneSunbeamLaw" (147 : Nat) ({ cls := "OneSunbeamModel", name := "count", desc := "(I)I" } : MethodName)) ∈ gt := tb_of 1820 (by decide +kernel) rfl
theorem tb_1821 : (Cond.instanceMethod ({ cls := "OneSunbeamModel", name := "count", desc := "(I)I" } : MethodName)) ∈ gt := tb_of 1821 (by decide +kernel) rfl
theorem tb_1822 : (Cond.selects "OneSunbeamModel" ({ cls := "OneSunbeamModel", name := "count", desc := "(I)I" } : MethodName) ({ cls := "OneSunbeamModel", name := "count", desc := "(I)I" } : MethodName)) ∈ gt := tb_of 1822 (by decide +kernel) rfl
set_option maxRecDepth 8000 in
theorem tb_1823 : (Cond.code ({ cls := "OneSunbeamModel", name := "count", desc := "(I)I" } : MethodName) prog_12_method_95_code (2 : Nat) (Option.some FieldType.int)) ∈ gt := sg_8 143 rfl rfl
theorem tb_1824 : (Cond.methodLink "OneSunbeamLaw" (151 : Nat) ({ cls := "OneSunbeamModel", name := "image", desc := "(I)I" } : MethodName)) ∈ gt := tb_of 1824 (by decide +kernel) rfl
theorem tb_1825 : (Cond.instanceMethod ({ cls := "OneSunbeamModel", name := "image", desc := "(I)I" } : MethodName)) ∈ gt := tb_of 1825 (by decide +kernel) rfl
theorem tb_1826 : (Cond.selects "OneSunbeamModel" ({ cls := "OneSunbeamModel", name := "image", desc := "(I)I" } : MethodName) ({ cls := "OneSunbeamModel", name := "image", desc := "(I)I" } : MethodName)) ∈ gt := tb_of 1826 (by decide +kernel) rfl
set_option maxRecDepth 8000 in
theorem tb_1827 : (Cond.code ({ cls := "OneSunbeamModel", name := "image", desc := "(I)I" } : MethodName) prog_12_method_98_code (2 : Nat) (Option.some FieldType.int)) ∈ gt := sg_8 147 rfl rfl
theorem tb_1828 : (Cond.methodLink "OneSunbeamModel" (552 : Nat) ({ cls := "OneSunbeamModel", name := "carriesAll", desc := "(IZ)V" } : MethodName)) ∈ gt := tb_of 1828 (by decide +kernel) rfl
theorem tb_1830 : (Cond.instanceMethod ({ cls := "OneSunbeamModel", name := "carriesAll", desc := "(IZ)V" } : MethodName)) ∈ gt := tb_of 1830 (by decide +kernel) rfl
set_option maxRecDepth 8000 in
theorem tb_1831 : (Cond.code ({ cls := "OneSunbeamModel", name := "carriesAll", desc := "(IZ)V" } : MethodName) prog_12_method_97_code (3 : Nat) (Option.none : Option FieldType)) ∈ gt := sg_8 151 rfl rfl
theorem tb_1832 : (Cond.methodLink "OneSunbeamModel" (548 : Nat) ({ cls := "OneSunbeamModel", name := "carry", desc := "([I)V" } : MethodName)) ∈ gt := tb_of 1832 (by decide +kernel) rfl
theorem tb_1834 : (Cond.instanceMethod ({ cls := "OneSunbeamModel", name := "carry", desc := "([I)V" } : MethodName)) ∈ gt := tb_of 1834 (by decide +kernel) rfl
set_option maxRecDepth 8000 in
theorem tb_1835 : (Cond.code ({ cls := "OneSunbeamModel", name := "carry", desc := "([I)V" } : MethodName) prog_12_method_96_code (3 : Nat) (Option.none : Option FieldType)) ∈ gt := sg_8 155 rfl rfl
theorem tb_1836 : (Cond.methodLink "OneSunbeamLaw" (155 : Nat) ({ cls := "OneSunbeamModel", name := "back", desc := "(I)I" } : MethodName)) ∈ gt := tb_of 1836 (by decide +kernel) rfl
theorem tb_1837 : (Cond.instanceMethod ({ cls := "OneSunbeamModel", name := "back", desc := "(I)I" } : MethodName)) ∈ gt := tb_of 1837 (by decide +kernel) rfl
theorem tb_1838 : (Cond.selects "OneSunbeamModel" ({ cls := "OneSunbeamModel", name := "back", desc := "(I)I" } : MethodName) ({ cls := "OneSunbeamModel", name := "back", desc := "(I)I" } : MethodName)) ∈ gt := tb_of 1838 (by decide +kernel) rfl
set_option maxRecDepth 8000 in
theorem tb_1839 : (Cond.code ({ cls := "OneSunbeamModel", name := "back", desc := "(I)I" } : MethodName) prog_12_method_99_code (2 : Nat) (Option.some FieldType.int)) ∈ gt := sg_8 159 rfl rfl
theorem tb_1840 : (Cond.fieldLink "java/lang/String" (9 : Nat) "java/lang/String" "value" "[B") ∈ gt := tb_of 1840 (by decide +kernel) rfl
theorem tb_1841 : (Cond.fieldLink "java/lang/String" (15 : Nat) "java/lang/String" "coder" "B") ∈ gt := tb_of 1841 (by decide +kernel) rfl
theorem tp_0 : Cond.selects "OneSunbeam" ⟨"OneSunbeam", "changeMirror", "(IIIZ)I"⟩ ⟨"OneSunbeam", "changeMirror", "(IIIZ)I"⟩ ∈ gt := tp_of (y := ⟨"OneSunbeam", "changeMirror", "(IIIZ)I"⟩) (n := 16) 0 (by decide +kernel)
theorem tp_1 : Cond.selects "OneSunbeam" ⟨"OneSunbeam", "putOnTape", "(I)V"⟩ ⟨"OneSunbeam", "putOnTape", "(I)V"⟩ ∈ gt := tp_of (y := ⟨"OneSunbeam", "putOnTape", "(I)V"⟩) (n := 16) 1 (by decide +kernel)
theorem tp_2 : Cond.selects "OneSunbeam$LawReader" ⟨"OneSunbeam$LawReader", "readToken", "()V"⟩ ⟨"OneSunbeam$LawReader", "readToken", "()V"⟩ ∈ gt := tp_of (y := ⟨"OneSunbeam$LawReader", "readToken", "()V"⟩) (n := 14) 2 (by decide +kernel)
theorem tp_3 : Cond.selects "OneSunbeam$LawReader" ⟨"OneSunbeam$LawReader", "byteAt", "(I)I"⟩ ⟨"OneSunbeam$LawReader", "byteAt", "(I)I"⟩ ∈ gt := tp_of (y := ⟨"OneSunbeam$LawReader", "byteAt", "(I)I"⟩) (n := 14) 3 (by decide +kernel)
theorem tp_4 : Cond.selects "OneSunbeam$LawReader" ⟨"OneSunbeam$LawReader", "readNumber", "()V"⟩ ⟨"OneSunbeam$LawReader", "readNumber", "()V"⟩ ∈ gt := tp_of (y := ⟨"OneSunbeam$LawReader", "readNumber", "()V"⟩) (n := 14) 4 (by decide +kernel)
theorem tp_5 : Cond.selects "OneSunbeam$LawReader" ⟨"OneSunbeam$LawReader", "yardHere", "()I"⟩ ⟨"OneSunbeam$LawReader", "yardHere", "()I"⟩ ∈ gt := tp_of (y := ⟨"OneSunbeam$LawReader", "yardHere", "()I"⟩) (n := 14) 5 (by decide +kernel)
theorem tp_6 : Cond.selects "OneSunbeam$LawReader" ⟨"OneSunbeam$LawReader", "wordHere", "()I"⟩ ⟨"OneSunbeam$LawReader", "wordHere", "()I"⟩ ∈ gt := tp_of (y := ⟨"OneSunbeam$LawReader", "wordHere", "()I"⟩) (n := 14) 6 (by decide +kernel)
theorem tp_7 : Cond.selects "OneSunbeam$LawReader" ⟨"OneSunbeam$LawReader", "isWord", "(Ljava/lang/String;)Z"⟩ ⟨"OneSunbeam$LawReader", "isWord", "(Ljava/lang/String;)Z"⟩ ∈ gt := tp_of (y := ⟨"OneSunbeam$LawReader", "isWord", "(Ljava/lang/String;)Z"⟩) (n := 14) 7 (by decide +kernel)
theorem tp_8 : Cond.selects "OneSunbeam$LawReader" ⟨"OneSunbeam$LawReader", "signHere", "()I"⟩ ⟨"OneSunbeam$LawReader", "signHere", "()I"⟩ ∈ gt := tp_of (y := ⟨"OneSunbeam$LawReader", "signHere", "()I"⟩) (n := 14) 8 (by decide +kernel)
theorem tp_9 : Cond.selects "OneSunbeam$LawReader" ⟨"OneSunbeam$LawReader", "takeToken", "()V"⟩ ⟨"OneSunbeam$LawReader", "takeToken", "()V"⟩ ∈ gt := tp_of (y := ⟨"OneSunbeam$LawReader", "takeToken", "()V"⟩) (n := 14) 9 (by decide +kernel)
theorem tp_10 : Cond.selects "OneSunbeam$LawReader" ⟨"OneSunbeam$LawReader", "takeTurn", "()V"⟩ ⟨"OneSunbeam$LawReader", "takeTurn", "()V"⟩ ∈ gt := tp_of (y := ⟨"OneSunbeam$LawReader", "takeTurn", "()V"⟩) (n := 14) 10 (by decide +kernel)
theorem tp_11 : Cond.selects "OneSunbeam$LawReader" ⟨"OneSunbeam$LawReader", "fail", "(I)V"⟩ ⟨"OneSunbeam$LawReader", "fail", "(I)V"⟩ ∈ gt := tp_of (y := ⟨"OneSunbeam$LawReader", "fail", "(I)V"⟩) (n := 14) 11 (by decide +kernel)
theorem tp_12 : Cond.selects "OneSunbeam$LawReader" ⟨"OneSunbeam$LawReader", "takeMirror", "()V"⟩ ⟨"OneSunbeam$LawReader", "takeMirror", "()V"⟩ ∈ gt := tp_of (y := ⟨"OneSunbeam$LawReader", "takeMirror", "()V"⟩) (n := 14) 12 (by decide +kernel)
theorem tp_13 : Cond.selects "OneSunbeam$LawReader" ⟨"OneSunbeam$LawReader", "takeFact", "()V"⟩ ⟨"OneSunbeam$LawReader", "takeFact", "()V"⟩ ∈ gt := tp_of (y := ⟨"OneSunbeam$LawReader", "takeFact", "()V"⟩) (n := 14) 13 (by decide +kernel)
theorem tp_14 : Cond.selects "OneSunbeam$LawReader" ⟨"OneSunbeam$LawReader", "takeValue", "()V"⟩ ⟨"OneSunbeam$LawReader", "takeValue", "()V"⟩ ∈ gt := tp_of (y := ⟨"OneSunbeam$LawReader", "takeValue", "()V"⟩) (n := 14) 14 (by decide +kernel)
theorem tp_15 : Cond.selects "OneSunbeam$LawReader" ⟨"OneSunbeam$LawReader", "countsOneMore", "()Z"⟩ ⟨"OneSunbeam$LawReader", "countsOneMore", "()Z"⟩ ∈ gt := tp_of (y := ⟨"OneSunbeam$LawReader", "countsOneMore", "()Z"⟩) (n := 14) 15 (by decide +kernel)
theorem tp_16 : Cond.selects "OneSunbeam$LawReader" ⟨"OneSunbeam$LawReader", "push", "(I)V"⟩ ⟨"OneSunbeam$LawReader", "push", "(I)V"⟩ ∈ gt := tp_of (y := ⟨"OneSunbeam$LawReader", "push", "(I)V"⟩) (n := 14) 16 (by decide +kernel)
theorem tp_17 : Cond.selects "OneSunbeam$LawReader" ⟨"OneSunbeam$LawReader", "takeBehind", "()V"⟩ ⟨"OneSunbeam$LawReader", "takeBehind", "()V"⟩ ∈ gt := tp_of (y := ⟨"OneSunbeam$LawReader", "takeBehind", "()V"⟩) (n := 14) 17 (by decide +kernel)
theorem tp_18 : Cond.selects "OneSunbeam$LawReader" ⟨"OneSunbeam$LawReader", "takeSign", "(II)V"⟩ ⟨"OneSunbeam$LawReader", "takeSign", "(II)V"⟩ ∈ gt := tp_of (y := ⟨"OneSunbeam$LawReader", "takeSign", "(II)V"⟩) (n := 14) 18 (by decide +kernel)
theorem tp_19 : Cond.selects "OneSunbeam$LawReader" ⟨"OneSunbeam$LawReader", "popDownTo", "(I)V"⟩ ⟨"OneSunbeam$LawReader", "popDownTo", "(I)V"⟩ ∈ gt := tp_of (y := ⟨"OneSunbeam$LawReader", "popDownTo", "(I)V"⟩) (n := 14) 19 (by decide +kernel)
theorem tp_20 : Cond.selects "OneSunbeam$LawReader" ⟨"OneSunbeam$LawReader", "closeBracket", "()V"⟩ ⟨"OneSunbeam$LawReader", "closeBracket", "()V"⟩ ∈ gt := tp_of (y := ⟨"OneSunbeam$LawReader", "closeBracket", "()V"⟩) (n := 14) 20 (by decide +kernel)
theorem tp_21 : Cond.selects "OneSunbeam$LawReader" ⟨"OneSunbeam$LawReader", "takeClauseEnd", "()V"⟩ ⟨"OneSunbeam$LawReader", "takeClauseEnd", "()V"⟩ ∈ gt := tp_of (y := ⟨"OneSunbeam$LawReader", "takeClauseEnd", "()V"⟩) (n := 14) 21 (by decide +kernel)
theorem tp_22 : Cond.selects "OneSunbeam" ⟨"OneSunbeam", "findLaw", "(I)LOneSunbeam$Law;"⟩ ⟨"OneSunbeam", "findLaw", "(I)LOneSunbeam$Law;"⟩ ∈ gt := tp_of (y := ⟨"OneSunbeam", "findLaw", "(I)LOneSunbeam$Law;"⟩) (n := 16) 22 (by decide +kernel)
theorem tp_23 : Cond.selects "OneSunbeam$Keepers" ⟨"OneSunbeam$Keepers", "turnMirrors", "(LOneSunbeam$Town;LOneSunbeam$Law;)V"⟩ ⟨"OneSunbeam$Keepers", "turnMirrors", "(LOneSunbeam$Town;LOneSunbeam$Law;)V"⟩ ∈ gt := tp_of (y := ⟨"OneSunbeam$Keepers", "turnMirrors", "(LOneSunbeam$Town;LOneSunbeam$Law;)V"⟩) (n := 4) 23 (by decide +kernel)
theorem tp_24 : Cond.selects "OneSunbeam$Keepers" ⟨"OneSunbeam$Keepers", "holds", "(LOneSunbeam$Town;LOneSunbeam$Law;I)Z"⟩ ⟨"OneSunbeam$Keepers", "holds", "(LOneSunbeam$Town;LOneSunbeam$Law;I)Z"⟩ ∈ gt := tp_of (y := ⟨"OneSunbeam$Keepers", "holds", "(LOneSunbeam$Town;LOneSunbeam$Law;I)Z"⟩) (n := 4) 24 (by decide +kernel)
theorem tp_25 : Cond.selects "OneSunbeam$Keepers" ⟨"OneSunbeam$Keepers", "valueOf", "(LOneSunbeam$Town;LOneSunbeam$Law;III)J"⟩ ⟨"OneSunbeam$Keepers", "valueOf", "(LOneSunbeam$Town;LOneSunbeam$Law;III)J"⟩ ∈ gt := tp_of (y := ⟨"OneSunbeam$Keepers", "valueOf", "(LOneSunbeam$Town;LOneSunbeam$Law;III)J"⟩) (n := 4) 25 (by decide +kernel)
theorem tp_26 : Cond.selects "OneSunbeam$Keepers" ⟨"OneSunbeam$Keepers", "wordValue", "(LOneSunbeam$Town;II)J"⟩ ⟨"OneSunbeam$Keepers", "wordValue", "(LOneSunbeam$Town;II)J"⟩ ∈ gt := tp_of (y := ⟨"OneSunbeam$Keepers", "wordValue", "(LOneSunbeam$Town;II)J"⟩) (n := 4) 26 (by decide +kernel)
theorem tp_27 : Cond.selects "OneSunbeam$Keepers" ⟨"OneSunbeam$Keepers", "gotByYard", "(I)J"⟩ ⟨"OneSunbeam$Keepers", "gotByYard", "(I)J"⟩ ∈ gt := tp_of (y := ⟨"OneSunbeam$Keepers", "gotByYard", "(I)J"⟩) (n := 4) 27 (by decide +kernel)
theorem tp_28 : Cond.selects "OneSunbeam$Beams" ⟨"OneSunbeam$Beams", "clear", "()V"⟩ ⟨"OneSunbeam$Beams", "clear", "()V"⟩ ∈ gt := tp_of (y := ⟨"OneSunbeam$Beams", "clear", "()V"⟩) (n := 13) 28 (by decide +kernel)
theorem tp_29 : Cond.selects "OneSunbeam$Beams" ⟨"OneSunbeam$Beams", "follow", "(LOneSunbeam$Town;IIII)V"⟩ ⟨"OneSunbeam$Beams", "follow", "(LOneSunbeam$Town;IIII)V"⟩ ∈ gt := tp_of (y := ⟨"OneSunbeam$Beams", "follow", "(LOneSunbeam$Town;IIII)V"⟩) (n := 13) 29 (by decide +kernel)
theorem tp_30 : Cond.selects "OneSunbeam$Beams" ⟨"OneSunbeam$Beams", "passAir", "(LOneSunbeam$Town;II)I"⟩ ⟨"OneSunbeam$Beams", "passAir", "(LOneSunbeam$Town;II)I"⟩ ∈ gt := tp_of (y := ⟨"OneSunbeam$Beams", "passAir", "(LOneSunbeam$Town;II)I"⟩) (n := 13) 30 (by decide +kernel)
theorem tp_31 : Cond.selects "OneSunbeam$Beams" ⟨"OneSunbeam$Beams", "passYard", "(LOneSunbeam$Town;II)I"⟩ ⟨"OneSunbeam$Beams", "passYard", "(LOneSunbeam$Town;II)I"⟩ ∈ gt := tp_of (y := ⟨"OneSunbeam$Beams", "passYard", "(LOneSunbeam$Town;II)I"⟩) (n := 13) 31 (by decide +kernel)
theorem tp_32 : Cond.selects "OneSunbeam$Beams" ⟨"OneSunbeam$Beams", "passMirror", "(LOneSunbeam$Town;III)I"⟩ ⟨"OneSunbeam$Beams", "passMirror", "(LOneSunbeam$Town;III)I"⟩ ∈ gt := tp_of (y := ⟨"OneSunbeam$Beams", "passMirror", "(LOneSunbeam$Town;III)I"⟩) (n := 13) 32 (by decide +kernel)
theorem tp_33 : Cond.selects "OneSunbeam$Beams" ⟨"OneSunbeam$Beams", "letWait", "(II)V"⟩ ⟨"OneSunbeam$Beams", "letWait", "(II)V"⟩ ∈ gt := tp_of (y := ⟨"OneSunbeam$Beams", "letWait", "(II)V"⟩) (n := 13) 33 (by decide +kernel)
theorem tp_34 : Cond.selects "OneSunbeam$Beams" ⟨"OneSunbeam$Beams", "isBlind", "(LOneSunbeam$Town;I)Z"⟩ ⟨"OneSunbeam$Beams", "isBlind", "(LOneSunbeam$Town;I)Z"⟩ ∈ gt := tp_of (y := ⟨"OneSunbeam$Beams", "isBlind", "(LOneSunbeam$Town;I)Z"⟩) (n := 13) 34 (by decide +kernel)
theorem tp_35 : Cond.selects "OneSunbeam$Keepers" ⟨"OneSunbeam$Keepers", "addToday", "()V"⟩ ⟨"OneSunbeam$Keepers", "addToday", "()V"⟩ ∈ gt := tp_of (y := ⟨"OneSunbeam$Keepers", "addToday", "()V"⟩) (n := 4) 35 (by decide +kernel)
theorem tp_36 : Cond.selects "OneSunbeam" ⟨"OneSunbeam", "worthOfSet", "(II)I"⟩ ⟨"OneSunbeam", "worthOfSet", "(II)I"⟩ ∈ gt := tp_of (y := ⟨"OneSunbeam", "worthOfSet", "(II)I"⟩) (n := 16) 36 (by decide +kernel)
theorem tp_37 : Cond.selects "OneSunbeam" ⟨"OneSunbeam", "isPlaceOfSet", "(II)Z"⟩ ⟨"OneSunbeam", "isPlaceOfSet", "(II)Z"⟩ ∈ gt := tp_of (y := ⟨"OneSunbeam", "isPlaceOfSet", "(II)Z"⟩) (n := 16) 37 (by decide +kernel)
theorem tp_38 : Cond.selects "OneSunbeam$Aiming" ⟨"OneSunbeam$Aiming", "gather", "(LOneSunbeam$Town;I)V"⟩ ⟨"OneSunbeam$Aiming", "gather", "(LOneSunbeam$Town;I)V"⟩ ∈ gt := tp_of (y := ⟨"OneSunbeam$Aiming", "gather", "(LOneSunbeam$Town;I)V"⟩) (n := 7) 38 (by decide +kernel)
theorem tp_39 : Cond.selects "OneSunbeam$Aiming" ⟨"OneSunbeam$Aiming", "putSlants", "(LOneSunbeam$Town;[I)V"⟩ ⟨"OneSunbeam$Aiming", "putSlants", "(LOneSunbeam$Town;[I)V"⟩ ∈ gt := tp_of (y := ⟨"OneSunbeam$Aiming", "putSlants", "(LOneSunbeam$Town;[I)V"⟩) (n := 7) 39 (by decide +kernel)
theorem tp_40 : Cond.selects "OneSunbeam$Aiming" ⟨"OneSunbeam$Aiming", "leastGot", "(LOneSunbeam$Town;)I"⟩ ⟨"OneSunbeam$Aiming", "leastGot", "(LOneSunbeam$Town;)I"⟩ ∈ gt := tp_of (y := ⟨"OneSunbeam$Aiming", "leastGot", "(LOneSunbeam$Town;)I"⟩) (n := 7) 40 (by decide +kernel)
theorem tp_41 : Cond.selects "OneSunbeam$Aiming" ⟨"OneSunbeam$Aiming", "lastTouched", "()I"⟩ ⟨"OneSunbeam$Aiming", "lastTouched", "()I"⟩ ∈ gt := tp_of (y := ⟨"OneSunbeam$Aiming", "lastTouched", "()I"⟩) (n := 7) 41 (by decide +kernel)
theorem tp_42 : Cond.selects "OneSunbeam$Aiming" ⟨"OneSunbeam$Aiming", "goOn", "(I)Z"⟩ ⟨"OneSunbeam$Aiming", "goOn", "(I)Z"⟩ ∈ gt := tp_of (y := ⟨"OneSunbeam$Aiming", "goOn", "(I)Z"⟩) (n := 7) 42 (by decide +kernel)
theorem tp_43 : Cond.selects "OneSunbeam$Mending" ⟨"OneSunbeam$Mending", "isEnough", "()Z"⟩ ⟨"OneSunbeam$Mending", "isEnough", "()Z"⟩ ∈ gt := tp_of (y := ⟨"OneSunbeam$Mending", "isEnough", "()Z"⟩) (n := 9) 43 (by decide +kernel)
theorem tp_44 : Cond.selects "OneSunbeam$Mending" ⟨"OneSunbeam$Mending", "isMendedBy", "(II)Z"⟩ ⟨"OneSunbeam$Mending", "isMendedBy", "(II)Z"⟩ ∈ gt := tp_of (y := ⟨"OneSunbeam$Mending", "isMendedBy", "(II)Z"⟩) (n := 9) 44 (by decide +kernel)
theorem tp_45 : Cond.selects "OneSunbeam$Mending" ⟨"OneSunbeam$Mending", "findSlants", "(II)Z"⟩ ⟨"OneSunbeam$Mending", "findSlants", "(II)Z"⟩ ∈ gt := tp_of (y := ⟨"OneSunbeam$Mending", "findSlants", "(II)Z"⟩) (n := 9) 45 (by decide +kernel)
theorem tp_46 : Cond.selects "OneSunbeam$Mending" ⟨"OneSunbeam$Mending", "doesPairMatter", "(IIII)Z"⟩ ⟨"OneSunbeam$Mending", "doesPairMatter", "(IIII)Z"⟩ ∈ gt := tp_of (y := ⟨"OneSunbeam$Mending", "doesPairMatter", "(IIII)Z"⟩) (n := 9) 46 (by decide +kernel)
theorem tp_47 : Cond.selects "OneSunbeam$Opening" ⟨"OneSunbeam$Opening", "tryWays", "(LOneSunbeam$Town;I)V"⟩ ⟨"OneSunbeam$Opening", "tryWays", "(LOneSunbeam$Town;I)V"⟩ ∈ gt := tp_of (y := ⟨"OneSunbeam$Opening", "tryWays", "(LOneSunbeam$Town;I)V"⟩) (n := 4) 47 (by decide +kernel)
theorem tp_48 : Cond.selects "OneSunbeam$Theft" ⟨"OneSunbeam$Theft", "walk", "(LOneSunbeam$Town;I)V"⟩ ⟨"OneSunbeam$Theft", "walk", "(LOneSunbeam$Town;I)V"⟩ ∈ gt := tp_of (y := ⟨"OneSunbeam$Theft", "walk", "(LOneSunbeam$Town;I)V"⟩) (n := 6) 48 (by decide +kernel)
theorem tp_49 : Cond.selects "OneSunbeam$Theft" ⟨"OneSunbeam$Theft", "meet", "(II)I"⟩ ⟨"OneSunbeam$Theft", "meet", "(II)I"⟩ ∈ gt := tp_of (y := ⟨"OneSunbeam$Theft", "meet", "(II)I"⟩) (n := 6) 49 (by decide +kernel)
theorem tp_50 : Cond.selects "OneSunbeam$Theft" ⟨"OneSunbeam$Theft", "isExplainedBehind", "(LOneSunbeam$Town;II)Z"⟩ ⟨"OneSunbeam$Theft", "isExplainedBehind", "(LOneSunbeam$Town;II)Z"⟩ ∈ gt := tp_of (y := ⟨"OneSunbeam$Theft", "isExplainedBehind", "(LOneSunbeam$Town;II)Z"⟩) (n := 6) 50 (by decide +kernel)
theorem tp_51 : Cond.selects "OneSunbeam" ⟨"OneSunbeam", "leastDust", "(IIII)I"⟩ ⟨"OneSunbeam", "leastDust", "(IIII)I"⟩ ∈ gt := tp_of (y := ⟨"OneSunbeam", "leastDust", "(IIII)I"⟩) (n := 16) 51 (by decide +kernel)
theorem tp_52 : Cond.selects "OneSunbeam" ⟨"OneSunbeam", "getWithDust", "(IIII)I"⟩ ⟨"OneSunbeam", "getWithDust", "(IIII)I"⟩ ∈ gt := tp_of (y := ⟨"OneSunbeam", "getWithDust", "(IIII)I"⟩) (n := 16) 52 (by decide +kernel)
theorem tp_53 : Cond.selects "OneSunbeam" ⟨"OneSunbeam", "leastDustOneByOne", "(IIII)I"⟩ ⟨"OneSunbeam", "leastDustOneByOne", "(IIII)I"⟩ ∈ gt := tp_of (y := ⟨"OneSunbeam", "leastDustOneByOne", "(IIII)I"⟩) (n := 16) 53 (by decide +kernel)
theorem tp_54 : Cond.selects "OneSunbeam" ⟨"OneSunbeam", "leastDustByHalves", "(IIII)I"⟩ ⟨"OneSunbeam", "leastDustByHalves", "(IIII)I"⟩ ∈ gt := tp_of (y := ⟨"OneSunbeam", "leastDustByHalves", "(IIII)I"⟩) (n := 16) 54 (by decide +kernel)
theorem tp_55 : Cond.selects "OneSunbeam" ⟨"OneSunbeam", "countOfTown", "(I)I"⟩ ⟨"OneSunbeam", "countOfTown", "(I)I"⟩ ∈ gt := tp_of (y := ⟨"OneSunbeam", "countOfTown", "(I)I"⟩) (n := 16) 55 (by decide +kernel)
theorem tp_56 : Cond.selects "OneSunbeamModel" ⟨"OneSunbeamModel", "isArea", "(IIII)Z"⟩ ⟨"OneSunbeamModel", "isArea", "(IIII)Z"⟩ ∈ gt := tp_of (y := ⟨"OneSunbeamModel", "isArea", "(IIII)Z"⟩) (n := 80) 56 (by decide +kernel)
theorem tp_57 : Cond.selects "OneSunbeamModel" ⟨"OneSunbeamModel", "isCell", "(II)Z"⟩ ⟨"OneSunbeamModel", "isCell", "(II)Z"⟩ ∈ gt := tp_of (y := ⟨"OneSunbeamModel", "isCell", "(II)Z"⟩) (n := 80) 57 (by decide +kernel)
theorem tp_58 : Cond.selects "OneSunbeamModel" ⟨"OneSunbeamModel", "isTown", "()Z"⟩ ⟨"OneSunbeamModel", "isTown", "()Z"⟩ ∈ gt := tp_of (y := ⟨"OneSunbeamModel", "isTown", "()Z"⟩) (n := 80) 58 (by decide +kernel)
theorem tp_59 : Cond.selects "OneSunbeamModel" ⟨"OneSunbeamModel", "isMirror", "(I)Z"⟩ ⟨"OneSunbeamModel", "isMirror", "(I)Z"⟩ ∈ gt := tp_of (y := ⟨"OneSunbeamModel", "isMirror", "(I)Z"⟩) (n := 80) 59 (by decide +kernel)
theorem tp_60 : Cond.selects "OneSunbeamModel" ⟨"OneSunbeamModel", "put", "(I)V"⟩ ⟨"OneSunbeamModel", "put", "(I)V"⟩ ∈ gt := tp_of (y := ⟨"OneSunbeamModel", "put", "(I)V"⟩) (n := 80) 60 (by decide +kernel)
theorem tp_61 : Cond.selects "OneSunbeamModel" ⟨"OneSunbeamModel", "clause", "(I)V"⟩ ⟨"OneSunbeamModel", "clause", "(I)V"⟩ ∈ gt := tp_of (y := ⟨"OneSunbeamModel", "clause", "(I)V"⟩) (n := 80) 61 (by decide +kernel)
theorem tp_62 : Cond.selects "OneSunbeamModel" ⟨"OneSunbeamModel", "blanks", "()V"⟩ ⟨"OneSunbeamModel", "blanks", "()V"⟩ ∈ gt := tp_of (y := ⟨"OneSunbeamModel", "blanks", "()V"⟩) (n := 80) 62 (by decide +kernel)
theorem tp_63 : Cond.selects "OneSunbeamModel" ⟨"OneSunbeamModel", "sign", "()I"⟩ ⟨"OneSunbeamModel", "sign", "()I"⟩ ∈ gt := tp_of (y := ⟨"OneSunbeamModel", "sign", "()I"⟩) (n := 80) 63 (by decide +kernel)
theorem tp_64 : Cond.selects "OneSunbeamModel" ⟨"OneSunbeamModel", "stands", "(Ljava/lang/String;)Z"⟩ ⟨"OneSunbeamModel", "stands", "(Ljava/lang/String;)Z"⟩ ∈ gt := tp_of (y := ⟨"OneSunbeamModel", "stands", "(Ljava/lang/String;)Z"⟩) (n := 80) 64 (by decide +kernel)
theorem tp_65 : Cond.selects "OneSunbeamModel" ⟨"OneSunbeamModel", "fails", "(II)V"⟩ ⟨"OneSunbeamModel", "fails", "(II)V"⟩ ∈ gt := tp_of (y := ⟨"OneSunbeamModel", "fails", "(II)V"⟩) (n := 80) 65 (by decide +kernel)
theorem tp_66 : Cond.selects "OneSunbeamModel" ⟨"OneSunbeamModel", "digits", "(I)I"⟩ ⟨"OneSunbeamModel", "digits", "(I)I"⟩ ∈ gt := tp_of (y := ⟨"OneSunbeamModel", "digits", "(I)I"⟩) (n := 80) 66 (by decide +kernel)
theorem tp_67 : Cond.selects "OneSunbeamModel" ⟨"OneSunbeamModel", "isDigit", "()Z"⟩ ⟨"OneSunbeamModel", "isDigit", "()Z"⟩ ∈ gt := tp_of (y := ⟨"OneSunbeamModel", "isDigit", "()Z"⟩) (n := 80) 67 (by decide +kernel)
theorem tp_68 : Cond.selects "OneSunbeamModel" ⟨"OneSunbeamModel", "sum", "()V"⟩ ⟨"OneSunbeamModel", "sum", "()V"⟩ ∈ gt := tp_of (y := ⟨"OneSunbeamModel", "sum", "()V"⟩) (n := 80) 68 (by decide +kernel)
theorem tp_69 : Cond.selects "OneSunbeamModel" ⟨"OneSunbeamModel", "term", "()V"⟩ ⟨"OneSunbeamModel", "term", "()V"⟩ ∈ gt := tp_of (y := ⟨"OneSunbeamModel", "term", "()V"⟩) (n := 80) 69 (by decide +kernel)
theorem tp_70 : Cond.selects "OneSunbeamModel" ⟨"OneSunbeamModel", "value", "()V"⟩ ⟨"OneSunbeamModel", "value", "()V"⟩ ∈ gt := tp_of (y := ⟨"OneSunbeamModel", "value", "()V"⟩) (n := 80) 70 (by decide +kernel)
theorem tp_71 : Cond.selects "OneSunbeamModel" ⟨"OneSunbeamModel", "isCounted", "(I)V"⟩ ⟨"OneSunbeamModel", "isCounted", "(I)V"⟩ ∈ gt := tp_of (y := ⟨"OneSunbeamModel", "isCounted", "(I)V"⟩) (n := 80) 71 (by decide +kernel)
theorem tp_72 : Cond.selects "OneSunbeamModel" ⟨"OneSunbeamModel", "entry", "(II)V"⟩ ⟨"OneSunbeamModel", "entry", "(II)V"⟩ ∈ gt := tp_of (y := ⟨"OneSunbeamModel", "entry", "(II)V"⟩) (n := 80) 72 (by decide +kernel)
theorem tp_73 : Cond.selects "OneSunbeamModel" ⟨"OneSunbeamModel", "takes", "(Ljava/lang/String;)Z"⟩ ⟨"OneSunbeamModel", "takes", "(Ljava/lang/String;)Z"⟩ ∈ gt := tp_of (y := ⟨"OneSunbeamModel", "takes", "(Ljava/lang/String;)Z"⟩) (n := 80) 73 (by decide +kernel)
theorem tp_74 : Cond.selects "OneSunbeamModel" ⟨"OneSunbeamModel", "test", "()V"⟩ ⟨"OneSunbeamModel", "test", "()V"⟩ ∈ gt := tp_of (y := ⟨"OneSunbeamModel", "test", "()V"⟩) (n := 80) 74 (by decide +kernel)
theorem tp_75 : Cond.selects "OneSunbeamModel" ⟨"OneSunbeamModel", "fact", "()Z"⟩ ⟨"OneSunbeamModel", "fact", "()Z"⟩ ∈ gt := tp_of (y := ⟨"OneSunbeamModel", "fact", "()Z"⟩) (n := 80) 75 (by decide +kernel)
theorem tp_76 : Cond.selects "OneSunbeamModel" ⟨"OneSunbeamModel", "opens", "(I)V"⟩ ⟨"OneSunbeamModel", "opens", "(I)V"⟩ ∈ gt := tp_of (y := ⟨"OneSunbeamModel", "opens", "(I)V"⟩) (n := 80) 76 (by decide +kernel)
theorem tp_77 : Cond.selects "OneSunbeamModel" ⟨"OneSunbeamModel", "compared", "()V"⟩ ⟨"OneSunbeamModel", "compared", "()V"⟩ ∈ gt := tp_of (y := ⟨"OneSunbeamModel", "compared", "()V"⟩) (n := 80) 77 (by decide +kernel)
theorem tp_78 : Cond.selects "OneSunbeamModel" ⟨"OneSunbeamModel", "answers", "(I)V"⟩ ⟨"OneSunbeamModel", "answers", "(I)V"⟩ ∈ gt := tp_of (y := ⟨"OneSunbeamModel", "answers", "(I)V"⟩) (n := 80) 78 (by decide +kernel)
theorem tp_79 : Cond.selects "OneSunbeamModel" ⟨"OneSunbeamModel", "top", "()I"⟩ ⟨"OneSunbeamModel", "top", "()I"⟩ ∈ gt := tp_of (y := ⟨"OneSunbeamModel", "top", "()I"⟩) (n := 80) 79 (by decide +kernel)
theorem tp_80 : Cond.selects "OneSunbeamModel" ⟨"OneSunbeamModel", "isLaw", "(I)Z"⟩ ⟨"OneSunbeamModel", "isLaw", "(I)Z"⟩ ∈ gt := tp_of (y := ⟨"OneSunbeamModel", "isLaw", "(I)Z"⟩) (n := 80) 80 (by decide +kernel)
theorem tp_81 : Cond.selects "OneSunbeamModel" ⟨"OneSunbeamModel", "goesDay", "(I)V"⟩ ⟨"OneSunbeamModel", "goesDay", "(I)V"⟩ ∈ gt := tp_of (y := ⟨"OneSunbeamModel", "goesDay", "(I)V"⟩) (n := 80) 81 (by decide +kernel)
theorem tp_82 : Cond.selects "OneSunbeamModel" ⟨"OneSunbeamModel", "turns", "(III)V"⟩ ⟨"OneSunbeamModel", "turns", "(III)V"⟩ ∈ gt := tp_of (y := ⟨"OneSunbeamModel", "turns", "(III)V"⟩) (n := 80) 82 (by decide +kernel)
theorem tp_83 : Cond.selects "OneSunbeamModel" ⟨"OneSunbeamModel", "asks", "(II)V"⟩ ⟨"OneSunbeamModel", "asks", "(II)V"⟩ ∈ gt := tp_of (y := ⟨"OneSunbeamModel", "asks", "(II)V"⟩) (n := 80) 83 (by decide +kernel)
theorem tp_84 : Cond.selects "OneSunbeamModel" ⟨"OneSunbeamModel", "sunOf", "(I)I"⟩ ⟨"OneSunbeamModel", "sunOf", "(I)I"⟩ ∈ gt := tp_of (y := ⟨"OneSunbeamModel", "sunOf", "(I)I"⟩) (n := 80) 84 (by decide +kernel)
theorem tp_85 : Cond.selects "OneSunbeamModel" ⟨"OneSunbeamModel", "answer", "(III)J"⟩ ⟨"OneSunbeamModel", "answer", "(III)J"⟩ ∈ gt := tp_of (y := ⟨"OneSunbeamModel", "answer", "(III)J"⟩) (n := 80) 85 (by decide +kernel)
theorem tp_86 : Cond.selects "OneSunbeamModel" ⟨"OneSunbeamModel", "shines", "(I)V"⟩ ⟨"OneSunbeamModel", "shines", "(I)V"⟩ ∈ gt := tp_of (y := ⟨"OneSunbeamModel", "shines", "(I)V"⟩) (n := 80) 86 (by decide +kernel)
theorem tp_87 : Cond.selects "OneSunbeamModel" ⟨"OneSunbeamModel", "traces", "(III)V"⟩ ⟨"OneSunbeamModel", "traces", "(III)V"⟩ ∈ gt := tp_of (y := ⟨"OneSunbeamModel", "traces", "(III)V"⟩) (n := 80) 87 (by decide +kernel)
theorem tp_88 : Cond.selects "OneSunbeamModel" ⟨"OneSunbeamModel", "goes", "(IIII)V"⟩ ⟨"OneSunbeamModel", "goes", "(IIII)V"⟩ ∈ gt := tp_of (y := ⟨"OneSunbeamModel", "goes", "(IIII)V"⟩) (n := 80) 88 (by decide +kernel)
theorem tp_89 : Cond.selects "OneSunbeamModel" ⟨"OneSunbeamModel", "yardOf", "(II)I"⟩ ⟨"OneSunbeamModel", "yardOf", "(II)I"⟩ ∈ gt := tp_of (y := ⟨"OneSunbeamModel", "yardOf", "(II)I"⟩) (n := 80) 89 (by decide +kernel)
theorem tp_90 : Cond.selects "OneSunbeamModel" ⟨"OneSunbeamModel", "told", "(II)I"⟩ ⟨"OneSunbeamModel", "told", "(II)I"⟩ ∈ gt := tp_of (y := ⟨"OneSunbeamModel", "told", "(II)I"⟩) (n := 80) 90 (by decide +kernel)
theorem tp_91 : Cond.selects "OneSunbeamModel" ⟨"OneSunbeamModel", "waitsFor", "(IIII)V"⟩ ⟨"OneSunbeamModel", "waitsFor", "(IIII)V"⟩ ∈ gt := tp_of (y := ⟨"OneSunbeamModel", "waitsFor", "(IIII)V"⟩) (n := 80) 91 (by decide +kernel)
theorem tp_92 : Cond.selects "OneSunbeamModel" ⟨"OneSunbeamModel", "blindCells", "()I"⟩ ⟨"OneSunbeamModel", "blindCells", "()I"⟩ ∈ gt := tp_of (y := ⟨"OneSunbeamModel", "blindCells", "()I"⟩) (n := 80) 92 (by decide +kernel)
theorem tp_93 : Cond.selects "OneSunbeamModel" ⟨"OneSunbeamModel", "met", "()I"⟩ ⟨"OneSunbeamModel", "met", "()I"⟩ ∈ gt := tp_of (y := ⟨"OneSunbeamModel", "met", "()I"⟩) (n := 80) 93 (by decide +kernel)
theorem tp_94 : Cond.selects "OneSunbeamModel" ⟨"OneSunbeamModel", "isYard", "(I)Z"⟩ ⟨"OneSunbeamModel", "isYard", "(I)Z"⟩ ∈ gt := tp_of (y := ⟨"OneSunbeamModel", "isYard", "(I)Z"⟩) (n := 80) 94 (by decide +kernel)
theorem tp_95 : Cond.selects "OneSunbeamModel" ⟨"OneSunbeamModel", "isBright", "(I)Z"⟩ ⟨"OneSunbeamModel", "isBright", "(I)Z"⟩ ∈ gt := tp_of (y := ⟨"OneSunbeamModel", "isBright", "(I)Z"⟩) (n := 80) 95 (by decide +kernel)
theorem tp_96 : Cond.selects "OneSunbeamModel" ⟨"OneSunbeamModel", "allGot", "()I"⟩ ⟨"OneSunbeamModel", "allGot", "()I"⟩ ∈ gt := tp_of (y := ⟨"OneSunbeamModel", "allGot", "()I"⟩) (n := 80) 96 (by decide +kernel)
theorem tp_97 : Cond.selects "OneSunbeamModel" ⟨"OneSunbeamModel", "firstBlind", "()I"⟩ ⟨"OneSunbeamModel", "firstBlind", "()I"⟩ ∈ gt := tp_of (y := ⟨"OneSunbeamModel", "firstBlind", "()I"⟩) (n := 80) 97 (by decide +kernel)
theorem tp_98 : Cond.selects "OneSunbeamModel" ⟨"OneSunbeamModel", "isSet", "(I)Z"⟩ ⟨"OneSunbeamModel", "isSet", "(I)Z"⟩ ∈ gt := tp_of (y := ⟨"OneSunbeamModel", "isSet", "(I)Z"⟩) (n := 80) 98 (by decide +kernel)
theorem tp_99 : Cond.selects "OneSunbeamModel" ⟨"OneSunbeamModel", "searches", "(III)I"⟩ ⟨"OneSunbeamModel", "searches", "(III)I"⟩ ∈ gt := tp_of (y := ⟨"OneSunbeamModel", "searches", "(III)I"⟩) (n := 80) 99 (by decide +kernel)
theorem tp_100 : Cond.selects "OneSunbeamModel" ⟨"OneSunbeamModel", "fairest", "()I"⟩ ⟨"OneSunbeamModel", "fairest", "()I"⟩ ∈ gt := tp_of (y := ⟨"OneSunbeamModel", "fairest", "()I"⟩) (n := 80) 100 (by decide +kernel)
theorem tp_101 : Cond.selects "OneSunbeamModel" ⟨"OneSunbeamModel", "isMended", "(IIIII)V"⟩ ⟨"OneSunbeamModel", "isMended", "(IIIII)V"⟩ ∈ gt := tp_of (y := ⟨"OneSunbeamModel", "isMended", "(IIIII)V"⟩) (n := 80) 101 (by decide +kernel)
theorem tp_102 : Cond.selects "OneSunbeamModel" ⟨"OneSunbeamModel", "isHalf", "(I)Z"⟩ ⟨"OneSunbeamModel", "isHalf", "(I)Z"⟩ ∈ gt := tp_of (y := ⟨"OneSunbeamModel", "isHalf", "(I)Z"⟩) (n := 80) 102 (by decide +kernel)
theorem tp_103 : Cond.selects "OneSunbeamModel" ⟨"OneSunbeamModel", "mendsOne", "(I)Z"⟩ ⟨"OneSunbeamModel", "mendsOne", "(I)Z"⟩ ∈ gt := tp_of (y := ⟨"OneSunbeamModel", "mendsOne", "(I)Z"⟩) (n := 80) 103 (by decide +kernel)
theorem tp_104 : Cond.selects "OneSunbeamModel" ⟨"OneSunbeamModel", "mendsTwo", "(I)Z"⟩ ⟨"OneSunbeamModel", "mendsTwo", "(I)Z"⟩ ∈ gt := tp_of (y := ⟨"OneSunbeamModel", "mendsTwo", "(I)Z"⟩) (n := 80) 104 (by decide +kernel)
theorem tp_105 : Cond.selects "OneSunbeamModel" ⟨"OneSunbeamModel", "mendsPair", "(III)Z"⟩ ⟨"OneSunbeamModel", "mendsPair", "(III)Z"⟩ ∈ gt := tp_of (y := ⟨"OneSunbeamModel", "mendsPair", "(III)Z"⟩) (n := 80) 105 (by decide +kernel)
theorem tp_106 : Cond.selects "OneSunbeamModel" ⟨"OneSunbeamModel", "follows", "(I)V"⟩ ⟨"OneSunbeamModel", "follows", "(I)V"⟩ ∈ gt := tp_of (y := ⟨"OneSunbeamModel", "follows", "(I)V"⟩) (n := 80) 106 (by decide +kernel)
theorem tp_107 : Cond.selects "OneSunbeamModel" ⟨"OneSunbeamModel", "keeps", "()V"⟩ ⟨"OneSunbeamModel", "keeps", "()V"⟩ ∈ gt := tp_of (y := ⟨"OneSunbeamModel", "keeps", "()V"⟩) (n := 80) 107 (by decide +kernel)
theorem tp_108 : Cond.selects "OneSunbeamModel" ⟨"OneSunbeamModel", "putsBack", "()V"⟩ ⟨"OneSunbeamModel", "putsBack", "()V"⟩ ∈ gt := tp_of (y := ⟨"OneSunbeamModel", "putsBack", "()V"⟩) (n := 80) 108 (by decide +kernel)
theorem tp_109 : Cond.selects "OneSunbeamModel" ⟨"OneSunbeamModel", "carriesAll", "(IZ)V"⟩ ⟨"OneSunbeamModel", "carriesAll", "(IZ)V"⟩ ∈ gt := tp_of (y := ⟨"OneSunbeamModel", "carriesAll", "(IZ)V"⟩) (n := 80) 109 (by decide +kernel)
theorem tp_110 : Cond.selects "OneSunbeamModel" ⟨"OneSunbeamModel", "carry", "([I)V"⟩ ⟨"OneSunbeamModel", "carry", "([I)V"⟩ ∈ gt := tp_of (y := ⟨"OneSunbeamModel", "carry", "([I)V"⟩) (n := 80) 110 (by decide +kernel)
theorem oc0_w : ∀ w ∈ u_ws RX0 TX0 7, w ∈ gt := by
  intro w hw
  have h : ∀ w ∈ u_ws RX0 TX0 7, w ∈ tables_1 ∧ goodWord w = true := by decide +kernel
  exact gt_of (List.mem_append_right _ (h w hw).1) (h w hw).2
theorem oc0 : OC 0 RX0 TX0 tyX0 7 := ⟨rfl, by decide, oc0_w, tyX0_ok, nmX0⟩
theorem df0 : ∀ j, j < 7 → defaultValue (tyX0 j) = if sk 0 j = true then .null else .int 0 := by decide +kernel
theorem oc1_w : ∀ w ∈ u_ws RX1 TX1 13, w ∈ gt := by
  intro w hw
  have h : ∀ w ∈ u_ws RX1 TX1 13, w ∈ tables_1 ∧ goodWord w = true := by decide +kernel
  exact gt_of (List.mem_append_right _ (h w hw).1) (h w hw).2
theorem oc1 : OC 1 RX1 TX1 tyX1 13 := ⟨rfl, by decide, oc1_w, tyX1_ok, nmX1⟩
theorem df1 : ∀ j, j < 13 → defaultValue (tyX1 j) = if sk 1 j = true then .null else .int 0 := by decide +kernel
theorem oc2_w : ∀ w ∈ u_ws RX2 TX2 4, w ∈ gt := by
  intro w hw
  have h : ∀ w ∈ u_ws RX2 TX2 4, w ∈ tables_1 ∧ goodWord w = true := by decide +kernel
  exact gt_of (List.mem_append_right _ (h w hw).1) (h w hw).2
theorem oc2 : OC 2 RX2 TX2 tyX2 4 := ⟨rfl, by decide, oc2_w, tyX2_ok, nmX2⟩
theorem df2 : ∀ j, j < 4 → defaultValue (tyX2 j) = if sk 2 j = true then .null else .int 0 := by decide +kernel
theorem oc3_w : ∀ w ∈ u_ws RX3 TX3 7, w ∈ gt := by
  intro w hw
  have h : ∀ w ∈ u_ws RX3 TX3 7, w ∈ tables_1 ∧ goodWord w = true := by decide +kernel
  exact gt_of (List.mem_append_right _ (h w hw).1) (h w hw).2
theorem oc3 : OC 3 RX3 TX3 tyX3 7 := ⟨rfl, by decide, oc3_w, tyX3_ok, nmX3⟩
theorem df3 : ∀ j, j < 7 → defaultValue (tyX3 j) = if sk 3 j = true then .null else .int 0 := by decide +kernel
theorem oc4_w : ∀ w ∈ u_ws RX4 TX4 14, w ∈ gt := by
  intro w hw
  have h : ∀ w ∈ u_ws RX4 TX4 14, w ∈ tables_1 ∧ goodWord w = true := by decide +kernel
  exact gt_of (List.mem_append_right _ (h w hw).1) (h w hw).2
theorem oc4 : OC 4 RX4 TX4 tyX4 14 := ⟨rfl, by decide, oc4_w, tyX4_ok, nmX4⟩
theorem df4 : ∀ j, j < 14 → defaultValue (tyX4 j) = if sk 4 j = true then .null else .int 0 := by decide +kernel
theorem oc5_w : ∀ w ∈ u_ws RX5 TX5 9, w ∈ gt := by
  intro w hw
  have h : ∀ w ∈ u_ws RX5 TX5 9, w ∈ tables_1 ∧ goodWord w = true := by decide +kernel
  exact gt_of (List.mem_append_right _ (h w hw).1) (h w hw).2
theorem oc5 : OC 5 RX5 TX5 tyX5 9 := ⟨rfl, by decide, oc5_w, tyX5_ok, nmX5⟩
theorem df5 : ∀ j, j < 9 → defaultValue (tyX5 j) = if sk 5 j = true then .null else .int 0 := by decide +kernel
theorem oc6_w : ∀ w ∈ u_ws RX6 TX6 4, w ∈ gt := by
  intro w hw
  have h : ∀ w ∈ u_ws RX6 TX6 4, w ∈ tables_1 ∧ goodWord w = true := by decide +kernel
  exact gt_of (List.mem_append_right _ (h w hw).1) (h w hw).2
theorem oc6 : OC 6 RX6 TX6 tyX6 4 := ⟨rfl, by decide, oc6_w, tyX6_ok, nmX6⟩
theorem df6 : ∀ j, j < 4 → defaultValue (tyX6 j) = if sk 6 j = true then .null else .int 0 := by decide +kernel
theorem oc7_w : ∀ w ∈ u_ws RX7 TX7 6, w ∈ gt := by
  intro w hw
  have h : ∀ w ∈ u_ws RX7 TX7 6, w ∈ tables_1 ∧ goodWord w = true := by decide +kernel
  exact gt_of (List.mem_append_right _ (h w hw).1) (h w hw).2
theorem oc7 : OC 7 RX7 TX7 tyX7 6 := ⟨rfl, by decide, oc7_w, tyX7_ok, nmX7⟩
theorem df7 : ∀ j, j < 6 → defaultValue (tyX7 j) = if sk 7 j = true then .null else .int 0 := by decide +kernel
theorem oc8_w : ∀ w ∈ u_ws RX8 TX8 18, w ∈ gt := by
  intro w hw
  have h : ∀ w ∈ u_ws RX8 TX8 18, w ∈ tables_1 ∧ goodWord w = true := by decide +kernel
  exact gt_of (List.mem_append_right _ (h w hw).1) (h w hw).2
theorem oc8 : OC 8 RX8 TX8 tyX8 18 := ⟨rfl, by decide, oc8_w, tyX8_ok, nmX8⟩
theorem df8 : ∀ j, j < 18 → defaultValue (tyX8 j) = if sk 8 j = true then .null else .int 0 := by decide +kernel
theorem oc9_w : ∀ w ∈ u_ws RX9 TX9 16, w ∈ gt := by
  intro w hw
  have h : ∀ w ∈ u_ws RX9 TX9 16, w ∈ tables_1 ∧ goodWord w = true := by decide +kernel
  exact gt_of (List.mem_append_right _ (h w hw).1) (h w hw).2
theorem oc9 : OC 9 RX9 TX9 tyX9 16 := ⟨rfl, by decide, oc9_w, tyX9_ok, nmX9⟩
theorem df9 : ∀ j, j < 16 → defaultValue (tyX9 j) = if sk 9 j = true then .null else .int 0 := by decide +kernel
theorem oc10_w : ∀ w ∈ u_ws RX10 TX10 80, w ∈ gt := by
  intro w hw
  have h : ∀ w ∈ u_ws RX10 TX10 80, w ∈ tables_1 ∧ goodWord w = true := by decide +kernel
  exact gt_of (List.mem_append_right _ (h w hw).1) (h w hw).2
theorem oc10 : OC 10 RX10 TX10 tyX10 80 := ⟨rfl, by decide, oc10_w, tyX10_ok, nmX10⟩
theorem df10 : ∀ j, j < 80 → defaultValue (tyX10 j) = if sk 10 j = true then .null else .int 0 := by decide +kernel
end
section
-- truth values and whole numbers
def Bo (r : Int32) (P : Prop) : Prop := (P ∧ r = 1) ∨ (¬ P ∧ r = 0)
theorem Bo.y {P : Prop} (h : P) : Bo 1 P := Or.inl ⟨h, rfl⟩
theorem Bo.n {P : Prop} (h : ¬ P) : Bo 0 P := Or.inr ⟨h, rfl⟩
theorem Bo.t {r : Int32} {P : Prop} (h : Bo r P) (c : ¬ r = 0) : P := by
  rcases h with ⟨h, -⟩ | ⟨-, h⟩
  · exact h
  · exact absurd h c
theorem Bo.f {r : Int32} {P : Prop} (h : Bo r P) (c : r = 0) : ¬ P := by
  rcases h with ⟨-, h⟩ | ⟨h, -⟩
  · rw [h] at c
    exact absurd c (by decide)
  · exact h
theorem Bo.z {r : Int32} {P : Prop} (h : Bo r P) (c : ¬ P) : r = 0 := by
  rcases h with ⟨h, -⟩ | ⟨-, h⟩
  · exact absurd h c
  · exact h
theorem Bo.o {r : Int32} {P : Prop} (h : Bo r P) (c : P) : r = 1 := by
  rcases h with ⟨-, h⟩ | ⟨h, -⟩
  · exact h
  · exact absurd c h
theorem Bo.same {r q : Int32} {P P' : Prop} (h : Bo r P) (h' : Bo q P') (e : P ↔ P') : r = q := by
  rcases h with ⟨h, hr⟩ | ⟨h, hr⟩
  · rw [hr, h'.o (e.mp h)]
  · rw [hr, h'.z (fun x => h (e.mpr x))]
theorem Bo.nar {r : Int32} {P : Prop} (h : Bo r P) : narrow .boolean (.int r) = .int r ∧ fits .boolean (.int r) = true := by
  rcases h with ⟨-, h⟩ | ⟨-, h⟩ <;> subst h <;> exact ⟨rfl, rfl⟩
theorem q_lt {x y : Int32} (h : x < y) : x.toInt < y.toInt := Int32.lt_iff_toInt_lt.mp h
theorem q_nlt {x y : Int32} (h : ¬ x < y) : y.toInt ≤ x.toInt := Int.not_lt.mp (fun q => h (Int32.lt_iff_toInt_lt.mpr q))
theorem q_le {x y : Int32} (h : x ≤ y) : x.toInt ≤ y.toInt := Int32.le_iff_toInt_le.mp h
theorem q_nle {x y : Int32} (h : ¬ x ≤ y) : y.toInt < x.toInt := Int.not_le.mp (fun q => h (Int32.le_iff_toInt_le.mpr q))
theorem q_eq {x y : Int32} (h : x = y) : x.toInt = y.toInt := by rw [h]
theorem q_ne {x y : Int32} (h : ¬ x = y) : x.toInt ≠ y.toInt := fun q => h (Int32.toInt_inj.mp q)
theorem q_i2l {x : Int32} {v : Int64} (h : v = x.toInt64) : v.toInt = x.toInt := by rw [h]; exact Int32.toInt_toInt64 x
theorem lc_t (x y : Int64) : (x.toInt < y.toInt ∧ lg_cmp x y = -1) ∨ (x.toInt = y.toInt ∧ lg_cmp x y = 0) ∨ (y.toInt < x.toInt ∧ lg_cmp x y = 1) := by
  unfold lg_cmp
  rcases Int.lt_trichotomy x.toInt y.toInt with h | h | h
  · left
    have h1 : ¬ x > y := fun q => by have := Int64.lt_iff_toInt_lt.mp q; omega
    have h2 : ¬ x = y := fun q => by rw [q] at h; omega
    rw [if_neg h1, if_neg h2]
    exact ⟨h, rfl⟩
  · right
    left
    have h2 : x = y := Int64.toInt_inj.mp h
    have h1 : ¬ x > y := fun q => by have := Int64.lt_iff_toInt_lt.mp q; omega
    rw [if_neg h1, if_pos h2]
    exact ⟨h, rfl⟩
  · right
    right
    have h1 : x > y := Int64.lt_iff_toInt_lt.mpr h
    rw [if_pos h1]
    exact ⟨h, rfl⟩
theorem l_lt {x y : Int64} (h : lg_cmp x y < 0) : x.toInt < y.toInt := by
  rcases lc_t x y with ⟨h1, h2⟩ | ⟨h1, h2⟩ | ⟨h1, h2⟩ <;> rw [h2] at h <;> first | exact h1 | exact absurd h (by decide)
theorem l_nlt {x y : Int64} (h : ¬ lg_cmp x y < 0) : y.toInt ≤ x.toInt := by
  rcases lc_t x y with ⟨h1, h2⟩ | ⟨h1, h2⟩ | ⟨h1, h2⟩ <;> rw [h2] at h <;> first | omega | exact absurd (by decide) h
theorem l_gt {x y : Int64} (h : 0 < lg_cmp x y) : y.toInt < x.toInt := by
  rcases lc_t x y with ⟨h1, h2⟩ | ⟨h1, h2⟩ | ⟨h1, h2⟩ <;> rw [h2] at h <;> first | exact h1 | exact absurd h (by decide)
theorem l_ngt {x y : Int64} (h : ¬ 0 < lg_cmp x y) : x.toInt ≤ y.toInt := by
  rcases lc_t x y with ⟨h1, h2⟩ | ⟨h1, h2⟩ | ⟨h1, h2⟩ <;> rw [h2] at h <;> first | omega | exact absurd (by decide) h
theorem l_ge {x y : Int64} (h : 0 ≤ lg_cmp x y) : y.toInt ≤ x.toInt := by
  rcases lc_t x y with ⟨h1, h2⟩ | ⟨h1, h2⟩ | ⟨h1, h2⟩ <;> rw [h2] at h <;> first | omega | exact absurd h (by decide)
theorem l_nge {x y : Int64} (h : ¬ 0 ≤ lg_cmp x y) : x.toInt < y.toInt := by
  rcases lc_t x y with ⟨h1, h2⟩ | ⟨h1, h2⟩ | ⟨h1, h2⟩ <;> rw [h2] at h <;> first | omega | exact absurd (by decide) h
theorem l_le {x y : Int64} (h : lg_cmp x y ≤ 0) : x.toInt ≤ y.toInt := by
  rcases lc_t x y with ⟨h1, h2⟩ | ⟨h1, h2⟩ | ⟨h1, h2⟩ <;> rw [h2] at h <;> first | omega | exact absurd h (by decide)
theorem l_nle {x y : Int64} (h : ¬ lg_cmp x y ≤ 0) : y.toInt < x.toInt := by
  rcases lc_t x y with ⟨h1, h2⟩ | ⟨h1, h2⟩ | ⟨h1, h2⟩ <;> rw [h2] at h <;> first | omega | exact absurd (by decide) h
theorem l_eq {x y : Int64} (h : lg_cmp x y = 0) : x.toInt = y.toInt := by
  rcases lc_t x y with ⟨h1, h2⟩ | ⟨h1, h2⟩ | ⟨h1, h2⟩ <;> rw [h2] at h <;> first | exact h1 | exact absurd h (by decide)
theorem l_ne {x y : Int64} (h : ¬ lg_cmp x y = 0) : x.toInt ≠ y.toInt := by
  rcases lc_t x y with ⟨h1, h2⟩ | ⟨h1, h2⟩ | ⟨h1, h2⟩ <;> rw [h2] at h <;> first | omega | exact absurd rfl h
theorem b_lt (x : Int32) : -2147483648 ≤ x.toInt ∧ x.toInt < 2147483648 := ⟨Int32.le_toInt x, Int32.toInt_lt x⟩
theorem a_add {x y v : Int32} (h : v = x + y) (h1 : -2147483648 ≤ x.toInt + y.toInt) (h2 : x.toInt + y.toInt < 2147483648) : v.toInt = x.toInt + y.toInt := by
  rw [h, Int32.toInt_add]
  exact Int.bmod_eq_of_le (by omega) (by omega)
theorem a_sub {x y v : Int32} (h : v = x - y) (h1 : -2147483648 ≤ x.toInt - y.toInt) (h2 : x.toInt - y.toInt < 2147483648) : v.toInt = x.toInt - y.toInt := by
  rw [h, Int32.toInt_sub]
  exact Int.bmod_eq_of_le (by omega) (by omega)
theorem a_mul {x y v : Int32} (h : v = x * y) (h1 : -2147483648 ≤ x.toInt * y.toInt) (h2 : x.toInt * y.toInt < 2147483648) : v.toInt = x.toInt * y.toInt := by
  rw [h, Int32.toInt_mul]
  exact Int.bmod_eq_of_le (by omega) (by omega)
theorem a_mulR {x y v : Int32} {c : Int} (h : v = x * y) (hy : y.toInt = c) (h1 : -2147483648 ≤ x.toInt * c) (h2 : x.toInt * c < 2147483648) : v.toInt = x.toInt * c := by
  subst hy
  exact a_mul h h1 h2
theorem a_mulL {x y v : Int32} {c : Int} (h : v = x * y) (hy : x.toInt = c) (h1 : -2147483648 ≤ c * y.toInt) (h2 : c * y.toInt < 2147483648) : v.toInt = c * y.toInt := by
  subst hy
  exact a_mul h h1 h2
theorem a_inc {x v : Int32} {c : Int} (h : v = x + Int32.ofInt c) (hc : (Int32.ofInt c).toInt = c) (h1 : -2147483648 ≤ x.toInt + c) (h2 : x.toInt + c < 2147483648) : v.toInt = x.toInt + c := by
  have h3 := a_add h (by rw [hc]; exact h1) (by rw [hc]; exact h2)
  rw [hc] at h3
  exact h3
theorem tn {i : Int32} (h : 0 ≤ i.toInt) : ((i.toNatClampNeg : Nat) : Int) = i.toInt := Int.toNat_of_nonneg h
theorem u2_v {α : Type} (f : Nat → Nat → α) (n k m j : Nat) (v : α) : u2 f n k v m j = if m = n ∧ j = k then v else f m j := by
  by_cases h : m = n
  · subst h
    rw [u2_at]
    by_cases h2 : j = k
    · subst h2
      rw [va_up_self]
      simp
    · rw [va_up_ne _ _ h2]
      simp [h2]
  · rw [u2_ne f k v h]
    simp [h]
-- the graph of the class's own objects: names that are there, and what refers to what
def tB : List Nat := [100, 110, 120, 130, 140, 150]
def lB : List Nat := [200, 210, 220, 230, 240, 250, 260]
def fnC : List Nat := [0, 1, 2, 3, 4, 10, 11, 12, 13, 14, 20, 21, 22, 30, 31, 32, 33, 34, 40, 41, 42, 43, 50, 60, 61, 62, 70, 71, 72, 100, 101, 102, 103, 104, 105, 106, 107, 108, 110, 111, 112, 113, 114, 115, 116, 117, 118]
def feC : List (Nat × Nat × Nat) := [(0, 0, 100), (0, 1, 110), (0, 2, 1), (0, 3, 10), (0, 4, 20), (0, 5, 30), (0, 6, 40), (0, 7, 50), (0, 8, 60), (0, 9, 70), (0, 10, 2), (0, 11, 3), (0, 12, 4), (10, 0, 11), (10, 1, 12), (10, 9, 13), (10, 10, 14), (20, 0, 10), (20, 1, 21), (20, 2, 22), (30, 0, 10), (30, 1, 31), (30, 2, 32), (30, 3, 33), (30, 4, 34), (40, 0, 41), (40, 1, 100), (40, 2, 10), (40, 3, 42), (40, 4, 43), (50, 3, 10), (60, 3, 61), (60, 4, 62), (70, 0, 71), (70, 1, 72), (100, 10, 101), (100, 11, 102), (100, 12, 103), (100, 13, 104), (100, 14, 105), (100, 15, 106), (100, 16, 107), (100, 17, 108), (110, 10, 111), (110, 11, 112), (110, 12, 113), (110, 13, 114), (110, 14, 115), (110, 15, 116), (110, 16, 117), (110, 17, 118)]
def SGC (ns : List Nat) (G : MG) : Prop := (∀ n ∈ fnC, n ∈ ns) ∧ ∀ t ∈ feC, G t.1 t.2.1 = t.2.2
def TOK (ns : List Nat) (G : MG) (b : Nat) : Prop := b ∈ tB ∧ (∀ k, k < 9 → b + k ∈ ns) ∧ ∀ k, k < 8 → G b (10 + k) = b + 1 + k
def LOK (ns : List Nat) (G : MG) (b : Nat) : Prop := b ∈ lB ∧ (∀ k, k < 6 → b + k ∈ ns) ∧ ∀ k, k < 5 → G b k = b + 1 + k
theorem TOK.l {ns : List Nat} {G : MG} {b : Nat} (h : TOK ns G b) : b ∈ ns := h.2.1 0 (by decide)
theorem LOK.l {ns : List Nat} {G : MG} {b : Nat} (h : LOK ns G b) : b ∈ ns := h.2.1 0 (by decide)
theorem SGC.t0 {ns : List Nat} {G : MG} (h : SGC ns G) : TOK ns G 100 := by
  refine ⟨by decide, fun k hk => h.1 _ ?_, fun k hk => h.2 (100, 10 + k, 100 + 1 + k) ?_⟩
  · revert k; decide
  · revert k; decide
theorem SGC.t1 {ns : List Nat} {G : MG} (h : SGC ns G) : TOK ns G 110 := by
  refine ⟨by decide, fun k hk => h.1 _ ?_, fun k hk => h.2 (110, 10 + k, 110 + 1 + k) ?_⟩
  · revert k; decide
  · revert k; decide
theorem kT : ∀ b ∈ tB, kd b = (8, 18) ∧ kd (b + 1) = (20, 576) ∧ kd (b + 2) = (20, 576) ∧ kd (b + 3) = (20, 576) ∧ kd (b + 4) = (20, 576) ∧ kd (b + 5) = (20, 288) ∧ kd (b + 6) = (20, 288) ∧ kd (b + 7) = (20, 240) ∧ kd (b + 8) = (20, 56) ∧ b ≠ 0 ∧ b < 1000 := by decide
theorem kW : ∀ b ∈ lB, kd b = (3, 7) ∧ kd (b + 1) = (20, 400) ∧ kd (b + 2) = (20, 12) ∧ kd (b + 3) = (20, 12) ∧ kd (b + 4) = (20, 12) ∧ kd (b + 5) = (20, 12) ∧ b ≠ 0 ∧ b < 1000 := by decide
-- the reference's
def fsM : List Nat := [1, 2, 3, 4, 5, 6, 7, 8, 9, 10, 11, 12, 13, 14, 15, 16, 17, 18, 19, 20, 21, 22, 23, 34, 35, 36, 37, 38, 39, 40, 41, 42, 43, 44, 45, 46, 47, 48, 49, 50, 58, 60, 61, 62, 64, 66, 67, 68, 69, 70, 71, 72, 73, 76, 77]
def SGM (ns : List Nat) (G : MG) : Prop := 1000 ∈ ns ∧ ∀ k ∈ fsM, 1000 + k ∈ ns ∧ G 1000 k = 1000 + k
end
section
theorem dX9_isWithin_0 : decode cX9_isWithin 0 = .ok (.iload_n 0, 1) := by decide +kernel
theorem dX9_isWithin_1 : decode cX9_isWithin 1 = .ok (.iload_n 1, 1) := by decide +kernel
theorem dX9_isWithin_2 : decode cX9_isWithin 2 = .ok (.if_icmp .lt 12, 3) := by decide +kernel
theorem dX9_isWithin_5 : decode cX9_isWithin 5 = .ok (.iload_n 0, 1) := by decide +kernel
theorem dX9_isWithin_6 : decode cX9_isWithin 6 = .ok (.iload_n 2, 1) := by decide +kernel
theorem dX9_isWithin_7 : decode cX9_isWithin 7 = .ok (.if_icmp .gt 7, 3) := by decide +kernel
theorem dX9_isWithin_10 : decode cX9_isWithin 10 = .ok (.iconst 1, 1) := by decide +kernel
theorem dX9_isWithin_11 : decode cX9_isWithin 11 = .ok (.goto 4, 3) := by decide +kernel
theorem dX9_isWithin_14 : decode cX9_isWithin 14 = .ok (.iconst 0, 1) := by decide +kernel
theorem dX9_isWithin_15 : decode cX9_isWithin 15 = .ok (.ireturn, 1) := by decide +kernel
theorem ce_X9_isWithin : CeS yX9_isWithin cX9_isWithin 3 (some .boolean) 3 := ⟨tb_452, tb_1, tb_453, by decide, by decide, by decide +kernel⟩
set_option maxHeartbeats 4000000 in
set_option maxRecDepth 20000 in
theorem C_X9_isWithin (l : Launch) (D : va_G) (A : Nat → Prop) (ad : Nat → Nat) (ns : List Nat) (I : MI) (L : ML) (G : MG) (n : Int32) (lo : Int32) (hi : Int32) : Met l yX9_isWithin (wd yX9_isWithin cX9_isWithin 3 (some .boolean)) ({ frames := 0, cells := 0, slots := 0, locals := 0 }) (va_Pc [.int n, .int lo, .int hi] (PM D A ad ns I L G)) (va_Qi (fun r u => u = (ad, ns, I, L, G) ∧ Bo r (lo.toInt ≤ n.toInt ∧ n.toInt ≤ hi.toInt)) (BM D A) A) 0 0 A := by
  refine m_ofW (by decide) (Nat.le_of_ble_eq_true rfl) ?_
  intro p e s m below meth c ls args hC hE hM hA hS hl
  obtain ⟨hx, hb, hml, hown, hts, hr, hlocks, hin⟩ := hC
  have k0 : (0 : Int32).toInt = 0 := by decide
  have k1 : (1 : Int32).toInt = 1 := by decide
  have hl : lv_has ls 3 [(0, .int (n)), (1, .int (lo)), (2, .int (hi))] := hl
  refine lv_iload_n hx hb dX9_isWithin_0 rfl (lv_at hl 0 rfl) ?_
  refine lv_iload_n hx hb dX9_isWithin_1 rfl (lv_at hl 1 rfl) ?_
  refine lv_icmp_lt (tgt := 14) hx hb dX9_isWithin_2 (by decide) (fun c1 => ?_) (fun c1 => ?_)
  · have hc1 := c1
    have q1 := q_lt hc1
    refine lv_iconst (v := (0)) hx hb dX9_isWithin_14 (by decide) ?_
    exact m_zret hx hb hr rfl hlocks hM hS (Nat.le_of_ble_eq_true rfl) (Nat.le_of_ble_eq_true rfl) ⟨rfl, Bo.n (by omega)⟩ dX9_isWithin_15
  · have hc1 := c1
    have q1 := q_nlt hc1
    refine lv_iload_n hx hb dX9_isWithin_5 rfl (lv_at hl 0 rfl) ?_
    refine lv_iload_n hx hb dX9_isWithin_6 rfl (lv_at hl 2 rfl) ?_
    refine lv_icmp_gt (tgt := 14) hx hb dX9_isWithin_7 (by decide) (fun c2 => ?_) (fun c2 => ?_)
    · have hc2 := c2
      have q2 := q_lt hc2
      refine lv_iconst (v := (0)) hx hb dX9_isWithin_14 (by decide) ?_
      exact m_zret hx hb hr rfl hlocks hM hS (Nat.le_of_ble_eq_true rfl) (Nat.le_of_ble_eq_true rfl) ⟨rfl, Bo.n (by omega)⟩ dX9_isWithin_15
    · have hc2 := c2
      have q2 := q_nlt hc2
      refine lv_iconst (v := (1)) hx hb dX9_isWithin_10 (by decide) ?_
      refine lv_goto (tgt := 15) hx hb dX9_isWithin_11 (by decide) ?_
      exact m_zret hx hb hr rfl hlocks hM hS (Nat.le_of_ble_eq_true rfl) (Nat.le_of_ble_eq_true rfl) ⟨rfl, Bo.y (by omega)⟩ dX9_isWithin_15
theorem dX8_isBegun_0 : decode cX8_isBegun 0 = .ok (.aload_n 0, 1) := by decide +kernel
theorem dX8_isBegun_1 : decode cX8_isBegun 1 = .ok (.getfield 36, 3) := by decide +kernel
theorem dX8_isBegun_4 : decode cX8_isBegun 4 = .ok (.ifCond .le 7, 3) := by decide +kernel
theorem dX8_isBegun_7 : decode cX8_isBegun 7 = .ok (.iconst 1, 1) := by decide +kernel
theorem dX8_isBegun_8 : decode cX8_isBegun 8 = .ok (.goto 4, 3) := by decide +kernel
theorem dX8_isBegun_11 : decode cX8_isBegun 11 = .ok (.iconst 0, 1) := by decide +kernel
theorem dX8_isBegun_12 : decode cX8_isBegun 12 = .ok (.ireturn, 1) := by decide +kernel
theorem ce_X8_isBegun : CeV RX8 yX8_isBegun cX8_isBegun 1 (some .boolean) 0 := ⟨tb_485, tb_486, tb_2, tb_487, rfl, by decide, by decide, by decide +kernel⟩
set_option maxHeartbeats 4000000 in
set_option maxRecDepth 20000 in
theorem C_X8_isBegun (l : Launch) (D : va_G) (A : Nat → Prop) (ad : Nat → Nat) (ns : List Nat) (I : MI) (L : ML) (G : MG) (b : Nat) (hT : TOK ns G b) : Met l yX8_isBegun (wd yX8_isBegun cX8_isBegun 1 (some .boolean)) ({ frames := 0, cells := 0, slots := 0, locals := 0 }) (va_Pc [.ref (ad b)] (PM D A ad ns I L G)) (va_Qi (fun r u => u = (ad, ns, I, L, G) ∧ Bo r (0 < (I b 0).toInt)) (BM D A) A) 0 0 A := by
  refine m_ofW (by decide) (Nat.le_of_ble_eq_true rfl) ?_
  intro p e s m below meth c ls args hC hE hM hA hS hl
  obtain ⟨hx, hb, hml, hown, hts, hr, hlocks, hin⟩ := hC
  have k0 : (0 : Int32).toInt = 0 := by decide
  have k1 : (1 : Int32).toInt = 1 := by decide
  have hl : lv_has ls 1 [(0, .ref (ad (b)))] := hl
  refine lv_aload_n hx hb dX8_isBegun_0 rfl (lv_at hl 0 rfl) ?_
  refine m_geti (b) 0 hx hb hts hown hE oc8 hM hT.l (kT _ hT.1).1 (by decide) rfl tb_34 dX8_isBegun_1 ?_
  refine lv_if_le (tgt := 11) hx hb dX8_isBegun_4 (by decide) (fun c1 => ?_) (fun c1 => ?_)
  · have hc1 := c1
    have q1 := q_le hc1
    refine lv_iconst (v := (0)) hx hb dX8_isBegun_11 (by decide) ?_
    exact m_zret hx hb hr rfl hlocks hM hS (Nat.le_of_ble_eq_true rfl) (Nat.le_of_ble_eq_true rfl) ⟨rfl, Bo.n (by omega)⟩ dX8_isBegun_12
  · have hc1 := c1
    have q1 := q_nle hc1
    refine lv_iconst (v := (1)) hx hb dX8_isBegun_7 (by decide) ?_
    refine lv_goto (tgt := 12) hx hb dX8_isBegun_8 (by decide) ?_
    exact m_zret hx hb hr rfl hlocks hM hS (Nat.le_of_ble_eq_true rfl) (Nat.le_of_ble_eq_true rfl) ⟨rfl, Bo.y (by omega)⟩ dX8_isBegun_12
theorem dX8_hasCell_0 : decode cX8_hasCell 0 = .ok (.iload_n 1, 1) := by decide +kernel
theorem dX8_hasCell_1 : decode cX8_hasCell 1 = .ok (.ifCond .lt 27, 3) := by decide +kernel
theorem dX8_hasCell_4 : decode cX8_hasCell 4 = .ok (.iload_n 1, 1) := by decide +kernel
theorem dX8_hasCell_5 : decode cX8_hasCell 5 = .ok (.aload_n 0, 1) := by decide +kernel
theorem dX8_hasCell_6 : decode cX8_hasCell 6 = .ok (.getfield 36, 3) := by decide +kernel
theorem dX8_hasCell_9 : decode cX8_hasCell 9 = .ok (.if_icmp .ge 19, 3) := by decide +kernel
theorem dX8_hasCell_12 : decode cX8_hasCell 12 = .ok (.iload_n 2, 1) := by decide +kernel
theorem dX8_hasCell_13 : decode cX8_hasCell 13 = .ok (.ifCond .lt 15, 3) := by decide +kernel
theorem dX8_hasCell_16 : decode cX8_hasCell 16 = .ok (.iload_n 2, 1) := by decide +kernel
theorem dX8_hasCell_17 : decode cX8_hasCell 17 = .ok (.aload_n 0, 1) := by decide +kernel
theorem dX8_hasCell_18 : decode cX8_hasCell 18 = .ok (.getfield 40, 3) := by decide +kernel
theorem dX8_hasCell_21 : decode cX8_hasCell 21 = .ok (.if_icmp .ge 7, 3) := by decide +kernel
theorem dX8_hasCell_24 : decode cX8_hasCell 24 = .ok (.iconst 1, 1) := by decide +kernel
theorem dX8_hasCell_25 : decode cX8_hasCell 25 = .ok (.goto 4, 3) := by decide +kernel
theorem dX8_hasCell_28 : decode cX8_hasCell 28 = .ok (.iconst 0, 1) := by decide +kernel
theorem dX8_hasCell_29 : decode cX8_hasCell 29 = .ok (.ireturn, 1) := by decide +kernel
theorem ce_X8_hasCell : CeV RX8 yX8_hasCell cX8_hasCell 3 (some .boolean) 2 := ⟨tb_470, tb_471, tb_2, tb_472, rfl, by decide, by decide, by decide +kernel⟩
set_option maxHeartbeats 4000000 in
set_option maxRecDepth 20000 in
theorem C_X8_hasCell (l : Launch) (D : va_G) (A : Nat → Prop) (ad : Nat → Nat) (ns : List Nat) (I : MI) (L : ML) (G : MG) (b : Nat) (x : Int32) (y : Int32) (hT : TOK ns G b) : Met l yX8_hasCell (wd yX8_hasCell cX8_hasCell 3 (some .boolean)) ({ frames := 0, cells := 0, slots := 0, locals := 0 }) (va_Pc [.ref (ad b), .int x, .int y] (PM D A ad ns I L G)) (va_Qi (fun r u => u = (ad, ns, I, L, G) ∧ Bo r (0 ≤ x.toInt ∧ x.toInt < (I b 0).toInt ∧ 0 ≤ y.toInt ∧ y.toInt < (I b 1).toInt)) (BM D A) A) 0 0 A := by
  refine m_ofW (by decide) (Nat.le_of_ble_eq_true rfl) ?_
  intro p e s m below meth c ls args hC hE hM hA hS hl
  obtain ⟨hx, hb, hml, hown, hts, hr, hlocks, hin⟩ := hC
  have k0 : (0 : Int32).toInt = 0 := by decide
  have k1 : (1 : Int32).toInt = 1 := by decide
  have hl : lv_has ls 3 [(0, .ref (ad (b))), (1, .int (x)), (2, .int (y))] := hl
  refine lv_iload_n hx hb dX8_hasCell_0 rfl (lv_at hl 1 rfl) ?_
  refine lv_if_lt (tgt := 28) hx hb dX8_hasCell_1 (by decide) (fun c1 => ?_) (fun c1 => ?_)
  · have hc1 := c1
    have q1 := q_lt hc1
    refine lv_iconst (v := (0)) hx hb dX8_hasCell_28 (by decide) ?_
    exact m_zret hx hb hr rfl hlocks hM hS (Nat.le_of_ble_eq_true rfl) (Nat.le_of_ble_eq_true rfl) ⟨rfl, Bo.n (by omega)⟩ dX8_hasCell_29
  · have hc1 := c1
    have q1 := q_nlt hc1
    refine lv_iload_n hx hb dX8_hasCell_4 rfl (lv_at hl 1 rfl) ?_
    refine lv_aload_n hx hb dX8_hasCell_5 rfl (lv_at hl 0 rfl) ?_
    refine m_geti (b) 0 hx hb hts hown hE oc8 hM hT.l (kT _ hT.1).1 (by decide) rfl tb_34 dX8_hasCell_6 ?_
    refine lv_icmp_ge (tgt := 28) hx hb dX8_hasCell_9 (by decide) (fun c2 => ?_) (fun c2 => ?_)
    · have hc2 := c2
      have q2 := q_le hc2
      refine lv_iconst (v := (0)) hx hb dX8_hasCell_28 (by decide) ?_
      exact m_zret hx hb hr rfl hlocks hM hS (Nat.le_of_ble_eq_true rfl) (Nat.le_of_ble_eq_true rfl) ⟨rfl, Bo.n (by omega)⟩ dX8_hasCell_29
    · have hc2 := c2
      have q2 := q_nle hc2
      refine lv_iload_n hx hb dX8_hasCell_12 rfl (lv_at hl 2 rfl) ?_
      refine lv_if_lt (tgt := 28) hx hb dX8_hasCell_13 (by decide) (fun c3 => ?_) (fun c3 => ?_)
      · have hc3 := c3
        have q3 := q_lt hc3
        refine lv_iconst (v := (0)) hx hb dX8_hasCell_28 (by decide) ?_
        exact m_zret hx hb hr rfl hlocks hM hS (Nat.le_of_ble_eq_true rfl) (Nat.le_of_ble_eq_true rfl) ⟨rfl, Bo.n (by omega)⟩ dX8_hasCell_29
      · have hc3 := c3
        have q3 := q_nlt hc3
        refine lv_iload_n hx hb dX8_hasCell_16 rfl (lv_at hl 2 rfl) ?_
        refine lv_aload_n hx hb dX8_hasCell_17 rfl (lv_at hl 0 rfl) ?_
        refine m_geti (b) 1 hx hb hts hown hE oc8 hM hT.l (kT _ hT.1).1 (by decide) rfl tb_37 dX8_hasCell_18 ?_
        refine lv_icmp_ge (tgt := 28) hx hb dX8_hasCell_21 (by decide) (fun c4 => ?_) (fun c4 => ?_)
        · have hc4 := c4
          have q4 := q_le hc4
          refine lv_iconst (v := (0)) hx hb dX8_hasCell_28 (by decide) ?_
          exact m_zret hx hb hr rfl hlocks hM hS (Nat.le_of_ble_eq_true rfl) (Nat.le_of_ble_eq_true rfl) ⟨rfl, Bo.n (by omega)⟩ dX8_hasCell_29
        · have hc4 := c4
          have q4 := q_nle hc4
          refine lv_iconst (v := (1)) hx hb dX8_hasCell_24 (by decide) ?_
          refine lv_goto (tgt := 29) hx hb dX8_hasCell_25 (by decide) ?_
          exact m_zret hx hb hr rfl hlocks hM hS (Nat.le_of_ble_eq_true rfl) (Nat.le_of_ble_eq_true rfl) ⟨rfl, Bo.y (by omega)⟩ dX8_hasCell_29
theorem dX8_hasRectangle_0 : decode cX8_hasRectangle 0 = .ok (.aload_n 0, 1) := by decide +kernel
theorem dX8_hasRectangle_1 : decode cX8_hasRectangle 1 = .ok (.iload_n 1, 1) := by decide +kernel
theorem dX8_hasRectangle_2 : decode cX8_hasRectangle 2 = .ok (.iload_n 2, 1) := by decide +kernel
theorem dX8_hasRectangle_3 : decode cX8_hasRectangle 3 = .ok (.invokevirtual 79, 3) := by decide +kernel
theorem dX8_hasRectangle_6 : decode cX8_hasRectangle 6 = .ok (.ifCond .eq 28, 3) := by decide +kernel
theorem dX8_hasRectangle_9 : decode cX8_hasRectangle 9 = .ok (.aload_n 0, 1) := by decide +kernel
theorem dX8_hasRectangle_10 : decode cX8_hasRectangle 10 = .ok (.iload_n 3, 1) := by decide +kernel
theorem dX8_hasRectangle_11 : decode cX8_hasRectangle 11 = .ok (.iload 4, 2) := by decide +kernel
theorem dX8_hasRectangle_13 : decode cX8_hasRectangle 13 = .ok (.invokevirtual 79, 3) := by decide +kernel
theorem dX8_hasRectangle_16 : decode cX8_hasRectangle 16 = .ok (.ifCond .eq 18, 3) := by decide +kernel
theorem dX8_hasRectangle_19 : decode cX8_hasRectangle 19 = .ok (.iload_n 1, 1) := by decide +kernel
theorem dX8_hasRectangle_20 : decode cX8_hasRectangle 20 = .ok (.iload_n 3, 1) := by decide +kernel
theorem dX8_hasRectangle_21 : decode cX8_hasRectangle 21 = .ok (.if_icmp .gt 13, 3) := by decide +kernel
theorem dX8_hasRectangle_24 : decode cX8_hasRectangle 24 = .ok (.iload_n 2, 1) := by decide +kernel
theorem dX8_hasRectangle_25 : decode cX8_hasRectangle 25 = .ok (.iload 4, 2) := by decide +kernel
theorem dX8_hasRectangle_27 : decode cX8_hasRectangle 27 = .ok (.if_icmp .gt 7, 3) := by decide +kernel
theorem dX8_hasRectangle_30 : decode cX8_hasRectangle 30 = .ok (.iconst 1, 1) := by decide +kernel
theorem dX8_hasRectangle_31 : decode cX8_hasRectangle 31 = .ok (.goto 4, 3) := by decide +kernel
theorem dX8_hasRectangle_34 : decode cX8_hasRectangle 34 = .ok (.iconst 0, 1) := by decide +kernel
theorem dX8_hasRectangle_35 : decode cX8_hasRectangle 35 = .ok (.ireturn, 1) := by decide +kernel
theorem ce_X8_hasRectangle : CeV RX8 yX8_hasRectangle cX8_hasRectangle 5 (some .boolean) 4 := ⟨tb_466, tb_467, tb_2, tb_468, rfl, by decide, by decide, by decide +kernel⟩
set_option maxHeartbeats 4000000 in
set_option maxRecDepth 20000 in
theorem C_X8_hasRectangle (l : Launch) (D : va_G) (A : Nat → Prop) (ad : Nat → Nat) (ns : List Nat) (I : MI) (L : ML) (G : MG) (b : Nat) (x : Int32) (y : Int32) (v : Int32) (w : Int32) (hT : TOK ns G b) : Met l yX8_hasRectangle (wd yX8_hasRectangle cX8_hasRectangle 5 (some .boolean)) ({ frames := 1, cells := 0, slots := 0, locals := 22 }) (va_Pc [.ref (ad b), .int x, .int y, .int v, .int w] (PM D A ad ns I L G)) (va_Qi (fun r u => u = (ad, ns, I, L, G) ∧ Bo r ((0 ≤ x.toInt ∧ x.toInt < (I b 0).toInt ∧ 0 ≤ y.toInt ∧ y.toInt < (I b 1).toInt) ∧ (0 ≤ v.toInt ∧ v.toInt < (I b 0).toInt ∧ 0 ≤ w.toInt ∧ w.toInt < (I b 1).toInt) ∧ x.toInt ≤ v.toInt ∧ y.toInt ≤ w.toInt)) (BM D A) A) 0 0 A := by
  refine m_ofW (by decide) (Nat.le_of_ble_eq_true rfl) ?_
  intro p e s m below meth c ls args hC hE hM hA hS hl
  obtain ⟨hx, hb, hml, hown, hts, hr, hlocks, hin⟩ := hC
  have k0 : (0 : Int32).toInt = 0 := by decide
  have k1 : (1 : Int32).toInt = 1 := by decide
  have hl : lv_has ls 5 [(0, .ref (ad (b))), (1, .int (x)), (2, .int (y)), (3, .int (v)), (4, .int (w))] := hl
  refine lv_aload_n hx hb dX8_hasRectangle_0 rfl (lv_at hl 0 rfl) ?_
  refine lv_iload_n hx hb dX8_hasRectangle_1 rfl (lv_at hl 1 rfl) ?_
  refine lv_iload_n hx hb dX8_hasRectangle_2 rfl (lv_at hl 2 rfl) ?_
  refine m_calli (m_runV (b) (As := [.int (x), .int (y)]) (rest := []) hx hb hml hown hts hE hM hS hA ce_X8_hasCell tb_469 (C_X8_hasCell l D A ad ns I L G (b) (x) (y) hT) rfl rfl ⟨Nat.le_of_ble_eq_true rfl, Nat.le_of_ble_eq_true rfl⟩ hT.l (kT _ hT.1).1 rfl (by decide) rfl hl.1 rfl (Nat.le_of_ble_eq_true rfl) dX8_hasRectangle_3 ⟨Nat.le_of_ble_eq_true rfl, Nat.le_of_ble_eq_true rfl⟩) hS (fun r1 u H locs hw hM hS => ?_)
  obtain ⟨rfl, b_r1⟩ := hw
  have hM : Mem D A ad ns I L G H := hM
  refine lv_if_eq (tgt := 34) hx hb dX8_hasRectangle_6 (by decide) (fun c2 => ?_) (fun c2 => ?_)
  · have hc2 := c2
    have q2 := b_r1.f hc2
    refine lv_iconst (v := (0)) hx hb dX8_hasRectangle_34 (by decide) ?_
    exact m_zret hx hb hr rfl hlocks hM hS (Nat.le_of_ble_eq_true rfl) (Nat.le_of_ble_eq_true rfl) ⟨rfl, Bo.n (by omega)⟩ dX8_hasRectangle_35
  · have hc2 := c2
    have q2 := b_r1.t hc2
    refine lv_aload_n hx hb dX8_hasRectangle_9 rfl (lv_at hl 0 rfl) ?_
    refine lv_iload_n hx hb dX8_hasRectangle_10 rfl (lv_at hl 3 rfl) ?_
    refine lv_iload hx hb dX8_hasRectangle_11 (lv_at hl 4 rfl) ?_
    refine m_calli (m_runV (b) (As := [.int (v), .int (w)]) (rest := []) hx hb hml hown hts hE hM hS hA ce_X8_hasCell tb_469 (C_X8_hasCell l D A ad ns I L G (b) (v) (w) hT) rfl rfl ⟨Nat.le_of_ble_eq_true rfl, Nat.le_of_ble_eq_true rfl⟩ hT.l (kT _ hT.1).1 rfl (by decide) rfl hl.1 rfl (Nat.le_of_ble_eq_true rfl) dX8_hasRectangle_13 ⟨Nat.le_of_ble_eq_true rfl, Nat.le_of_ble_eq_true rfl⟩) hS (fun r3 u H locs hw hM hS => ?_)
    obtain ⟨rfl, b_r3⟩ := hw
    have hM : Mem D A ad ns I L G H := hM
    refine lv_if_eq (tgt := 34) hx hb dX8_hasRectangle_16 (by decide) (fun c4 => ?_) (fun c4 => ?_)
    · have hc4 := c4
      have q4 := b_r3.f hc4
      refine lv_iconst (v := (0)) hx hb dX8_hasRectangle_34 (by decide) ?_
      exact m_zret hx hb hr rfl hlocks hM hS (Nat.le_of_ble_eq_true rfl) (Nat.le_of_ble_eq_true rfl) ⟨rfl, Bo.n (by omega)⟩ dX8_hasRectangle_35
    · have hc4 := c4
      have q4 := b_r3.t hc4
      refine lv_iload_n hx hb dX8_hasRectangle_19 rfl (lv_at hl 1 rfl) ?_
      refine lv_iload_n hx hb dX8_hasRectangle_20 rfl (lv_at hl 3 rfl) ?_
      refine lv_icmp_gt (tgt := 34) hx hb dX8_hasRectangle_21 (by decide) (fun c5 => ?_) (fun c5 => ?_)
      · have hc5 := c5
        have q5 := q_lt hc5
        refine lv_iconst (v := (0)) hx hb dX8_hasRectangle_34 (by decide) ?_
        exact m_zret hx hb hr rfl hlocks hM hS (Nat.le_of_ble_eq_true rfl) (Nat.le_of_ble_eq_true rfl) ⟨rfl, Bo.n (by omega)⟩ dX8_hasRectangle_35
      · have hc5 := c5
        have q5 := q_nlt hc5
        refine lv_iload_n hx hb dX8_hasRectangle_24 rfl (lv_at hl 2 rfl) ?_
        refine lv_iload hx hb dX8_hasRectangle_25 (lv_at hl 4 rfl) ?_
        refine lv_icmp_gt (tgt := 34) hx hb dX8_hasRectangle_27 (by decide) (fun c6 => ?_) (fun c6 => ?_)
        · have hc6 := c6
          have q6 := q_lt hc6
          refine lv_iconst (v := (0)) hx hb dX8_hasRectangle_34 (by decide) ?_
          exact m_zret hx hb hr rfl hlocks hM hS (Nat.le_of_ble_eq_true rfl) (Nat.le_of_ble_eq_true rfl) ⟨rfl, Bo.n (by omega)⟩ dX8_hasRectangle_35
        · have hc6 := c6
          have q6 := q_nlt hc6
          refine lv_iconst (v := (1)) hx hb dX8_hasRectangle_30 (by decide) ?_
          refine lv_goto (tgt := 35) hx hb dX8_hasRectangle_31 (by decide) ?_
          exact m_zret hx hb hr rfl hlocks hM hS (Nat.le_of_ble_eq_true rfl) (Nat.le_of_ble_eq_true rfl) ⟨rfl, Bo.y (by omega)⟩ dX8_hasRectangle_35
theorem dX8_hasMirror_0 : decode cX8_hasMirror 0 = .ok (.iload_n 1, 1) := by decide +kernel
theorem dX8_hasMirror_1 : decode cX8_hasMirror 1 = .ok (.ifCond .lt 15, 3) := by decide +kernel
theorem dX8_hasMirror_4 : decode cX8_hasMirror 4 = .ok (.iload_n 1, 1) := by decide +kernel
theorem dX8_hasMirror_5 : decode cX8_hasMirror 5 = .ok (.aload_n 0, 1) := by decide +kernel
theorem dX8_hasMirror_6 : decode cX8_hasMirror 6 = .ok (.getfield 61, 3) := by decide +kernel
theorem dX8_hasMirror_9 : decode cX8_hasMirror 9 = .ok (.if_icmp .ge 7, 3) := by decide +kernel
theorem dX8_hasMirror_12 : decode cX8_hasMirror 12 = .ok (.iconst 1, 1) := by decide +kernel
theorem dX8_hasMirror_13 : decode cX8_hasMirror 13 = .ok (.goto 4, 3) := by decide +kernel
theorem dX8_hasMirror_16 : decode cX8_hasMirror 16 = .ok (.iconst 0, 1) := by decide +kernel
theorem dX8_hasMirror_17 : decode cX8_hasMirror 17 = .ok (.ireturn, 1) := by decide +kernel
theorem ce_X8_hasMirror : CeV RX8 yX8_hasMirror cX8_hasMirror 2 (some .boolean) 1 := ⟨tb_509, tb_510, tb_2, tb_511, rfl, by decide, by decide, by decide +kernel⟩
set_option maxHeartbeats 4000000 in
set_option maxRecDepth 20000 in
theorem C_X8_hasMirror (l : Launch) (D : va_G) (A : Nat → Prop) (ad : Nat → Nat) (ns : List Nat) (I : MI) (L : ML) (G : MG) (b : Nat) (k : Int32) (hT : TOK ns G b) : Met l yX8_hasMirror (wd yX8_hasMirror cX8_hasMirror 2 (some .boolean)) ({ frames := 0, cells := 0, slots := 0, locals := 0 }) (va_Pc [.ref (ad b), .int k] (PM D A ad ns I L G)) (va_Qi (fun r u => u = (ad, ns, I, L, G) ∧ Bo r (0 ≤ k.toInt ∧ k.toInt < (I b 8).toInt)) (BM D A) A) 0 0 A := by
  refine m_ofW (by decide) (Nat.le_of_ble_eq_true rfl) ?_
  intro p e s m below meth c ls args hC hE hM hA hS hl
  obtain ⟨hx, hb, hml, hown, hts, hr, hlocks, hin⟩ := hC
  have k0 : (0 : Int32).toInt = 0 := by decide
  have k1 : (1 : Int32).toInt = 1 := by decide
  have hl : lv_has ls 2 [(0, .ref (ad (b))), (1, .int (k))] := hl
  refine lv_iload_n hx hb dX8_hasMirror_0 rfl (lv_at hl 1 rfl) ?_
  refine lv_if_lt (tgt := 16) hx hb dX8_hasMirror_1 (by decide) (fun c1 => ?_) (fun c1 => ?_)
  · have hc1 := c1
    have q1 := q_lt hc1
    refine lv_iconst (v := (0)) hx hb dX8_hasMirror_16 (by decide) ?_
    exact m_zret hx hb hr rfl hlocks hM hS (Nat.le_of_ble_eq_true rfl) (Nat.le_of_ble_eq_true rfl) ⟨rfl, Bo.n (by omega)⟩ dX8_hasMirror_17
  · have hc1 := c1
    have q1 := q_nlt hc1
    refine lv_iload_n hx hb dX8_hasMirror_4 rfl (lv_at hl 1 rfl) ?_
    refine lv_aload_n hx hb dX8_hasMirror_5 rfl (lv_at hl 0 rfl) ?_
    refine m_geti (b) 8 hx hb hts hown hE oc8 hM hT.l (kT _ hT.1).1 (by decide) rfl tb_59 dX8_hasMirror_6 ?_
    refine lv_icmp_ge (tgt := 16) hx hb dX8_hasMirror_9 (by decide) (fun c2 => ?_) (fun c2 => ?_)
    · have hc2 := c2
      have q2 := q_le hc2
      refine lv_iconst (v := (0)) hx hb dX8_hasMirror_16 (by decide) ?_
      exact m_zret hx hb hr rfl hlocks hM hS (Nat.le_of_ble_eq_true rfl) (Nat.le_of_ble_eq_true rfl) ⟨rfl, Bo.n (by omega)⟩ dX8_hasMirror_17
    · have hc2 := c2
      have q2 := q_nle hc2
      refine lv_iconst (v := (1)) hx hb dX8_hasMirror_12 (by decide) ?_
      refine lv_goto (tgt := 17) hx hb dX8_hasMirror_13 (by decide) ?_
      exact m_zret hx hb hr rfl hlocks hM hS (Nat.le_of_ble_eq_true rfl) (Nat.le_of_ble_eq_true rfl) ⟨rfl, Bo.y (by omega)⟩ dX8_hasMirror_17
theorem dX8_hasYard_0 : decode cX8_hasYard 0 = .ok (.iload_n 1, 1) := by decide +kernel
theorem dX8_hasYard_1 : decode cX8_hasYard 1 = .ok (.ifCond .lt 15, 3) := by decide +kernel
theorem dX8_hasYard_4 : decode cX8_hasYard 4 = .ok (.iload_n 1, 1) := by decide +kernel
theorem dX8_hasYard_5 : decode cX8_hasYard 5 = .ok (.aload_n 0, 1) := by decide +kernel
theorem dX8_hasYard_6 : decode cX8_hasYard 6 = .ok (.getfield 64, 3) := by decide +kernel
theorem dX8_hasYard_9 : decode cX8_hasYard 9 = .ok (.if_icmp .ge 7, 3) := by decide +kernel
theorem dX8_hasYard_12 : decode cX8_hasYard 12 = .ok (.iconst 1, 1) := by decide +kernel
theorem dX8_hasYard_13 : decode cX8_hasYard 13 = .ok (.goto 4, 3) := by decide +kernel
theorem dX8_hasYard_16 : decode cX8_hasYard 16 = .ok (.iconst 0, 1) := by decide +kernel
theorem dX8_hasYard_17 : decode cX8_hasYard 17 = .ok (.ireturn, 1) := by decide +kernel
theorem ce_X8_hasYard : CeV RX8 yX8_hasYard cX8_hasYard 2 (some .boolean) 1 := ⟨tb_894, tb_895, tb_2, tb_896, rfl, by decide, by decide, by decide +kernel⟩
set_option maxHeartbeats 4000000 in
set_option maxRecDepth 20000 in
theorem C_X8_hasYard (l : Launch) (D : va_G) (A : Nat → Prop) (ad : Nat → Nat) (ns : List Nat) (I : MI) (L : ML) (G : MG) (b : Nat) (k : Int32) (hT : TOK ns G b) : Met l yX8_hasYard (wd yX8_hasYard cX8_hasYard 2 (some .boolean)) ({ frames := 0, cells := 0, slots := 0, locals := 0 }) (va_Pc [.ref (ad b), .int k] (PM D A ad ns I L G)) (va_Qi (fun r u => u = (ad, ns, I, L, G) ∧ Bo r (0 ≤ k.toInt ∧ k.toInt < (I b 9).toInt)) (BM D A) A) 0 0 A := by
  refine m_ofW (by decide) (Nat.le_of_ble_eq_true rfl) ?_
  intro p e s m below meth c ls args hC hE hM hA hS hl
  obtain ⟨hx, hb, hml, hown, hts, hr, hlocks, hin⟩ := hC
  have k0 : (0 : Int32).toInt = 0 := by decide
  have k1 : (1 : Int32).toInt = 1 := by decide
  have hl : lv_has ls 2 [(0, .ref (ad (b))), (1, .int (k))] := hl
  refine lv_iload_n hx hb dX8_hasYard_0 rfl (lv_at hl 1 rfl) ?_
  refine lv_if_lt (tgt := 16) hx hb dX8_hasYard_1 (by decide) (fun c1 => ?_) (fun c1 => ?_)
  · have hc1 := c1
    have q1 := q_lt hc1
    refine lv_iconst (v := (0)) hx hb dX8_hasYard_16 (by decide) ?_
    exact m_zret hx hb hr rfl hlocks hM hS (Nat.le_of_ble_eq_true rfl) (Nat.le_of_ble_eq_true rfl) ⟨rfl, Bo.n (by omega)⟩ dX8_hasYard_17
  · have hc1 := c1
    have q1 := q_nlt hc1
    refine lv_iload_n hx hb dX8_hasYard_4 rfl (lv_at hl 1 rfl) ?_
    refine lv_aload_n hx hb dX8_hasYard_5 rfl (lv_at hl 0 rfl) ?_
    refine m_geti (b) 9 hx hb hts hown hE oc8 hM hT.l (kT _ hT.1).1 (by decide) rfl tb_63 dX8_hasYard_6 ?_
    refine lv_icmp_ge (tgt := 16) hx hb dX8_hasYard_9 (by decide) (fun c2 => ?_) (fun c2 => ?_)
    · have hc2 := c2
      have q2 := q_le hc2
      refine lv_iconst (v := (0)) hx hb dX8_hasYard_16 (by decide) ?_
      exact m_zret hx hb hr rfl hlocks hM hS (Nat.le_of_ble_eq_true rfl) (Nat.le_of_ble_eq_true rfl) ⟨rfl, Bo.n (by omega)⟩ dX8_hasYard_17
    · have hc2 := c2
      have q2 := q_nle hc2
      refine lv_iconst (v := (1)) hx hb dX8_hasYard_12 (by decide) ?_
      refine lv_goto (tgt := 17) hx hb dX8_hasYard_13 (by decide) ?_
      exact m_zret hx hb hr rfl hlocks hM hS (Nat.le_of_ble_eq_true rfl) (Nat.le_of_ble_eq_true rfl) ⟨rfl, Bo.y (by omega)⟩ dX8_hasYard_17
end
section
theorem dX8_isLit_0 : decode cX8_isLit 0 = .ok (.aload_n 0, 1) := by decide +kernel
theorem dX8_isLit_1 : decode cX8_isLit 1 = .ok (.getfield 36, 3) := by decide +kernel
theorem dX8_isLit_4 : decode cX8_isLit 4 = .ok (.ifCond .le 35, 3) := by decide +kernel
theorem dX8_isLit_7 : decode cX8_isLit 7 = .ok (.iload_n 1, 1) := by decide +kernel
theorem dX8_isLit_8 : decode cX8_isLit 8 = .ok (.ifCond .lt 31, 3) := by decide +kernel
theorem dX8_isLit_11 : decode cX8_isLit 11 = .ok (.iload_n 1, 1) := by decide +kernel
theorem dX8_isLit_12 : decode cX8_isLit 12 = .ok (.bipush 24, 2) := by decide +kernel
theorem dX8_isLit_14 : decode cX8_isLit 14 = .ok (.if_icmp .ge 25, 3) := by decide +kernel
theorem dX8_isLit_17 : decode cX8_isLit 17 = .ok (.aload_n 0, 1) := by decide +kernel
theorem dX8_isLit_18 : decode cX8_isLit 18 = .ok (.getfield 24, 3) := by decide +kernel
theorem dX8_isLit_21 : decode cX8_isLit 21 = .ok (.aload_n 0, 1) := by decide +kernel
theorem dX8_isLit_22 : decode cX8_isLit 22 = .ok (.getfield 52, 3) := by decide +kernel
theorem dX8_isLit_25 : decode cX8_isLit 25 = .ok (.bipush 24, 2) := by decide +kernel
theorem dX8_isLit_27 : decode cX8_isLit 27 = .ok (.imul, 1) := by decide +kernel
theorem dX8_isLit_28 : decode cX8_isLit 28 = .ok (.iload_n 1, 1) := by decide +kernel
theorem dX8_isLit_29 : decode cX8_isLit 29 = .ok (.iadd, 1) := by decide +kernel
theorem dX8_isLit_30 : decode cX8_isLit 30 = .ok (.iaload, 1) := by decide +kernel
theorem dX8_isLit_31 : decode cX8_isLit 31 = .ok (.iconst (-1), 1) := by decide +kernel
theorem dX8_isLit_32 : decode cX8_isLit 32 = .ok (.if_icmp .eq 7, 3) := by decide +kernel
theorem dX8_isLit_35 : decode cX8_isLit 35 = .ok (.iconst 1, 1) := by decide +kernel
theorem dX8_isLit_36 : decode cX8_isLit 36 = .ok (.goto 4, 3) := by decide +kernel
theorem dX8_isLit_39 : decode cX8_isLit 39 = .ok (.iconst 0, 1) := by decide +kernel
theorem dX8_isLit_40 : decode cX8_isLit 40 = .ok (.ireturn, 1) := by decide +kernel
theorem ce_X8_isLit : CeV RX8 yX8_isLit cX8_isLit 2 (some .boolean) 1 := ⟨tb_768, tb_769, tb_2, tb_770, rfl, by decide, by decide, by decide +kernel⟩
set_option maxHeartbeats 4000000 in
set_option maxRecDepth 20000 in
theorem C_X8_isLit (l : Launch) (D : va_G) (A : Nat → Prop) (ad : Nat → Nat) (ns : List Nat) (I : MI) (L : ML) (G : MG) (b : Nat) (h : Int32) (hT : TOK ns G b) (hm : 0 < (I b 0).toInt → 0 ≤ (I b 5).toInt ∧ (I b 5).toInt < 12) : Met l yX8_isLit (wd yX8_isLit cX8_isLit 2 (some .boolean)) ({ frames := 0, cells := 0, slots := 0, locals := 0 }) (va_Pc [.ref (ad b), .int h] (PM D A ad ns I L G)) (va_Qi (fun r u => u = (ad, ns, I, L, G) ∧ Bo r (0 < (I b 0).toInt ∧ 0 ≤ h.toInt ∧ h.toInt < 24 ∧ (I (b + 5) (I b 5 * 24 + h).toNatClampNeg).toInt ≠ -1)) (BM D A) A) 0 0 A := by
  refine m_ofW (by decide) (Nat.le_of_ble_eq_true rfl) ?_
  intro p e s m below meth c ls args hC hE hM hA hS hl
  obtain ⟨hx, hb, hml, hown, hts, hr, hlocks, hin⟩ := hC
  have km1 : (-1 : Int32).toInt = -1 := by decide
  have k0 : (0 : Int32).toInt = 0 := by decide
  have k1 : (1 : Int32).toInt = 1 := by decide
  have k24 : (24 : Int32).toInt = 24 := by decide
  have hl : lv_has ls 2 [(0, .ref (ad (b))), (1, .int (h))] := hl
  refine lv_aload_n hx hb dX8_isLit_0 rfl (lv_at hl 0 rfl) ?_
  refine m_geti (b) 0 hx hb hts hown hE oc8 hM hT.l (kT _ hT.1).1 (by decide) rfl tb_34 dX8_isLit_1 ?_
  refine lv_if_le (tgt := 39) hx hb dX8_isLit_4 (by decide) (fun c1 => ?_) (fun c1 => ?_)
  · have hc1 := c1
    have q1 := q_le hc1
    refine lv_iconst (v := (0)) hx hb dX8_isLit_39 (by decide) ?_
    exact m_zret hx hb hr rfl hlocks hM hS (Nat.le_of_ble_eq_true rfl) (Nat.le_of_ble_eq_true rfl) ⟨rfl, by (try subst ev5 ev4); exact Bo.n (by omega)⟩ dX8_isLit_40
  · have hc1 := c1
    have q1 := q_nle hc1
    refine lv_iload_n hx hb dX8_isLit_7 rfl (lv_at hl 1 rfl) ?_
    refine lv_if_lt (tgt := 39) hx hb dX8_isLit_8 (by decide) (fun c2 => ?_) (fun c2 => ?_)
    · have hc2 := c2
      have q2 := q_lt hc2
      refine lv_iconst (v := (0)) hx hb dX8_isLit_39 (by decide) ?_
      exact m_zret hx hb hr rfl hlocks hM hS (Nat.le_of_ble_eq_true rfl) (Nat.le_of_ble_eq_true rfl) ⟨rfl, by (try subst ev5 ev4); exact Bo.n (by omega)⟩ dX8_isLit_40
    · have hc2 := c2
      have q2 := q_nlt hc2
      refine lv_iload_n hx hb dX8_isLit_11 rfl (lv_at hl 1 rfl) ?_
      refine lv_bipush (v := (24)) hx hb dX8_isLit_12 (by decide) ?_
      refine lv_icmp_ge (tgt := 39) hx hb dX8_isLit_14 (by decide) (fun c3 => ?_) (fun c3 => ?_)
      · have hc3 := c3
        have q3 := q_le hc3
        refine lv_iconst (v := (0)) hx hb dX8_isLit_39 (by decide) ?_
        exact m_zret hx hb hr rfl hlocks hM hS (Nat.le_of_ble_eq_true rfl) (Nat.le_of_ble_eq_true rfl) ⟨rfl, by (try subst ev5 ev4); exact Bo.n (by omega)⟩ dX8_isLit_40
      · have hc3 := c3
        have q3 := q_nle hc3
        refine lv_aload_n hx hb dX8_isLit_17 rfl (lv_at hl 0 rfl) ?_
        refine m_getr (b) 14 (b + 5) hx hb hts hown hE oc8 hM hT.l (kT _ hT.1).1 (by decide) rfl (hT.2.2 4 (by decide)) (by omega) tb_78 dX8_isLit_18 ?_
        refine lv_aload_n hx hb dX8_isLit_21 rfl (lv_at hl 0 rfl) ?_
        refine m_geti (b) 5 hx hb hts hown hE oc8 hM hT.l (kT _ hT.1).1 (by decide) rfl tb_51 dX8_isLit_22 ?_
        refine lv_bipush (v := (24)) hx hb dX8_isLit_25 (by decide) ?_
        refine lv_imul hx hb dX8_isLit_27 ?_
        refine lv_topi (fun v4 ev4 => ?_)
        have tv4 := a_mulR (c := 24) ev4 (by decide) (by omega) (by omega)
        refine lv_iload_n hx hb dX8_isLit_28 rfl (lv_at hl 1 rfl) ?_
        refine lv_iadd hx hb dX8_isLit_29 ?_
        refine lv_topi (fun v5 ev5 => ?_)
        have tv5 := a_add ev5 (by omega) (by omega)
        refine m_iald (b + 5) hx hb hE hM (hT.2.1 5 (by decide)) (kT _ hT.1).2.2.2.2.2.1 (vp_in_iff.mpr (by omega)) dX8_isLit_30 ?_
        refine lv_iconst (v := (-1)) hx hb dX8_isLit_31 (by decide) ?_
        refine lv_icmp_eq (tgt := 39) hx hb dX8_isLit_32 (by decide) (fun c6 => ?_) (fun c6 => ?_)
        · have hc6 := c6
          have q6 := q_eq hc6
          refine lv_iconst (v := (0)) hx hb dX8_isLit_39 (by decide) ?_
          exact m_zret hx hb hr rfl hlocks hM hS (Nat.le_of_ble_eq_true rfl) (Nat.le_of_ble_eq_true rfl) ⟨rfl, by (try subst ev5 ev4); exact Bo.n (by omega)⟩ dX8_isLit_40
        · have hc6 := c6
          have q6 := q_ne hc6
          refine lv_iconst (v := (1)) hx hb dX8_isLit_35 (by decide) ?_
          refine lv_goto (tgt := 40) hx hb dX8_isLit_36 (by decide) ?_
          exact m_zret hx hb hr rfl hlocks hM hS (Nat.le_of_ble_eq_true rfl) (Nat.le_of_ble_eq_true rfl) ⟨rfl, by (try subst ev5 ev4); exact Bo.y (by omega)⟩ dX8_isLit_40
theorem dX9_findLaw_0 : decode cX9_findLaw 0 = .ok (.iload_n 1, 1) := by decide +kernel
theorem dX9_findLaw_1 : decode cX9_findLaw 1 = .ok (.iconst 0, 1) := by decide +kernel
theorem dX9_findLaw_2 : decode cX9_findLaw 2 = .ok (.aload_n 0, 1) := by decide +kernel
theorem dX9_findLaw_3 : decode cX9_findLaw 3 = .ok (.getfield 179, 3) := by decide +kernel
theorem dX9_findLaw_6 : decode cX9_findLaw 6 = .ok (.iconst 1, 1) := by decide +kernel
theorem dX9_findLaw_7 : decode cX9_findLaw 7 = .ok (.isub, 1) := by decide +kernel
theorem dX9_findLaw_8 : decode cX9_findLaw 8 = .ok (.invokestatic 95, 3) := by decide +kernel
theorem dX9_findLaw_11 : decode cX9_findLaw 11 = .ok (.ifCond .eq 12, 3) := by decide +kernel
theorem dX9_findLaw_14 : decode cX9_findLaw 14 = .ok (.aload_n 0, 1) := by decide +kernel
theorem dX9_findLaw_15 : decode cX9_findLaw 15 = .ok (.getfield 78, 3) := by decide +kernel
theorem dX9_findLaw_18 : decode cX9_findLaw 18 = .ok (.iload_n 1, 1) := by decide +kernel
theorem dX9_findLaw_19 : decode cX9_findLaw 19 = .ok (.aaload, 1) := by decide +kernel
theorem dX9_findLaw_20 : decode cX9_findLaw 20 = .ok (.goto 4, 3) := by decide +kernel
theorem dX9_findLaw_23 : decode cX9_findLaw 23 = .ok (.aconst_null, 1) := by decide +kernel
theorem dX9_findLaw_24 : decode cX9_findLaw 24 = .ok (.areturn, 1) := by decide +kernel
theorem ce_X9_findLaw : CeV RX9 yX9_findLaw cX9_findLaw 2 (some (.object "OneSunbeam$Law")) 1 := ⟨tb_742, tp_22, tb_1, tb_743, rfl, by decide, by decide, by decide +kernel⟩
set_option maxHeartbeats 4000000 in
set_option maxRecDepth 20000 in
theorem C_X9_findLaw (l : Launch) (D : va_G) (A : Nat → Prop) (ad : Nat → Nat) (ns : List Nat) (I : MI) (L : ML) (G : MG) (k : Int32) (hG : SGC ns G) (hc : 0 ≤ (I 0 14).toInt ∧ (I 0 14).toInt ≤ 6) : Met l yX9_findLaw (wd yX9_findLaw cX9_findLaw 2 (some (.object "OneSunbeam$Law"))) ({ frames := 1, cells := 0, slots := 0, locals := 22 }) (va_Pc [.ref (ad 0), .int k] (PM D A ad ns I L G)) (va_Qq (fun r u => u = (ad, ns, I, L, G) ∧ ((0 ≤ k.toInt ∧ k.toInt < (I 0 14).toInt ∧ r = rn ad (G 2 k.toNatClampNeg)) ∨ (¬ (0 ≤ k.toInt ∧ k.toInt < (I 0 14).toInt) ∧ r = none))) (BM D A) A) 0 0 A := by
  refine m_ofW (by decide) (Nat.le_of_ble_eq_true rfl) ?_
  intro p e s m below meth c ls args hC hE hM hA hS hl
  obtain ⟨hx, hb, hml, hown, hts, hr, hlocks, hin⟩ := hC
  have k0 : (0 : Int32).toInt = 0 := by decide
  have k1 : (1 : Int32).toInt = 1 := by decide
  have hl : lv_has ls 2 [(0, .ref (ad (0))), (1, .int (k))] := hl
  refine lv_iload_n hx hb dX9_findLaw_0 rfl (lv_at hl 1 rfl) ?_
  refine lv_iconst (v := (0)) hx hb dX9_findLaw_1 (by decide) ?_
  refine lv_aload_n hx hb dX9_findLaw_2 rfl (lv_at hl 0 rfl) ?_
  refine m_geti (0) 14 hx hb hts hown hE oc9 hM (hG.1 0 (by decide)) rfl (by decide) rfl tb_412 dX9_findLaw_3 ?_
  refine lv_iconst (v := (1)) hx hb dX9_findLaw_6 (by decide) ?_
  refine lv_isub hx hb dX9_findLaw_7 ?_
  refine lv_topi (fun v1 ev1 => ?_)
  have tv1 := a_sub ev1 (by omega) (by omega)
  refine m_calli (m_runS (As := [.int (k), .int (0), .int (v1)]) (rest := []) hx hb hml hown hts hE hM hS hA ce_X9_isWithin tb_451 (C_X9_isWithin l D A ad ns I L G (k) (0) (v1)) rfl rfl ⟨Nat.le_of_ble_eq_true rfl, Nat.le_of_ble_eq_true rfl⟩  rfl hl.1 rfl (Nat.le_of_ble_eq_true rfl) dX9_findLaw_8 ⟨Nat.le_of_ble_eq_true rfl, Nat.le_of_ble_eq_true rfl⟩) hS (fun r2 u H locs hw hM hS => ?_)
  obtain ⟨rfl, b_r2⟩ := hw
  have hM : Mem D A ad ns I L G H := hM
  refine lv_if_eq (tgt := 23) hx hb dX9_findLaw_11 (by decide) (fun c3 => ?_) (fun c3 => ?_)
  · have hc3 := c3
    have q3 := b_r2.f hc3
    refine lv_null hx hb dX9_findLaw_23 ?_
    exact m_aret (r := none) hx hb hr ⟨_, rfl⟩ hlocks hM hS (Nat.le_of_ble_eq_true rfl) (Nat.le_of_ble_eq_true rfl) ⟨rfl, Or.inr ⟨by omega, rfl⟩⟩ dX9_findLaw_24
  · have hc3 := c3
    have q3 := b_r2.t hc3
    refine lv_aload_n hx hb dX9_findLaw_14 rfl (lv_at hl 0 rfl) ?_
    refine m_getr (0) 10 (2) hx hb hts hown hE oc9 hM (hG.1 0 (by decide)) rfl (by decide) rfl (hG.2 (0, 10, 2) (by decide)) (by decide) tb_408 dX9_findLaw_15 ?_
    refine lv_iload_n hx hb dX9_findLaw_18 rfl (lv_at hl 1 rfl) ?_
    refine m_aald (2) hx hb hE hM (hG.1 2 (by decide)) rfl (by decide) (vp_in_iff.mpr (by omega)) dX9_findLaw_19 ?_
    refine lv_goto (tgt := 24) hx hb dX9_findLaw_20 (by decide) ?_
    exact m_aret (r := rn ad (G (2) (k).toNatClampNeg)) hx hb hr ⟨_, rfl⟩ hlocks hM hS (Nat.le_of_ble_eq_true rfl) (Nat.le_of_ble_eq_true rfl) ⟨rfl, Or.inl ⟨by omega, by omega, rfl⟩⟩ dX9_findLaw_24
theorem dX9_rock_0 : decode cX9_rock 0 = .ok (.aload_n 0, 1) := by decide +kernel
theorem dX9_rock_1 : decode cX9_rock 1 = .ok (.getfield 10, 3) := by decide +kernel
theorem dX9_rock_4 : decode cX9_rock 4 = .ok (.iload_n 1, 1) := by decide +kernel
theorem dX9_rock_5 : decode cX9_rock 5 = .ok (.iload_n 2, 1) := by decide +kernel
theorem dX9_rock_6 : decode cX9_rock 6 = .ok (.iload_n 3, 1) := by decide +kernel
theorem dX9_rock_7 : decode cX9_rock 7 = .ok (.iload 4, 2) := by decide +kernel
theorem dX9_rock_9 : decode cX9_rock 9 = .ok (.invokevirtual 103, 3) := by decide +kernel
theorem dX9_rock_12 : decode cX9_rock 12 = .ok (.ifCond .ne 5, 3) := by decide +kernel
theorem dX9_rock_15 : decode cX9_rock 15 = .ok (.iconst (-1), 1) := by decide +kernel
theorem dX9_rock_16 : decode cX9_rock 16 = .ok (.ireturn, 1) := by decide +kernel
theorem ce_X9_rock : CeV RX9 yX9_rock cX9_rock 6 (some .int) 5 := ⟨tb_462, tb_463, tb_1, tb_464, rfl, by decide, by decide, by decide +kernel⟩
set_option maxHeartbeats 4000000 in
set_option maxRecDepth 20000 in
theorem F_X9_rock (l : Launch) (D : va_G) (A : Nat → Prop) (ad : Nat → Nat) (ns : List Nat) (I : MI) (L : ML) (G : MG) (a0 : Int32) (a1 : Int32) (a2 : Int32) (a3 : Int32) (a4 : Int32) (hG : SGC ns G) (hI : ∀ n k, n < 1000 → I n k = 0) : Met l yX9_rock (wd yX9_rock cX9_rock 6 (some .int)) ({ frames := 2, cells := 0, slots := 0, locals := 46 }) (va_Pc [.ref (ad 0), .int a0, .int a1, .int a2, .int a3, .int a4] (PM D A ad ns I L G)) (va_Qi (fun r u => u = (ad, ns, I, L, G) ∧ r = -1) (BM D A) A) 0 0 A := by
  refine m_ofW (by decide) (Nat.le_of_ble_eq_true rfl) ?_
  intro p e s m below meth c ls args hC hE hM hA hS hl
  obtain ⟨hx, hb, hml, hown, hts, hr, hlocks, hin⟩ := hC
  have km1 : (-1 : Int32).toInt = -1 := by decide
  have k0 : (0 : Int32).toInt = 0 := by decide
  have hl : lv_has ls 6 [(0, .ref (ad (0))), (1, .int (a0)), (2, .int (a1)), (3, .int (a2)), (4, .int (a3)), (5, .int (a4))] := hl
  refine lv_aload_n hx hb dX9_rock_0 rfl (lv_at hl 0 rfl) ?_
  refine m_getr (0) 0 (100) hx hb hts hown hE oc9 hM (hG.1 0 (by decide)) rfl (by decide) rfl (hG.2 (0, 0, 100) (by decide)) (by decide) tb_398 dX9_rock_1 ?_
  refine lv_iload_n hx hb dX9_rock_4 rfl (lv_at hl 1 rfl) ?_
  refine lv_iload_n hx hb dX9_rock_5 rfl (lv_at hl 2 rfl) ?_
  refine lv_iload_n hx hb dX9_rock_6 rfl (lv_at hl 3 rfl) ?_
  refine lv_iload hx hb dX9_rock_7 (lv_at hl 4 rfl) ?_
  refine m_calli (m_runV (100) (As := [.int (a0), .int (a1), .int (a2), .int (a3)]) (rest := []) hx hb hml hown hts hE hM hS hA ce_X8_hasRectangle tb_465 (C_X8_hasRectangle l D A ad ns I L G (100) (a0) (a1) (a2) (a3) hG.t0) rfl rfl ⟨Nat.le_of_ble_eq_true rfl, Nat.le_of_ble_eq_true rfl⟩ (hG.1 100 (by decide)) rfl rfl (by decide) rfl hl.1 rfl (Nat.le_of_ble_eq_true rfl) dX9_rock_9 ⟨Nat.le_of_ble_eq_true rfl, Nat.le_of_ble_eq_true rfl⟩) hS (fun r1 u H locs hw hM hS => ?_)
  obtain ⟨rfl, b_r1⟩ := hw
  have hM : Mem D A ad ns I L G H := hM
  obtain rfl : r1 = 0 := b_r1.z (by rw [hI 100 0 (by decide)]; omega)
  refine lv_if_ne (tgt := 17) hx hb dX9_rock_12 (by decide) (fun c2 => ?_) (fun c2 => ?_)
  · exact absurd c2 (by decide)
  · have hc2 := c2
    have q2 := q_eq hc2
    refine lv_iconst (v := (-1)) hx hb dX9_rock_15 (by decide) ?_
    exact m_iret hx hb hr hlocks hM hS (Nat.le_of_ble_eq_true rfl) (Nat.le_of_ble_eq_true rfl) ⟨rfl, rfl⟩ dX9_rock_16
theorem dX9_sun_0 : decode cX9_sun 0 = .ok (.aload_n 0, 1) := by decide +kernel
theorem dX9_sun_1 : decode cX9_sun 1 = .ok (.getfield 10, 3) := by decide +kernel
theorem dX9_sun_4 : decode cX9_sun 4 = .ok (.invokevirtual 111, 3) := by decide +kernel
theorem dX9_sun_7 : decode cX9_sun 7 = .ok (.ifCond .eq 23, 3) := by decide +kernel
theorem dX9_sun_30 : decode cX9_sun 30 = .ok (.iconst 0, 1) := by decide +kernel
theorem dX9_sun_31 : decode cX9_sun 31 = .ok (.ireturn, 1) := by decide +kernel
theorem ce_X9_sun : CeV RX9 yX9_sun cX9_sun 6 (some .boolean) 4 := ⟨tb_481, tb_482, tb_1, tb_483, rfl, by decide, by decide, by decide +kernel⟩
set_option maxHeartbeats 4000000 in
set_option maxRecDepth 20000 in
theorem F_X9_sun (l : Launch) (D : va_G) (A : Nat → Prop) (ad : Nat → Nat) (ns : List Nat) (I : MI) (L : ML) (G : MG) (a0 : Int32) (a1 : Int32) (a2 : Int32) (a3 : Int32) (hG : SGC ns G) (hI : ∀ n k, n < 1000 → I n k = 0) : Met l yX9_sun (wd yX9_sun cX9_sun 6 (some .boolean)) ({ frames := 1, cells := 0, slots := 0, locals := 20 }) (va_Pc [.ref (ad 0), .int a0, .int a1, .int a2, .int a3] (PM D A ad ns I L G)) (va_Qi (fun r u => u = (ad, ns, I, L, G) ∧ r = 0) (BM D A) A) 0 0 A := by
  refine m_ofW (by decide) (Nat.le_of_ble_eq_true rfl) ?_
  intro p e s m below meth c ls args hC hE hM hA hS hl
  obtain ⟨hx, hb, hml, hown, hts, hr, hlocks, hin⟩ := hC
  have k0 : (0 : Int32).toInt = 0 := by decide
  have hl : lv_has ls 6 [(0, .ref (ad (0))), (1, .int (a0)), (2, .int (a1)), (3, .int (a2)), (4, .int (a3))] := hl
  refine lv_aload_n hx hb dX9_sun_0 rfl (lv_at hl 0 rfl) ?_
  refine m_getr (0) 0 (100) hx hb hts hown hE oc9 hM (hG.1 0 (by decide)) rfl (by decide) rfl (hG.2 (0, 0, 100) (by decide)) (by decide) tb_398 dX9_sun_1 ?_
  refine m_calli (m_runV (100) (As := []) (rest := []) hx hb hml hown hts hE hM hS hA ce_X8_isBegun tb_484 (C_X8_isBegun l D A ad ns I L G (100) hG.t0) rfl rfl ⟨Nat.le_of_ble_eq_true rfl, Nat.le_of_ble_eq_true rfl⟩ (hG.1 100 (by decide)) rfl rfl (by decide) rfl hl.1 rfl (Nat.le_of_ble_eq_true rfl) dX9_sun_4 ⟨Nat.le_of_ble_eq_true rfl, Nat.le_of_ble_eq_true rfl⟩) hS (fun r1 u H locs hw hM hS => ?_)
  obtain ⟨rfl, b_r1⟩ := hw
  have hM : Mem D A ad ns I L G H := hM
  obtain rfl : r1 = 0 := b_r1.z (by rw [hI 100 0 (by decide)]; omega)
  refine lv_if_eq (tgt := 30) hx hb dX9_sun_7 (by decide) (fun c2 => ?_) (fun c2 => ?_)
  · have hc2 := c2
    have q2 := q_eq hc2
    refine lv_iconst (v := (0)) hx hb dX9_sun_30 (by decide) ?_
    exact m_zret hx hb hr rfl hlocks hM hS (Nat.le_of_ble_eq_true rfl) (Nat.le_of_ble_eq_true rfl) ⟨rfl, rfl⟩ dX9_sun_31
  · exact absurd c2 (by decide)
theorem dX9_mirror_0 : decode cX9_mirror 0 = .ok (.aload_n 0, 1) := by decide +kernel
theorem dX9_mirror_1 : decode cX9_mirror 1 = .ok (.getfield 10, 3) := by decide +kernel
theorem dX9_mirror_4 : decode cX9_mirror 4 = .ok (.iload_n 1, 1) := by decide +kernel
theorem dX9_mirror_5 : decode cX9_mirror 5 = .ok (.iload_n 2, 1) := by decide +kernel
theorem dX9_mirror_6 : decode cX9_mirror 6 = .ok (.invokevirtual 122, 3) := by decide +kernel
theorem dX9_mirror_9 : decode cX9_mirror 9 = .ok (.ifCond .eq 32, 3) := by decide +kernel
theorem dX9_mirror_41 : decode cX9_mirror 41 = .ok (.iconst (-1), 1) := by decide +kernel
theorem dX9_mirror_42 : decode cX9_mirror 42 = .ok (.ireturn, 1) := by decide +kernel
theorem ce_X9_mirror : CeV RX9 yX9_mirror cX9_mirror 9 (some .int) 7 := ⟨tb_490, tb_491, tb_1, tb_492, rfl, by decide, by decide, by decide +kernel⟩
set_option maxHeartbeats 4000000 in
set_option maxRecDepth 20000 in
theorem F_X9_mirror (l : Launch) (D : va_G) (A : Nat → Prop) (ad : Nat → Nat) (ns : List Nat) (I : MI) (L : ML) (G : MG) (a0 : Int32) (a1 : Int32) (a2 : Int32) (a3 : Int32) (a4 : Int32) (a5 : Int32) (a6 : Int32) (hG : SGC ns G) (hI : ∀ n k, n < 1000 → I n k = 0) : Met l yX9_mirror (wd yX9_mirror cX9_mirror 9 (some .int)) ({ frames := 1, cells := 0, slots := 0, locals := 22 }) (va_Pc [.ref (ad 0), .int a0, .int a1, .int a2, .int a3, .int a4, .int a5, .int a6] (PM D A ad ns I L G)) (va_Qi (fun r u => u = (ad, ns, I, L, G) ∧ r = -1) (BM D A) A) 0 0 A := by
  refine m_ofW (by decide) (Nat.le_of_ble_eq_true rfl) ?_
  intro p e s m below meth c ls args hC hE hM hA hS hl
  obtain ⟨hx, hb, hml, hown, hts, hr, hlocks, hin⟩ := hC
  have km1 : (-1 : Int32).toInt = -1 := by decide
  have k0 : (0 : Int32).toInt = 0 := by decide
  have hl : lv_has ls 9 [(0, .ref (ad (0))), (1, .int (a0)), (2, .int (a1)), (3, .int (a2)), (4, .int (a3)), (5, .int (a4)), (6, .int (a5)), (7, .int (a6))] := hl
  refine lv_aload_n hx hb dX9_mirror_0 rfl (lv_at hl 0 rfl) ?_
  refine m_getr (0) 0 (100) hx hb hts hown hE oc9 hM (hG.1 0 (by decide)) rfl (by decide) rfl (hG.2 (0, 0, 100) (by decide)) (by decide) tb_398 dX9_mirror_1 ?_
  refine lv_iload_n hx hb dX9_mirror_4 rfl (lv_at hl 1 rfl) ?_
  refine lv_iload_n hx hb dX9_mirror_5 rfl (lv_at hl 2 rfl) ?_
  refine m_calli (m_runV (100) (As := [.int (a0), .int (a1)]) (rest := []) hx hb hml hown hts hE hM hS hA ce_X8_hasCell tb_493 (C_X8_hasCell l D A ad ns I L G (100) (a0) (a1) hG.t0) rfl rfl ⟨Nat.le_of_ble_eq_true rfl, Nat.le_of_ble_eq_true rfl⟩ (hG.1 100 (by decide)) rfl rfl (by decide) rfl hl.1 rfl (Nat.le_of_ble_eq_true rfl) dX9_mirror_6 ⟨Nat.le_of_ble_eq_true rfl, Nat.le_of_ble_eq_true rfl⟩) hS (fun r1 u H locs hw hM hS => ?_)
  obtain ⟨rfl, b_r1⟩ := hw
  have hM : Mem D A ad ns I L G H := hM
  obtain rfl : r1 = 0 := b_r1.z (by rw [hI 100 0 (by decide)]; omega)
  refine lv_if_eq (tgt := 41) hx hb dX9_mirror_9 (by decide) (fun c2 => ?_) (fun c2 => ?_)
  · have hc2 := c2
    have q2 := q_eq hc2
    refine lv_iconst (v := (-1)) hx hb dX9_mirror_41 (by decide) ?_
    exact m_iret hx hb hr hlocks hM hS (Nat.le_of_ble_eq_true rfl) (Nat.le_of_ble_eq_true rfl) ⟨rfl, rfl⟩ dX9_mirror_42
  · exact absurd c2 (by decide)
theorem dX9_sets_0 : decode cX9_sets 0 = .ok (.aload_n 0, 1) := by decide +kernel
theorem dX9_sets_1 : decode cX9_sets 1 = .ok (.getfield 10, 3) := by decide +kernel
theorem dX9_sets_4 : decode cX9_sets 4 = .ok (.iload_n 1, 1) := by decide +kernel
theorem dX9_sets_5 : decode cX9_sets 5 = .ok (.invokevirtual 144, 3) := by decide +kernel
theorem dX9_sets_8 : decode cX9_sets 8 = .ok (.ifCond .ne 6, 3) := by decide +kernel
theorem dX9_sets_11 : decode cX9_sets 11 = .ok (.bipush (-2), 2) := by decide +kernel
theorem dX9_sets_13 : decode cX9_sets 13 = .ok (.ireturn, 1) := by decide +kernel
theorem ce_X9_sets : CeV RX9 yX9_sets cX9_sets 4 (some .int) 3 := ⟨tb_505, tb_506, tb_1, tb_507, rfl, by decide, by decide, by decide +kernel⟩
set_option maxHeartbeats 4000000 in
set_option maxRecDepth 20000 in
theorem F_X9_sets (l : Launch) (D : va_G) (A : Nat → Prop) (ad : Nat → Nat) (ns : List Nat) (I : MI) (L : ML) (G : MG) (a0 : Int32) (a1 : Int32) (a2 : Int32) (hG : SGC ns G) (hI : ∀ n k, n < 1000 → I n k = 0) : Met l yX9_sets (wd yX9_sets cX9_sets 4 (some .int)) ({ frames := 1, cells := 0, slots := 0, locals := 21 }) (va_Pc [.ref (ad 0), .int a0, .int a1, .int a2] (PM D A ad ns I L G)) (va_Qi (fun r u => u = (ad, ns, I, L, G) ∧ r = -2) (BM D A) A) 0 0 A := by
  refine m_ofW (by decide) (Nat.le_of_ble_eq_true rfl) ?_
  intro p e s m below meth c ls args hC hE hM hA hS hl
  obtain ⟨hx, hb, hml, hown, hts, hr, hlocks, hin⟩ := hC
  have km2 : (-2 : Int32).toInt = -2 := by decide
  have k0 : (0 : Int32).toInt = 0 := by decide
  have hl : lv_has ls 4 [(0, .ref (ad (0))), (1, .int (a0)), (2, .int (a1)), (3, .int (a2))] := hl
  refine lv_aload_n hx hb dX9_sets_0 rfl (lv_at hl 0 rfl) ?_
  refine m_getr (0) 0 (100) hx hb hts hown hE oc9 hM (hG.1 0 (by decide)) rfl (by decide) rfl (hG.2 (0, 0, 100) (by decide)) (by decide) tb_398 dX9_sets_1 ?_
  refine lv_iload_n hx hb dX9_sets_4 rfl (lv_at hl 1 rfl) ?_
  refine m_calli (m_runV (100) (As := [.int (a0)]) (rest := []) hx hb hml hown hts hE hM hS hA ce_X8_hasMirror tb_508 (C_X8_hasMirror l D A ad ns I L G (100) (a0) hG.t0) rfl rfl ⟨Nat.le_of_ble_eq_true rfl, Nat.le_of_ble_eq_true rfl⟩ (hG.1 100 (by decide)) rfl rfl (by decide) rfl hl.1 rfl (Nat.le_of_ble_eq_true rfl) dX9_sets_5 ⟨Nat.le_of_ble_eq_true rfl, Nat.le_of_ble_eq_true rfl⟩) hS (fun r1 u H locs hw hM hS => ?_)
  obtain ⟨rfl, b_r1⟩ := hw
  have hM : Mem D A ad ns I L G H := hM
  obtain rfl : r1 = 0 := b_r1.z (by rw [hI 100 8 (by decide)]; omega)
  refine lv_if_ne (tgt := 14) hx hb dX9_sets_8 (by decide) (fun c2 => ?_) (fun c2 => ?_)
  · exact absurd c2 (by decide)
  · have hc2 := c2
    have q2 := q_eq hc2
    refine lv_bipush (v := (-2)) hx hb dX9_sets_11 (by decide) ?_
    exact m_iret hx hb hr hlocks hM hS (Nat.le_of_ble_eq_true rfl) (Nat.le_of_ble_eq_true rfl) ⟨rfl, rfl⟩ dX9_sets_13
theorem dX9_yard_0 : decode cX9_yard 0 = .ok (.aload_n 0, 1) := by decide +kernel
theorem dX9_yard_1 : decode cX9_yard 1 = .ok (.getfield 10, 3) := by decide +kernel
theorem dX9_yard_4 : decode cX9_yard 4 = .ok (.iload_n 1, 1) := by decide +kernel
theorem dX9_yard_5 : decode cX9_yard 5 = .ok (.iload_n 2, 1) := by decide +kernel
theorem dX9_yard_6 : decode cX9_yard 6 = .ok (.iload_n 3, 1) := by decide +kernel
theorem dX9_yard_7 : decode cX9_yard 7 = .ok (.iload 4, 2) := by decide +kernel
theorem dX9_yard_9 : decode cX9_yard 9 = .ok (.invokevirtual 103, 3) := by decide +kernel
theorem dX9_yard_12 : decode cX9_yard 12 = .ok (.ifCond .eq 15, 3) := by decide +kernel
theorem dX9_yard_27 : decode cX9_yard 27 = .ok (.iconst (-1), 1) := by decide +kernel
theorem dX9_yard_28 : decode cX9_yard 28 = .ok (.ireturn, 1) := by decide +kernel
theorem ce_X9_yard : CeV RX9 yX9_yard cX9_yard 8 (some .int) 6 := ⟨tb_521, tb_522, tb_1, tb_523, rfl, by decide, by decide, by decide +kernel⟩
set_option maxHeartbeats 4000000 in
set_option maxRecDepth 20000 in
theorem F_X9_yard (l : Launch) (D : va_G) (A : Nat → Prop) (ad : Nat → Nat) (ns : List Nat) (I : MI) (L : ML) (G : MG) (a0 : Int32) (a1 : Int32) (a2 : Int32) (a3 : Int32) (a4 : Int32) (a5 : Int32) (hG : SGC ns G) (hI : ∀ n k, n < 1000 → I n k = 0) : Met l yX9_yard (wd yX9_yard cX9_yard 8 (some .int)) ({ frames := 2, cells := 0, slots := 0, locals := 46 }) (va_Pc [.ref (ad 0), .int a0, .int a1, .int a2, .int a3, .int a4, .int a5] (PM D A ad ns I L G)) (va_Qi (fun r u => u = (ad, ns, I, L, G) ∧ r = -1) (BM D A) A) 0 0 A := by
  refine m_ofW (by decide) (Nat.le_of_ble_eq_true rfl) ?_
  intro p e s m below meth c ls args hC hE hM hA hS hl
  obtain ⟨hx, hb, hml, hown, hts, hr, hlocks, hin⟩ := hC
  have km1 : (-1 : Int32).toInt = -1 := by decide
  have k0 : (0 : Int32).toInt = 0 := by decide
  have hl : lv_has ls 8 [(0, .ref (ad (0))), (1, .int (a0)), (2, .int (a1)), (3, .int (a2)), (4, .int (a3)), (5, .int (a4)), (6, .int (a5))] := hl
  refine lv_aload_n hx hb dX9_yard_0 rfl (lv_at hl 0 rfl) ?_
  refine m_getr (0) 0 (100) hx hb hts hown hE oc9 hM (hG.1 0 (by decide)) rfl (by decide) rfl (hG.2 (0, 0, 100) (by decide)) (by decide) tb_398 dX9_yard_1 ?_
  refine lv_iload_n hx hb dX9_yard_4 rfl (lv_at hl 1 rfl) ?_
  refine lv_iload_n hx hb dX9_yard_5 rfl (lv_at hl 2 rfl) ?_
  refine lv_iload_n hx hb dX9_yard_6 rfl (lv_at hl 3 rfl) ?_
  refine lv_iload hx hb dX9_yard_7 (lv_at hl 4 rfl) ?_
  refine m_calli (m_runV (100) (As := [.int (a0), .int (a1), .int (a2), .int (a3)]) (rest := []) hx hb hml hown hts hE hM hS hA ce_X8_hasRectangle tb_465 (C_X8_hasRectangle l D A ad ns I L G (100) (a0) (a1) (a2) (a3) hG.t0) rfl rfl ⟨Nat.le_of_ble_eq_true rfl, Nat.le_of_ble_eq_true rfl⟩ (hG.1 100 (by decide)) rfl rfl (by decide) rfl hl.1 rfl (Nat.le_of_ble_eq_true rfl) dX9_yard_9 ⟨Nat.le_of_ble_eq_true rfl, Nat.le_of_ble_eq_true rfl⟩) hS (fun r1 u H locs hw hM hS => ?_)
  obtain ⟨rfl, b_r1⟩ := hw
  have hM : Mem D A ad ns I L G H := hM
  obtain rfl : r1 = 0 := b_r1.z (by rw [hI 100 0 (by decide)]; omega)
  refine lv_if_eq (tgt := 27) hx hb dX9_yard_12 (by decide) (fun c2 => ?_) (fun c2 => ?_)
  · have hc2 := c2
    have q2 := q_eq hc2
    refine lv_iconst (v := (-1)) hx hb dX9_yard_27 (by decide) ?_
    exact m_iret hx hb hr hlocks hM hS (Nat.le_of_ble_eq_true rfl) (Nat.le_of_ble_eq_true rfl) ⟨rfl, rfl⟩ dX9_yard_28
  · exact absurd c2 (by decide)
theorem dX9_eyes_0 : decode cX9_eyes 0 = .ok (.aload_n 0, 1) := by decide +kernel
theorem dX9_eyes_1 : decode cX9_eyes 1 = .ok (.getfield 10, 3) := by decide +kernel
theorem dX9_eyes_4 : decode cX9_eyes 4 = .ok (.iload_n 1, 1) := by decide +kernel
theorem dX9_eyes_5 : decode cX9_eyes 5 = .ok (.iload_n 2, 1) := by decide +kernel
theorem dX9_eyes_6 : decode cX9_eyes 6 = .ok (.invokevirtual 122, 3) := by decide +kernel
theorem dX9_eyes_9 : decode cX9_eyes 9 = .ok (.ifCond .eq 13, 3) := by decide +kernel
theorem dX9_eyes_22 : decode cX9_eyes 22 = .ok (.bipush (-2), 2) := by decide +kernel
theorem dX9_eyes_24 : decode cX9_eyes 24 = .ok (.ireturn, 1) := by decide +kernel
theorem ce_X9_eyes : CeV RX9 yX9_eyes cX9_eyes 5 (some .int) 3 := ⟨tb_535, tb_536, tb_1, tb_537, rfl, by decide, by decide, by decide +kernel⟩
set_option maxHeartbeats 4000000 in
set_option maxRecDepth 20000 in
theorem F_X9_eyes (l : Launch) (D : va_G) (A : Nat → Prop) (ad : Nat → Nat) (ns : List Nat) (I : MI) (L : ML) (G : MG) (a0 : Int32) (a1 : Int32) (a2 : Int32) (hG : SGC ns G) (hI : ∀ n k, n < 1000 → I n k = 0) : Met l yX9_eyes (wd yX9_eyes cX9_eyes 5 (some .int)) ({ frames := 1, cells := 0, slots := 0, locals := 22 }) (va_Pc [.ref (ad 0), .int a0, .int a1, .int a2] (PM D A ad ns I L G)) (va_Qi (fun r u => u = (ad, ns, I, L, G) ∧ r = -2) (BM D A) A) 0 0 A := by
  refine m_ofW (by decide) (Nat.le_of_ble_eq_true rfl) ?_
  intro p e s m below meth c ls args hC hE hM hA hS hl
  obtain ⟨hx, hb, hml, hown, hts, hr, hlocks, hin⟩ := hC
  have km2 : (-2 : Int32).toInt = -2 := by decide
  have k0 : (0 : Int32).toInt = 0 := by decide
  have hl : lv_has ls 5 [(0, .ref (ad (0))), (1, .int (a0)), (2, .int (a1)), (3, .int (a2))] := hl
  refine lv_aload_n hx hb dX9_eyes_0 rfl (lv_at hl 0 rfl) ?_
  refine m_getr (0) 0 (100) hx hb hts hown hE oc9 hM (hG.1 0 (by decide)) rfl (by decide) rfl (hG.2 (0, 0, 100) (by decide)) (by decide) tb_398 dX9_eyes_1 ?_
  refine lv_iload_n hx hb dX9_eyes_4 rfl (lv_at hl 1 rfl) ?_
  refine lv_iload_n hx hb dX9_eyes_5 rfl (lv_at hl 2 rfl) ?_
  refine m_calli (m_runV (100) (As := [.int (a0), .int (a1)]) (rest := []) hx hb hml hown hts hE hM hS hA ce_X8_hasCell tb_493 (C_X8_hasCell l D A ad ns I L G (100) (a0) (a1) hG.t0) rfl rfl ⟨Nat.le_of_ble_eq_true rfl, Nat.le_of_ble_eq_true rfl⟩ (hG.1 100 (by decide)) rfl rfl (by decide) rfl hl.1 rfl (Nat.le_of_ble_eq_true rfl) dX9_eyes_6 ⟨Nat.le_of_ble_eq_true rfl, Nat.le_of_ble_eq_true rfl⟩) hS (fun r1 u H locs hw hM hS => ?_)
  obtain ⟨rfl, b_r1⟩ := hw
  have hM : Mem D A ad ns I L G H := hM
  obtain rfl : r1 = 0 := b_r1.z (by rw [hI 100 0 (by decide)]; omega)
  refine lv_if_eq (tgt := 22) hx hb dX9_eyes_9 (by decide) (fun c2 => ?_) (fun c2 => ?_)
  · have hc2 := c2
    have q2 := q_eq hc2
    refine lv_bipush (v := (-2)) hx hb dX9_eyes_22 (by decide) ?_
    exact m_iret hx hb hr hlocks hM hS (Nat.le_of_ble_eq_true rfl) (Nat.le_of_ble_eq_true rfl) ⟨rfl, rfl⟩ dX9_eyes_24
  · exact absurd c2 (by decide)
theorem dX9_month_0 : decode cX9_month 0 = .ok (.aload_n 0, 1) := by decide +kernel
theorem dX9_month_1 : decode cX9_month 1 = .ok (.getfield 10, 3) := by decide +kernel
theorem dX9_month_4 : decode cX9_month 4 = .ok (.invokevirtual 111, 3) := by decide +kernel
theorem dX9_month_7 : decode cX9_month 7 = .ok (.ifCond .eq 13, 3) := by decide +kernel
theorem dX9_month_20 : decode cX9_month 20 = .ok (.iconst (-1), 1) := by decide +kernel
theorem dX9_month_21 : decode cX9_month 21 = .ok (.ireturn, 1) := by decide +kernel
theorem ce_X9_month : CeV RX9 yX9_month cX9_month 3 (some .int) 1 := ⟨tb_539, tb_540, tb_1, tb_541, rfl, by decide, by decide, by decide +kernel⟩
set_option maxHeartbeats 4000000 in
set_option maxRecDepth 20000 in
theorem F_X9_month (l : Launch) (D : va_G) (A : Nat → Prop) (ad : Nat → Nat) (ns : List Nat) (I : MI) (L : ML) (G : MG) (a0 : Int32) (hG : SGC ns G) (hI : ∀ n k, n < 1000 → I n k = 0) : Met l yX9_month (wd yX9_month cX9_month 3 (some .int)) ({ frames := 1, cells := 0, slots := 0, locals := 20 }) (va_Pc [.ref (ad 0), .int a0] (PM D A ad ns I L G)) (va_Qi (fun r u => u = (ad, ns, I, L, G) ∧ r = -1) (BM D A) A) 0 0 A := by
  refine m_ofW (by decide) (Nat.le_of_ble_eq_true rfl) ?_
  intro p e s m below meth c ls args hC hE hM hA hS hl
  obtain ⟨hx, hb, hml, hown, hts, hr, hlocks, hin⟩ := hC
  have km1 : (-1 : Int32).toInt = -1 := by decide
  have k0 : (0 : Int32).toInt = 0 := by decide
  have hl : lv_has ls 3 [(0, .ref (ad (0))), (1, .int (a0))] := hl
  refine lv_aload_n hx hb dX9_month_0 rfl (lv_at hl 0 rfl) ?_
  refine m_getr (0) 0 (100) hx hb hts hown hE oc9 hM (hG.1 0 (by decide)) rfl (by decide) rfl (hG.2 (0, 0, 100) (by decide)) (by decide) tb_398 dX9_month_1 ?_
  refine m_calli (m_runV (100) (As := []) (rest := []) hx hb hml hown hts hE hM hS hA ce_X8_isBegun tb_484 (C_X8_isBegun l D A ad ns I L G (100) hG.t0) rfl rfl ⟨Nat.le_of_ble_eq_true rfl, Nat.le_of_ble_eq_true rfl⟩ (hG.1 100 (by decide)) rfl rfl (by decide) rfl hl.1 rfl (Nat.le_of_ble_eq_true rfl) dX9_month_4 ⟨Nat.le_of_ble_eq_true rfl, Nat.le_of_ble_eq_true rfl⟩) hS (fun r1 u H locs hw hM hS => ?_)
  obtain ⟨rfl, b_r1⟩ := hw
  have hM : Mem D A ad ns I L G H := hM
  obtain rfl : r1 = 0 := b_r1.z (by rw [hI 100 0 (by decide)]; omega)
  refine lv_if_eq (tgt := 20) hx hb dX9_month_7 (by decide) (fun c2 => ?_) (fun c2 => ?_)
  · have hc2 := c2
    have q2 := q_eq hc2
    refine lv_iconst (v := (-1)) hx hb dX9_month_20 (by decide) ?_
    exact m_iret hx hb hr hlocks hM hS (Nat.le_of_ble_eq_true rfl) (Nat.le_of_ble_eq_true rfl) ⟨rfl, rfl⟩ dX9_month_21
  · exact absurd c2 (by decide)
theorem dX9_falls_0 : decode cX9_falls 0 = .ok (.aload_n 0, 1) := by decide +kernel
theorem dX9_falls_1 : decode cX9_falls 1 = .ok (.getfield 10, 3) := by decide +kernel
theorem dX9_falls_4 : decode cX9_falls 4 = .ok (.invokevirtual 111, 3) := by decide +kernel
theorem dX9_falls_7 : decode cX9_falls 7 = .ok (.ifCond .eq 13, 3) := by decide +kernel
theorem dX9_falls_20 : decode cX9_falls 20 = .ok (.iconst (-1), 1) := by decide +kernel
theorem dX9_falls_21 : decode cX9_falls 21 = .ok (.ireturn, 1) := by decide +kernel
theorem ce_X9_falls : CeV RX9 yX9_falls cX9_falls 3 (some .int) 1 := ⟨tb_543, tb_544, tb_1, tb_545, rfl, by decide, by decide, by decide +kernel⟩
set_option maxHeartbeats 4000000 in
set_option maxRecDepth 20000 in
theorem F_X9_falls (l : Launch) (D : va_G) (A : Nat → Prop) (ad : Nat → Nat) (ns : List Nat) (I : MI) (L : ML) (G : MG) (a0 : Int32) (hG : SGC ns G) (hI : ∀ n k, n < 1000 → I n k = 0) : Met l yX9_falls (wd yX9_falls cX9_falls 3 (some .int)) ({ frames := 1, cells := 0, slots := 0, locals := 20 }) (va_Pc [.ref (ad 0), .int a0] (PM D A ad ns I L G)) (va_Qi (fun r u => u = (ad, ns, I, L, G) ∧ r = -1) (BM D A) A) 0 0 A := by
  refine m_ofW (by decide) (Nat.le_of_ble_eq_true rfl) ?_
  intro p e s m below meth c ls args hC hE hM hA hS hl
  obtain ⟨hx, hb, hml, hown, hts, hr, hlocks, hin⟩ := hC
  have km1 : (-1 : Int32).toInt = -1 := by decide
  have k0 : (0 : Int32).toInt = 0 := by decide
  have hl : lv_has ls 3 [(0, .ref (ad (0))), (1, .int (a0))] := hl
  refine lv_aload_n hx hb dX9_falls_0 rfl (lv_at hl 0 rfl) ?_
  refine m_getr (0) 0 (100) hx hb hts hown hE oc9 hM (hG.1 0 (by decide)) rfl (by decide) rfl (hG.2 (0, 0, 100) (by decide)) (by decide) tb_398 dX9_falls_1 ?_
  refine m_calli (m_runV (100) (As := []) (rest := []) hx hb hml hown hts hE hM hS hA ce_X8_isBegun tb_484 (C_X8_isBegun l D A ad ns I L G (100) hG.t0) rfl rfl ⟨Nat.le_of_ble_eq_true rfl, Nat.le_of_ble_eq_true rfl⟩ (hG.1 100 (by decide)) rfl rfl (by decide) rfl hl.1 rfl (Nat.le_of_ble_eq_true rfl) dX9_falls_4 ⟨Nat.le_of_ble_eq_true rfl, Nat.le_of_ble_eq_true rfl⟩) hS (fun r1 u H locs hw hM hS => ?_)
  obtain ⟨rfl, b_r1⟩ := hw
  have hM : Mem D A ad ns I L G H := hM
  obtain rfl : r1 = 0 := b_r1.z (by rw [hI 100 0 (by decide)]; omega)
  refine lv_if_eq (tgt := 20) hx hb dX9_falls_7 (by decide) (fun c2 => ?_) (fun c2 => ?_)
  · have hc2 := c2
    have q2 := q_eq hc2
    refine lv_iconst (v := (-1)) hx hb dX9_falls_20 (by decide) ?_
    exact m_iret hx hb hr hlocks hM hS (Nat.le_of_ble_eq_true rfl) (Nat.le_of_ble_eq_true rfl) ⟨rfl, rfl⟩ dX9_falls_21
  · exact absurd c2 (by decide)
theorem dX9_days_0 : decode cX9_days 0 = .ok (.aload_n 0, 1) := by decide +kernel
theorem dX9_days_1 : decode cX9_days 1 = .ok (.iload_n 1, 1) := by decide +kernel
theorem dX9_days_2 : decode cX9_days 2 = .ok (.invokevirtual 186, 3) := by decide +kernel
theorem dX9_days_5 : decode cX9_days 5 = .ok (.astore_n 3, 1) := by decide +kernel
theorem dX9_days_6 : decode cX9_days 6 = .ok (.aload_n 3, 1) := by decide +kernel
theorem dX9_days_7 : decode cX9_days 7 = .ok (.ifnull 38, 3) := by decide +kernel
theorem dX9_days_45 : decode cX9_days 45 = .ok (.iconst (-1), 1) := by decide +kernel
theorem dX9_days_46 : decode cX9_days 46 = .ok (.ireturn, 1) := by decide +kernel
theorem ce_X9_days : CeV RX9 yX9_days cX9_days 5 (some .int) 2 := ⟨tb_737, tb_738, tb_1, tb_739, rfl, by decide, by decide, by decide +kernel⟩
set_option maxHeartbeats 4000000 in
set_option maxRecDepth 20000 in
theorem F_X9_days (l : Launch) (D : va_G) (A : Nat → Prop) (ad : Nat → Nat) (ns : List Nat) (I : MI) (L : ML) (G : MG) (a0 : Int32) (a1 : Int32) (hG : SGC ns G) (hI : ∀ n k, n < 1000 → I n k = 0) : Met l yX9_days (wd yX9_days cX9_days 5 (some .int)) ({ frames := 2, cells := 0, slots := 0, locals := 43 }) (va_Pc [.ref (ad 0), .int a0, .int a1] (PM D A ad ns I L G)) (va_Qi (fun r u => u = (ad, ns, I, L, G) ∧ r = -1) (BM D A) A) 0 0 A := by
  refine m_ofW (by decide) (Nat.le_of_ble_eq_true rfl) ?_
  intro p e s m below meth c ls args hC hE hM hA hS hl
  obtain ⟨hx, hb, hml, hown, hts, hr, hlocks, hin⟩ := hC
  have km1 : (-1 : Int32).toInt = -1 := by decide
  have k0 : (0 : Int32).toInt = 0 := by decide
  have hl : lv_has ls 5 [(0, .ref (ad (0))), (1, .int (a0)), (2, .int (a1))] := hl
  refine lv_aload_n hx hb dX9_days_0 rfl (lv_at hl 0 rfl) ?_
  refine lv_iload_n hx hb dX9_days_1 rfl (lv_at hl 1 rfl) ?_
  refine m_callq (m_runV (0) (As := [.int (a0)]) (rest := []) hx hb hml hown hts hE hM hS hA ce_X9_findLaw tb_740 (C_X9_findLaw l D A ad ns I L G (a0) hG (by rw [hI 0 14 (by decide)]; decide)) rfl rfl ⟨Nat.le_of_ble_eq_true rfl, Nat.le_of_ble_eq_true rfl⟩ (hG.1 0 (by decide)) rfl rfl (by decide) rfl hl.1 rfl (Nat.le_of_ble_eq_true rfl) dX9_days_2 ⟨Nat.le_of_ble_eq_true rfl, Nat.le_of_ble_eq_true rfl⟩) hS (fun r1 u H locs hw hM hS => ?_)
  obtain ⟨rfl, b_r1⟩ := hw
  have hM : Mem D A ad ns I L G H := hM
  obtain rfl : r1 = none := by
    rcases b_r1 with ⟨h1, h2, -⟩ | ⟨-, h⟩
    · rw [hI 0 14 (by decide)] at h2
      omega
    · exact h
  refine lv_astore_nN (lv' := [(3, .null), (0, .ref (ad (0))), (1, .int (a0)), (2, .int (a1))]) hx hb dX9_days_5 rfl hl (by decide) rfl (fun ls hl => ?_)
  refine lv_aload_nN hx hb dX9_days_6 rfl (lv_at hl 0 rfl) ?_
  refine lv_ifnullN (tgt := 45) hx hb dX9_days_7 (by decide) ?_
  refine lv_iconst (v := (-1)) hx hb dX9_days_45 (by decide) ?_
  exact m_iret hx hb hr hlocks hM hS (Nat.le_of_ble_eq_true rfl) (Nat.le_of_ble_eq_true rfl) ⟨rfl, rfl⟩ dX9_days_46
theorem dX9_mirrors_0 : decode cX9_mirrors 0 = .ok (.aload_n 0, 1) := by decide +kernel
theorem dX9_mirrors_1 : decode cX9_mirrors 1 = .ok (.getfield 10, 3) := by decide +kernel
theorem dX9_mirrors_4 : decode cX9_mirrors 4 = .ok (.iload_n 1, 1) := by decide +kernel
theorem dX9_mirrors_5 : decode cX9_mirrors 5 = .ok (.invokevirtual 144, 3) := by decide +kernel
theorem dX9_mirrors_8 : decode cX9_mirrors 8 = .ok (.ifCond .eq 13, 3) := by decide +kernel
theorem dX9_mirrors_21 : decode cX9_mirrors 21 = .ok (.bipush (-2), 2) := by decide +kernel
theorem dX9_mirrors_23 : decode cX9_mirrors 23 = .ok (.ireturn, 1) := by decide +kernel
theorem ce_X9_mirrors : CeV RX9 yX9_mirrors cX9_mirrors 3 (some .int) 2 := ⟨tb_886, tb_887, tb_1, tb_888, rfl, by decide, by decide, by decide +kernel⟩
set_option maxHeartbeats 4000000 in
set_option maxRecDepth 20000 in
theorem F_X9_mirrors (l : Launch) (D : va_G) (A : Nat → Prop) (ad : Nat → Nat) (ns : List Nat) (I : MI) (L : ML) (G : MG) (a0 : Int32) (a1 : Int32) (hG : SGC ns G) (hI : ∀ n k, n < 1000 → I n k = 0) : Met l yX9_mirrors (wd yX9_mirrors cX9_mirrors 3 (some .int)) ({ frames := 1, cells := 0, slots := 0, locals := 21 }) (va_Pc [.ref (ad 0), .int a0, .int a1] (PM D A ad ns I L G)) (va_Qi (fun r u => u = (ad, ns, I, L, G) ∧ r = -2) (BM D A) A) 0 0 A := by
  refine m_ofW (by decide) (Nat.le_of_ble_eq_true rfl) ?_
  intro p e s m below meth c ls args hC hE hM hA hS hl
  obtain ⟨hx, hb, hml, hown, hts, hr, hlocks, hin⟩ := hC
  have km2 : (-2 : Int32).toInt = -2 := by decide
  have k0 : (0 : Int32).toInt = 0 := by decide
  have hl : lv_has ls 3 [(0, .ref (ad (0))), (1, .int (a0)), (2, .int (a1))] := hl
  refine lv_aload_n hx hb dX9_mirrors_0 rfl (lv_at hl 0 rfl) ?_
  refine m_getr (0) 0 (100) hx hb hts hown hE oc9 hM (hG.1 0 (by decide)) rfl (by decide) rfl (hG.2 (0, 0, 100) (by decide)) (by decide) tb_398 dX9_mirrors_1 ?_
  refine lv_iload_n hx hb dX9_mirrors_4 rfl (lv_at hl 1 rfl) ?_
  refine m_calli (m_runV (100) (As := [.int (a0)]) (rest := []) hx hb hml hown hts hE hM hS hA ce_X8_hasMirror tb_508 (C_X8_hasMirror l D A ad ns I L G (100) (a0) hG.t0) rfl rfl ⟨Nat.le_of_ble_eq_true rfl, Nat.le_of_ble_eq_true rfl⟩ (hG.1 100 (by decide)) rfl rfl (by decide) rfl hl.1 rfl (Nat.le_of_ble_eq_true rfl) dX9_mirrors_5 ⟨Nat.le_of_ble_eq_true rfl, Nat.le_of_ble_eq_true rfl⟩) hS (fun r1 u H locs hw hM hS => ?_)
  obtain ⟨rfl, b_r1⟩ := hw
  have hM : Mem D A ad ns I L G H := hM
  obtain rfl : r1 = 0 := b_r1.z (by rw [hI 100 8 (by decide)]; omega)
  refine lv_if_eq (tgt := 21) hx hb dX9_mirrors_8 (by decide) (fun c2 => ?_) (fun c2 => ?_)
  · have hc2 := c2
    have q2 := q_eq hc2
    refine lv_bipush (v := (-2)) hx hb dX9_mirrors_21 (by decide) ?_
    exact m_iret hx hb hr hlocks hM hS (Nat.le_of_ble_eq_true rfl) (Nat.le_of_ble_eq_true rfl) ⟨rfl, rfl⟩ dX9_mirrors_23
  · exact absurd c2 (by decide)
theorem dX9_yards_0 : decode cX9_yards 0 = .ok (.aload_n 0, 1) := by decide +kernel
theorem dX9_yards_1 : decode cX9_yards 1 = .ok (.getfield 10, 3) := by decide +kernel
theorem dX9_yards_4 : decode cX9_yards 4 = .ok (.iload_n 1, 1) := by decide +kernel
theorem dX9_yards_5 : decode cX9_yards 5 = .ok (.invokevirtual 204, 3) := by decide +kernel
theorem dX9_yards_8 : decode cX9_yards 8 = .ok (.ifCond .eq 13, 3) := by decide +kernel
theorem dX9_yards_21 : decode cX9_yards 21 = .ok (.iconst (-1), 1) := by decide +kernel
theorem dX9_yards_22 : decode cX9_yards 22 = .ok (.ireturn, 1) := by decide +kernel
theorem ce_X9_yards : CeV RX9 yX9_yards cX9_yards 3 (some .int) 2 := ⟨tb_890, tb_891, tb_1, tb_892, rfl, by decide, by decide, by decide +kernel⟩
set_option maxHeartbeats 4000000 in
set_option maxRecDepth 20000 in
theorem F_X9_yards (l : Launch) (D : va_G) (A : Nat → Prop) (ad : Nat → Nat) (ns : List Nat) (I : MI) (L : ML) (G : MG) (a0 : Int32) (a1 : Int32) (hG : SGC ns G) (hI : ∀ n k, n < 1000 → I n k = 0) : Met l yX9_yards (wd yX9_yards cX9_yards 3 (some .int)) ({ frames := 1, cells := 0, slots := 0, locals := 21 }) (va_Pc [.ref (ad 0), .int a0, .int a1] (PM D A ad ns I L G)) (va_Qi (fun r u => u = (ad, ns, I, L, G) ∧ r = -1) (BM D A) A) 0 0 A := by
  refine m_ofW (by decide) (Nat.le_of_ble_eq_true rfl) ?_
  intro p e s m below meth c ls args hC hE hM hA hS hl
  obtain ⟨hx, hb, hml, hown, hts, hr, hlocks, hin⟩ := hC
  have km1 : (-1 : Int32).toInt = -1 := by decide
  have k0 : (0 : Int32).toInt = 0 := by decide
  have hl : lv_has ls 3 [(0, .ref (ad (0))), (1, .int (a0)), (2, .int (a1))] := hl
  refine lv_aload_n hx hb dX9_yards_0 rfl (lv_at hl 0 rfl) ?_
  refine m_getr (0) 0 (100) hx hb hts hown hE oc9 hM (hG.1 0 (by decide)) rfl (by decide) rfl (hG.2 (0, 0, 100) (by decide)) (by decide) tb_398 dX9_yards_1 ?_
  refine lv_iload_n hx hb dX9_yards_4 rfl (lv_at hl 1 rfl) ?_
  refine m_calli (m_runV (100) (As := [.int (a0)]) (rest := []) hx hb hml hown hts hE hM hS hA ce_X8_hasYard tb_893 (C_X8_hasYard l D A ad ns I L G (100) (a0) hG.t0) rfl rfl ⟨Nat.le_of_ble_eq_true rfl, Nat.le_of_ble_eq_true rfl⟩ (hG.1 100 (by decide)) rfl rfl (by decide) rfl hl.1 rfl (Nat.le_of_ble_eq_true rfl) dX9_yards_5 ⟨Nat.le_of_ble_eq_true rfl, Nat.le_of_ble_eq_true rfl⟩) hS (fun r1 u H locs hw hM hS => ?_)
  obtain ⟨rfl, b_r1⟩ := hw
  have hM : Mem D A ad ns I L G H := hM
  obtain rfl : r1 = 0 := b_r1.z (by rw [hI 100 9 (by decide)]; omega)
  refine lv_if_eq (tgt := 21) hx hb dX9_yards_8 (by decide) (fun c2 => ?_) (fun c2 => ?_)
  · have hc2 := c2
    have q2 := q_eq hc2
    refine lv_iconst (v := (-1)) hx hb dX9_yards_21 (by decide) ?_
    exact m_iret hx hb hr hlocks hM hS (Nat.le_of_ble_eq_true rfl) (Nat.le_of_ble_eq_true rfl) ⟨rfl, rfl⟩ dX9_yards_22
  · exact absurd c2 (by decide)
theorem dX9_cell_0 : decode cX9_cell 0 = .ok (.aload_n 0, 1) := by decide +kernel
theorem dX9_cell_1 : decode cX9_cell 1 = .ok (.getfield 10, 3) := by decide +kernel
theorem dX9_cell_4 : decode cX9_cell 4 = .ok (.iload_n 1, 1) := by decide +kernel
theorem dX9_cell_5 : decode cX9_cell 5 = .ok (.iload_n 2, 1) := by decide +kernel
theorem dX9_cell_6 : decode cX9_cell 6 = .ok (.invokevirtual 122, 3) := by decide +kernel
theorem dX9_cell_9 : decode cX9_cell 9 = .ok (.ifCond .ne 6, 3) := by decide +kernel
theorem dX9_cell_12 : decode cX9_cell 12 = .ok (.bipush (-2), 2) := by decide +kernel
theorem dX9_cell_14 : decode cX9_cell 14 = .ok (.ireturn, 1) := by decide +kernel
theorem ce_X9_cell : CeV RX9 yX9_cell cX9_cell 5 (some .int) 3 := ⟨tb_899, tb_900, tb_1, tb_901, rfl, by decide, by decide, by decide +kernel⟩
set_option maxHeartbeats 4000000 in
set_option maxRecDepth 20000 in
theorem F_X9_cell (l : Launch) (D : va_G) (A : Nat → Prop) (ad : Nat → Nat) (ns : List Nat) (I : MI) (L : ML) (G : MG) (a0 : Int32) (a1 : Int32) (a2 : Int32) (hG : SGC ns G) (hI : ∀ n k, n < 1000 → I n k = 0) : Met l yX9_cell (wd yX9_cell cX9_cell 5 (some .int)) ({ frames := 1, cells := 0, slots := 0, locals := 22 }) (va_Pc [.ref (ad 0), .int a0, .int a1, .int a2] (PM D A ad ns I L G)) (va_Qi (fun r u => u = (ad, ns, I, L, G) ∧ r = -2) (BM D A) A) 0 0 A := by
  refine m_ofW (by decide) (Nat.le_of_ble_eq_true rfl) ?_
  intro p e s m below meth c ls args hC hE hM hA hS hl
  obtain ⟨hx, hb, hml, hown, hts, hr, hlocks, hin⟩ := hC
  have km2 : (-2 : Int32).toInt = -2 := by decide
  have k0 : (0 : Int32).toInt = 0 := by decide
  have hl : lv_has ls 5 [(0, .ref (ad (0))), (1, .int (a0)), (2, .int (a1)), (3, .int (a2))] := hl
  refine lv_aload_n hx hb dX9_cell_0 rfl (lv_at hl 0 rfl) ?_
  refine m_getr (0) 0 (100) hx hb hts hown hE oc9 hM (hG.1 0 (by decide)) rfl (by decide) rfl (hG.2 (0, 0, 100) (by decide)) (by decide) tb_398 dX9_cell_1 ?_
  refine lv_iload_n hx hb dX9_cell_4 rfl (lv_at hl 1 rfl) ?_
  refine lv_iload_n hx hb dX9_cell_5 rfl (lv_at hl 2 rfl) ?_
  refine m_calli (m_runV (100) (As := [.int (a0), .int (a1)]) (rest := []) hx hb hml hown hts hE hM hS hA ce_X8_hasCell tb_493 (C_X8_hasCell l D A ad ns I L G (100) (a0) (a1) hG.t0) rfl rfl ⟨Nat.le_of_ble_eq_true rfl, Nat.le_of_ble_eq_true rfl⟩ (hG.1 100 (by decide)) rfl rfl (by decide) rfl hl.1 rfl (Nat.le_of_ble_eq_true rfl) dX9_cell_6 ⟨Nat.le_of_ble_eq_true rfl, Nat.le_of_ble_eq_true rfl⟩) hS (fun r1 u H locs hw hM hS => ?_)
  obtain ⟨rfl, b_r1⟩ := hw
  have hM : Mem D A ad ns I L G H := hM
  obtain rfl : r1 = 0 := b_r1.z (by rw [hI 100 0 (by decide)]; omega)
  refine lv_if_ne (tgt := 15) hx hb dX9_cell_9 (by decide) (fun c2 => ?_) (fun c2 => ?_)
  · exact absurd c2 (by decide)
  · have hc2 := c2
    have q2 := q_eq hc2
    refine lv_bipush (v := (-2)) hx hb dX9_cell_12 (by decide) ?_
    exact m_iret hx hb hr hlocks hM hS (Nat.le_of_ble_eq_true rfl) (Nat.le_of_ble_eq_true rfl) ⟨rfl, rfl⟩ dX9_cell_14
theorem dX9_gets_0 : decode cX9_gets 0 = .ok (.aload_n 0, 1) := by decide +kernel
theorem dX9_gets_1 : decode cX9_gets 1 = .ok (.getfield 10, 3) := by decide +kernel
theorem dX9_gets_4 : decode cX9_gets 4 = .ok (.iload_n 1, 1) := by decide +kernel
theorem dX9_gets_5 : decode cX9_gets 5 = .ok (.invokevirtual 216, 3) := by decide +kernel
theorem dX9_gets_8 : decode cX9_gets 8 = .ok (.ifCond .eq 14, 3) := by decide +kernel
theorem dX9_gets_22 : decode cX9_gets 22 = .ok (.iconst (-1), 1) := by decide +kernel
theorem dX9_gets_23 : decode cX9_gets 23 = .ok (.ireturn, 1) := by decide +kernel
theorem ce_X9_gets : CeV RX9 yX9_gets cX9_gets 3 (some .int) 2 := ⟨tb_903, tb_904, tb_1, tb_905, rfl, by decide, by decide, by decide +kernel⟩
set_option maxHeartbeats 4000000 in
set_option maxRecDepth 20000 in
theorem F_X9_gets (l : Launch) (D : va_G) (A : Nat → Prop) (ad : Nat → Nat) (ns : List Nat) (I : MI) (L : ML) (G : MG) (a0 : Int32) (a1 : Int32) (hG : SGC ns G) (hI : ∀ n k, n < 1000 → I n k = 0) : Met l yX9_gets (wd yX9_gets cX9_gets 3 (some .int)) ({ frames := 1, cells := 0, slots := 0, locals := 21 }) (va_Pc [.ref (ad 0), .int a0, .int a1] (PM D A ad ns I L G)) (va_Qi (fun r u => u = (ad, ns, I, L, G) ∧ r = -1) (BM D A) A) 0 0 A := by
  refine m_ofW (by decide) (Nat.le_of_ble_eq_true rfl) ?_
  intro p e s m below meth c ls args hC hE hM hA hS hl
  obtain ⟨hx, hb, hml, hown, hts, hr, hlocks, hin⟩ := hC
  have km1 : (-1 : Int32).toInt = -1 := by decide
  have k0 : (0 : Int32).toInt = 0 := by decide
  have hl : lv_has ls 3 [(0, .ref (ad (0))), (1, .int (a0)), (2, .int (a1))] := hl
  refine lv_aload_n hx hb dX9_gets_0 rfl (lv_at hl 0 rfl) ?_
  refine m_getr (0) 0 (100) hx hb hts hown hE oc9 hM (hG.1 0 (by decide)) rfl (by decide) rfl (hG.2 (0, 0, 100) (by decide)) (by decide) tb_398 dX9_gets_1 ?_
  refine lv_iload_n hx hb dX9_gets_4 rfl (lv_at hl 1 rfl) ?_
  refine m_calli (m_runV (100) (As := [.int (a0)]) (rest := []) hx hb hml hown hts hE hM hS hA ce_X8_isLit tb_906 (C_X8_isLit l D A ad ns I L G (100) (a0) hG.t0 (fun h => absurd h (by rw [hI 100 0 (by decide)]; decide))) rfl rfl ⟨Nat.le_of_ble_eq_true rfl, Nat.le_of_ble_eq_true rfl⟩ (hG.1 100 (by decide)) rfl rfl (by decide) rfl hl.1 rfl (Nat.le_of_ble_eq_true rfl) dX9_gets_5 ⟨Nat.le_of_ble_eq_true rfl, Nat.le_of_ble_eq_true rfl⟩) hS (fun r1 u H locs hw hM hS => ?_)
  obtain ⟨rfl, b_r1⟩ := hw
  have hM : Mem D A ad ns I L G H := hM
  obtain rfl : r1 = 0 := b_r1.z (by rw [hI 100 0 (by decide)]; omega)
  refine lv_if_eq (tgt := 22) hx hb dX9_gets_8 (by decide) (fun c2 => ?_) (fun c2 => ?_)
  · have hc2 := c2
    have q2 := q_eq hc2
    refine lv_iconst (v := (-1)) hx hb dX9_gets_22 (by decide) ?_
    exact m_iret hx hb hr hlocks hM hS (Nat.le_of_ble_eq_true rfl) (Nat.le_of_ble_eq_true rfl) ⟨rfl, rfl⟩ dX9_gets_23
  · exact absurd c2 (by decide)
theorem dX9_light_0 : decode cX9_light 0 = .ok (.aload_n 0, 1) := by decide +kernel
theorem dX9_light_1 : decode cX9_light 1 = .ok (.getfield 10, 3) := by decide +kernel
theorem dX9_light_4 : decode cX9_light 4 = .ok (.iload_n 1, 1) := by decide +kernel
theorem dX9_light_5 : decode cX9_light 5 = .ok (.invokevirtual 216, 3) := by decide +kernel
theorem dX9_light_8 : decode cX9_light 8 = .ok (.ifCond .ne 5, 3) := by decide +kernel
theorem dX9_light_11 : decode cX9_light 11 = .ok (.iconst (-1), 1) := by decide +kernel
theorem dX9_light_12 : decode cX9_light 12 = .ok (.ireturn, 1) := by decide +kernel
theorem ce_X9_light : CeV RX9 yX9_light cX9_light 3 (some .int) 2 := ⟨tb_909, tb_910, tb_1, tb_911, rfl, by decide, by decide, by decide +kernel⟩
set_option maxHeartbeats 4000000 in
set_option maxRecDepth 20000 in
theorem F_X9_light (l : Launch) (D : va_G) (A : Nat → Prop) (ad : Nat → Nat) (ns : List Nat) (I : MI) (L : ML) (G : MG) (a0 : Int32) (a1 : Int32) (hG : SGC ns G) (hI : ∀ n k, n < 1000 → I n k = 0) : Met l yX9_light (wd yX9_light cX9_light 3 (some .int)) ({ frames := 1, cells := 0, slots := 0, locals := 21 }) (va_Pc [.ref (ad 0), .int a0, .int a1] (PM D A ad ns I L G)) (va_Qi (fun r u => u = (ad, ns, I, L, G) ∧ r = -1) (BM D A) A) 0 0 A := by
  refine m_ofW (by decide) (Nat.le_of_ble_eq_true rfl) ?_
  intro p e s m below meth c ls args hC hE hM hA hS hl
  obtain ⟨hx, hb, hml, hown, hts, hr, hlocks, hin⟩ := hC
  have km1 : (-1 : Int32).toInt = -1 := by decide
  have k0 : (0 : Int32).toInt = 0 := by decide
  have hl : lv_has ls 3 [(0, .ref (ad (0))), (1, .int (a0)), (2, .int (a1))] := hl
  refine lv_aload_n hx hb dX9_light_0 rfl (lv_at hl 0 rfl) ?_
  refine m_getr (0) 0 (100) hx hb hts hown hE oc9 hM (hG.1 0 (by decide)) rfl (by decide) rfl (hG.2 (0, 0, 100) (by decide)) (by decide) tb_398 dX9_light_1 ?_
  refine lv_iload_n hx hb dX9_light_4 rfl (lv_at hl 1 rfl) ?_
  refine m_calli (m_runV (100) (As := [.int (a0)]) (rest := []) hx hb hml hown hts hE hM hS hA ce_X8_isLit tb_906 (C_X8_isLit l D A ad ns I L G (100) (a0) hG.t0 (fun h => absurd h (by rw [hI 100 0 (by decide)]; decide))) rfl rfl ⟨Nat.le_of_ble_eq_true rfl, Nat.le_of_ble_eq_true rfl⟩ (hG.1 100 (by decide)) rfl rfl (by decide) rfl hl.1 rfl (Nat.le_of_ble_eq_true rfl) dX9_light_5 ⟨Nat.le_of_ble_eq_true rfl, Nat.le_of_ble_eq_true rfl⟩) hS (fun r1 u H locs hw hM hS => ?_)
  obtain ⟨rfl, b_r1⟩ := hw
  have hM : Mem D A ad ns I L G H := hM
  obtain rfl : r1 = 0 := b_r1.z (by rw [hI 100 0 (by decide)]; omega)
  refine lv_if_ne (tgt := 13) hx hb dX9_light_8 (by decide) (fun c2 => ?_) (fun c2 => ?_)
  · exact absurd c2 (by decide)
  · have hc2 := c2
    have q2 := q_eq hc2
    refine lv_iconst (v := (-1)) hx hb dX9_light_11 (by decide) ?_
    exact m_iret hx hb hr hlocks hM hS (Nat.le_of_ble_eq_true rfl) (Nat.le_of_ble_eq_true rfl) ⟨rfl, rfl⟩ dX9_light_12
theorem dX9_passes_0 : decode cX9_passes 0 = .ok (.aload_n 0, 1) := by decide +kernel
theorem dX9_passes_1 : decode cX9_passes 1 = .ok (.getfield 10, 3) := by decide +kernel
theorem dX9_passes_4 : decode cX9_passes 4 = .ok (.iload_n 1, 1) := by decide +kernel
theorem dX9_passes_5 : decode cX9_passes 5 = .ok (.invokevirtual 216, 3) := by decide +kernel
theorem dX9_passes_8 : decode cX9_passes 8 = .ok (.ifCond .eq 15, 3) := by decide +kernel
theorem dX9_passes_23 : decode cX9_passes 23 = .ok (.iconst (-1), 1) := by decide +kernel
theorem dX9_passes_24 : decode cX9_passes 24 = .ok (.ireturn, 1) := by decide +kernel
theorem ce_X9_passes : CeV RX9 yX9_passes cX9_passes 4 (some .int) 3 := ⟨tb_923, tb_924, tb_1, tb_925, rfl, by decide, by decide, by decide +kernel⟩
set_option maxHeartbeats 4000000 in
set_option maxRecDepth 20000 in
theorem F_X9_passes (l : Launch) (D : va_G) (A : Nat → Prop) (ad : Nat → Nat) (ns : List Nat) (I : MI) (L : ML) (G : MG) (a0 : Int32) (a1 : Int32) (a2 : Int32) (hG : SGC ns G) (hI : ∀ n k, n < 1000 → I n k = 0) : Met l yX9_passes (wd yX9_passes cX9_passes 4 (some .int)) ({ frames := 1, cells := 0, slots := 0, locals := 21 }) (va_Pc [.ref (ad 0), .int a0, .int a1, .int a2] (PM D A ad ns I L G)) (va_Qi (fun r u => u = (ad, ns, I, L, G) ∧ r = -1) (BM D A) A) 0 0 A := by
  refine m_ofW (by decide) (Nat.le_of_ble_eq_true rfl) ?_
  intro p e s m below meth c ls args hC hE hM hA hS hl
  obtain ⟨hx, hb, hml, hown, hts, hr, hlocks, hin⟩ := hC
  have km1 : (-1 : Int32).toInt = -1 := by decide
  have k0 : (0 : Int32).toInt = 0 := by decide
  have hl : lv_has ls 4 [(0, .ref (ad (0))), (1, .int (a0)), (2, .int (a1)), (3, .int (a2))] := hl
  refine lv_aload_n hx hb dX9_passes_0 rfl (lv_at hl 0 rfl) ?_
  refine m_getr (0) 0 (100) hx hb hts hown hE oc9 hM (hG.1 0 (by decide)) rfl (by decide) rfl (hG.2 (0, 0, 100) (by decide)) (by decide) tb_398 dX9_passes_1 ?_
  refine lv_iload_n hx hb dX9_passes_4 rfl (lv_at hl 1 rfl) ?_
  refine m_calli (m_runV (100) (As := [.int (a0)]) (rest := []) hx hb hml hown hts hE hM hS hA ce_X8_isLit tb_906 (C_X8_isLit l D A ad ns I L G (100) (a0) hG.t0 (fun h => absurd h (by rw [hI 100 0 (by decide)]; decide))) rfl rfl ⟨Nat.le_of_ble_eq_true rfl, Nat.le_of_ble_eq_true rfl⟩ (hG.1 100 (by decide)) rfl rfl (by decide) rfl hl.1 rfl (Nat.le_of_ble_eq_true rfl) dX9_passes_5 ⟨Nat.le_of_ble_eq_true rfl, Nat.le_of_ble_eq_true rfl⟩) hS (fun r1 u H locs hw hM hS => ?_)
  obtain ⟨rfl, b_r1⟩ := hw
  have hM : Mem D A ad ns I L G H := hM
  obtain rfl : r1 = 0 := b_r1.z (by rw [hI 100 0 (by decide)]; omega)
  refine lv_if_eq (tgt := 23) hx hb dX9_passes_8 (by decide) (fun c2 => ?_) (fun c2 => ?_)
  · have hc2 := c2
    have q2 := q_eq hc2
    refine lv_iconst (v := (-1)) hx hb dX9_passes_23 (by decide) ?_
    exact m_iret hx hb hr hlocks hM hS (Nat.le_of_ble_eq_true rfl) (Nat.le_of_ble_eq_true rfl) ⟨rfl, rfl⟩ dX9_passes_24
  · exact absurd c2 (by decide)
theorem dX9_sees_0 : decode cX9_sees 0 = .ok (.aload_n 0, 1) := by decide +kernel
theorem dX9_sees_1 : decode cX9_sees 1 = .ok (.getfield 10, 3) := by decide +kernel
theorem dX9_sees_4 : decode cX9_sees 4 = .ok (.iload_n 1, 1) := by decide +kernel
theorem dX9_sees_5 : decode cX9_sees 5 = .ok (.invokevirtual 216, 3) := by decide +kernel
theorem dX9_sees_8 : decode cX9_sees 8 = .ok (.ifCond .eq 14, 3) := by decide +kernel
theorem dX9_sees_22 : decode cX9_sees 22 = .ok (.iconst (-1), 1) := by decide +kernel
theorem dX9_sees_23 : decode cX9_sees 23 = .ok (.ireturn, 1) := by decide +kernel
theorem ce_X9_sees : CeV RX9 yX9_sees cX9_sees 6 (some .int) 2 := ⟨tb_927, tb_928, tb_1, tb_929, rfl, by decide, by decide, by decide +kernel⟩
set_option maxHeartbeats 4000000 in
set_option maxRecDepth 20000 in
theorem F_X9_sees (l : Launch) (D : va_G) (A : Nat → Prop) (ad : Nat → Nat) (ns : List Nat) (I : MI) (L : ML) (G : MG) (a0 : Int32) (a1 : Int32) (hG : SGC ns G) (hI : ∀ n k, n < 1000 → I n k = 0) : Met l yX9_sees (wd yX9_sees cX9_sees 6 (some .int)) ({ frames := 1, cells := 0, slots := 0, locals := 21 }) (va_Pc [.ref (ad 0), .int a0, .int a1] (PM D A ad ns I L G)) (va_Qi (fun r u => u = (ad, ns, I, L, G) ∧ r = -1) (BM D A) A) 0 0 A := by
  refine m_ofW (by decide) (Nat.le_of_ble_eq_true rfl) ?_
  intro p e s m below meth c ls args hC hE hM hA hS hl
  obtain ⟨hx, hb, hml, hown, hts, hr, hlocks, hin⟩ := hC
  have km1 : (-1 : Int32).toInt = -1 := by decide
  have k0 : (0 : Int32).toInt = 0 := by decide
  have hl : lv_has ls 6 [(0, .ref (ad (0))), (1, .int (a0)), (2, .int (a1))] := hl
  refine lv_aload_n hx hb dX9_sees_0 rfl (lv_at hl 0 rfl) ?_
  refine m_getr (0) 0 (100) hx hb hts hown hE oc9 hM (hG.1 0 (by decide)) rfl (by decide) rfl (hG.2 (0, 0, 100) (by decide)) (by decide) tb_398 dX9_sees_1 ?_
  refine lv_iload_n hx hb dX9_sees_4 rfl (lv_at hl 1 rfl) ?_
  refine m_calli (m_runV (100) (As := [.int (a0)]) (rest := []) hx hb hml hown hts hE hM hS hA ce_X8_isLit tb_906 (C_X8_isLit l D A ad ns I L G (100) (a0) hG.t0 (fun h => absurd h (by rw [hI 100 0 (by decide)]; decide))) rfl rfl ⟨Nat.le_of_ble_eq_true rfl, Nat.le_of_ble_eq_true rfl⟩ (hG.1 100 (by decide)) rfl rfl (by decide) rfl hl.1 rfl (Nat.le_of_ble_eq_true rfl) dX9_sees_5 ⟨Nat.le_of_ble_eq_true rfl, Nat.le_of_ble_eq_true rfl⟩) hS (fun r1 u H locs hw hM hS => ?_)
  obtain ⟨rfl, b_r1⟩ := hw
  have hM : Mem D A ad ns I L G H := hM
  obtain rfl : r1 = 0 := b_r1.z (by rw [hI 100 0 (by decide)]; omega)
  refine lv_if_eq (tgt := 22) hx hb dX9_sees_8 (by decide) (fun c2 => ?_) (fun c2 => ?_)
  · have hc2 := c2
    have q2 := q_eq hc2
    refine lv_iconst (v := (-1)) hx hb dX9_sees_22 (by decide) ?_
    exact m_iret hx hb hr hlocks hM hS (Nat.le_of_ble_eq_true rfl) (Nat.le_of_ble_eq_true rfl) ⟨rfl, rfl⟩ dX9_sees_23
  · exact absurd c2 (by decide)
theorem dX9_worth_0 : decode cX9_worth 0 = .ok (.aload_n 0, 1) := by decide +kernel
theorem dX9_worth_1 : decode cX9_worth 1 = .ok (.getfield 10, 3) := by decide +kernel
theorem dX9_worth_4 : decode cX9_worth 4 = .ok (.iload_n 1, 1) := by decide +kernel
theorem dX9_worth_5 : decode cX9_worth 5 = .ok (.invokevirtual 216, 3) := by decide +kernel
theorem dX9_worth_8 : decode cX9_worth 8 = .ok (.ifCond .eq 14, 3) := by decide +kernel
theorem dX9_worth_22 : decode cX9_worth 22 = .ok (.ldc_w 260, 3) := by decide +kernel
theorem dX9_worth_25 : decode cX9_worth 25 = .ok (.ireturn, 1) := by decide +kernel
theorem ce_X9_worth : CeV RX9 yX9_worth cX9_worth 3 (some .int) 2 := ⟨tb_932, tb_933, tb_1, tb_934, rfl, by decide, by decide, by decide +kernel⟩
set_option maxHeartbeats 4000000 in
set_option maxRecDepth 20000 in
theorem F_X9_worth (l : Launch) (D : va_G) (A : Nat → Prop) (ad : Nat → Nat) (ns : List Nat) (I : MI) (L : ML) (G : MG) (a0 : Int32) (a1 : Int32) (hG : SGC ns G) (hI : ∀ n k, n < 1000 → I n k = 0) : Met l yX9_worth (wd yX9_worth cX9_worth 3 (some .int)) ({ frames := 1, cells := 0, slots := 0, locals := 21 }) (va_Pc [.ref (ad 0), .int a0, .int a1] (PM D A ad ns I L G)) (va_Qi (fun r u => u = (ad, ns, I, L, G) ∧ r = -1000000) (BM D A) A) 0 0 A := by
  refine m_ofW (by decide) (Nat.le_of_ble_eq_true rfl) ?_
  intro p e s m below meth c ls args hC hE hM hA hS hl
  obtain ⟨hx, hb, hml, hown, hts, hr, hlocks, hin⟩ := hC
  have km1000000 : (-1000000 : Int32).toInt = -1000000 := by decide
  have k0 : (0 : Int32).toInt = 0 := by decide
  have hl : lv_has ls 3 [(0, .ref (ad (0))), (1, .int (a0)), (2, .int (a1))] := hl
  refine lv_aload_n hx hb dX9_worth_0 rfl (lv_at hl 0 rfl) ?_
  refine m_getr (0) 0 (100) hx hb hts hown hE oc9 hM (hG.1 0 (by decide)) rfl (by decide) rfl (hG.2 (0, 0, 100) (by decide)) (by decide) tb_398 dX9_worth_1 ?_
  refine lv_iload_n hx hb dX9_worth_4 rfl (lv_at hl 1 rfl) ?_
  refine m_calli (m_runV (100) (As := [.int (a0)]) (rest := []) hx hb hml hown hts hE hM hS hA ce_X8_isLit tb_906 (C_X8_isLit l D A ad ns I L G (100) (a0) hG.t0 (fun h => absurd h (by rw [hI 100 0 (by decide)]; decide))) rfl rfl ⟨Nat.le_of_ble_eq_true rfl, Nat.le_of_ble_eq_true rfl⟩ (hG.1 100 (by decide)) rfl rfl (by decide) rfl hl.1 rfl (Nat.le_of_ble_eq_true rfl) dX9_worth_5 ⟨Nat.le_of_ble_eq_true rfl, Nat.le_of_ble_eq_true rfl⟩) hS (fun r1 u H locs hw hM hS => ?_)
  obtain ⟨rfl, b_r1⟩ := hw
  have hM : Mem D A ad ns I L G H := hM
  obtain rfl : r1 = 0 := b_r1.z (by rw [hI 100 0 (by decide)]; omega)
  refine lv_if_eq (tgt := 22) hx hb dX9_worth_8 (by decide) (fun c2 => ?_) (fun c2 => ?_)
  · have hc2 := c2
    have q2 := q_eq hc2
    refine lv_ldcw (v := (-1000000)) hx hb hown (hts _ tb_935) dX9_worth_22 ?_
    exact m_iret hx hb hr hlocks hM hS (Nat.le_of_ble_eq_true rfl) (Nat.le_of_ble_eq_true rfl) ⟨rfl, rfl⟩ dX9_worth_25
  · exact absurd c2 (by decide)
theorem dX9_owned_0 : decode cX9_owned 0 = .ok (.aload_n 0, 1) := by decide +kernel
theorem dX9_owned_1 : decode cX9_owned 1 = .ok (.getfield 10, 3) := by decide +kernel
theorem dX9_owned_4 : decode cX9_owned 4 = .ok (.iload_n 1, 1) := by decide +kernel
theorem dX9_owned_5 : decode cX9_owned 5 = .ok (.invokevirtual 216, 3) := by decide +kernel
theorem dX9_owned_8 : decode cX9_owned 8 = .ok (.ifCond .eq 13, 3) := by decide +kernel
theorem dX9_owned_21 : decode cX9_owned 21 = .ok (.ldc_w 260, 3) := by decide +kernel
theorem dX9_owned_24 : decode cX9_owned 24 = .ok (.ireturn, 1) := by decide +kernel
theorem ce_X9_owned : CeV RX9 yX9_owned cX9_owned 3 (some .int) 2 := ⟨tb_949, tb_950, tb_1, tb_951, rfl, by decide, by decide, by decide +kernel⟩
set_option maxHeartbeats 4000000 in
set_option maxRecDepth 20000 in
theorem F_X9_owned (l : Launch) (D : va_G) (A : Nat → Prop) (ad : Nat → Nat) (ns : List Nat) (I : MI) (L : ML) (G : MG) (a0 : Int32) (a1 : Int32) (hG : SGC ns G) (hI : ∀ n k, n < 1000 → I n k = 0) : Met l yX9_owned (wd yX9_owned cX9_owned 3 (some .int)) ({ frames := 1, cells := 0, slots := 0, locals := 21 }) (va_Pc [.ref (ad 0), .int a0, .int a1] (PM D A ad ns I L G)) (va_Qi (fun r u => u = (ad, ns, I, L, G) ∧ r = -1000000) (BM D A) A) 0 0 A := by
  refine m_ofW (by decide) (Nat.le_of_ble_eq_true rfl) ?_
  intro p e s m below meth c ls args hC hE hM hA hS hl
  obtain ⟨hx, hb, hml, hown, hts, hr, hlocks, hin⟩ := hC
  have km1000000 : (-1000000 : Int32).toInt = -1000000 := by decide
  have k0 : (0 : Int32).toInt = 0 := by decide
  have hl : lv_has ls 3 [(0, .ref (ad (0))), (1, .int (a0)), (2, .int (a1))] := hl
  refine lv_aload_n hx hb dX9_owned_0 rfl (lv_at hl 0 rfl) ?_
  refine m_getr (0) 0 (100) hx hb hts hown hE oc9 hM (hG.1 0 (by decide)) rfl (by decide) rfl (hG.2 (0, 0, 100) (by decide)) (by decide) tb_398 dX9_owned_1 ?_
  refine lv_iload_n hx hb dX9_owned_4 rfl (lv_at hl 1 rfl) ?_
  refine m_calli (m_runV (100) (As := [.int (a0)]) (rest := []) hx hb hml hown hts hE hM hS hA ce_X8_isLit tb_906 (C_X8_isLit l D A ad ns I L G (100) (a0) hG.t0 (fun h => absurd h (by rw [hI 100 0 (by decide)]; decide))) rfl rfl ⟨Nat.le_of_ble_eq_true rfl, Nat.le_of_ble_eq_true rfl⟩ (hG.1 100 (by decide)) rfl rfl (by decide) rfl hl.1 rfl (Nat.le_of_ble_eq_true rfl) dX9_owned_5 ⟨Nat.le_of_ble_eq_true rfl, Nat.le_of_ble_eq_true rfl⟩) hS (fun r1 u H locs hw hM hS => ?_)
  obtain ⟨rfl, b_r1⟩ := hw
  have hM : Mem D A ad ns I L G H := hM
  obtain rfl : r1 = 0 := b_r1.z (by rw [hI 100 0 (by decide)]; omega)
  refine lv_if_eq (tgt := 21) hx hb dX9_owned_8 (by decide) (fun c2 => ?_) (fun c2 => ?_)
  · have hc2 := c2
    have q2 := q_eq hc2
    refine lv_ldcw (v := (-1000000)) hx hb hown (hts _ tb_935) dX9_owned_21 ?_
    exact m_iret hx hb hr hlocks hM hS (Nat.le_of_ble_eq_true rfl) (Nat.le_of_ble_eq_true rfl) ⟨rfl, rfl⟩ dX9_owned_24
  · exact absurd c2 (by decide)
theorem dX9_aim_0 : decode cX9_aim 0 = .ok (.aload_n 0, 1) := by decide +kernel
theorem dX9_aim_1 : decode cX9_aim 1 = .ok (.getfield 10, 3) := by decide +kernel
theorem dX9_aim_4 : decode cX9_aim 4 = .ok (.iload_n 1, 1) := by decide +kernel
theorem dX9_aim_5 : decode cX9_aim 5 = .ok (.invokevirtual 216, 3) := by decide +kernel
theorem dX9_aim_8 : decode cX9_aim 8 = .ok (.ifCond .eq 24, 3) := by decide +kernel
theorem dX9_aim_32 : decode cX9_aim 32 = .ok (.iconst (-1), 1) := by decide +kernel
theorem dX9_aim_33 : decode cX9_aim 33 = .ok (.ireturn, 1) := by decide +kernel
theorem ce_X9_aim : CeV RX9 yX9_aim cX9_aim 5 (some .int) 4 := ⟨tb_953, tb_954, tb_1, tb_955, rfl, by decide, by decide, by decide +kernel⟩
set_option maxHeartbeats 4000000 in
set_option maxRecDepth 20000 in
theorem F_X9_aim (l : Launch) (D : va_G) (A : Nat → Prop) (ad : Nat → Nat) (ns : List Nat) (I : MI) (L : ML) (G : MG) (a0 : Int32) (a1 : Int32) (a2 : Int32) (a3 : Int32) (hG : SGC ns G) (hI : ∀ n k, n < 1000 → I n k = 0) : Met l yX9_aim (wd yX9_aim cX9_aim 5 (some .int)) ({ frames := 1, cells := 0, slots := 0, locals := 21 }) (va_Pc [.ref (ad 0), .int a0, .int a1, .int a2, .int a3] (PM D A ad ns I L G)) (va_Qi (fun r u => u = (ad, ns, I, L, G) ∧ r = -1) (BM D A) A) 0 0 A := by
  refine m_ofW (by decide) (Nat.le_of_ble_eq_true rfl) ?_
  intro p e s m below meth c ls args hC hE hM hA hS hl
  obtain ⟨hx, hb, hml, hown, hts, hr, hlocks, hin⟩ := hC
  have km1 : (-1 : Int32).toInt = -1 := by decide
  have k0 : (0 : Int32).toInt = 0 := by decide
  have hl : lv_has ls 5 [(0, .ref (ad (0))), (1, .int (a0)), (2, .int (a1)), (3, .int (a2)), (4, .int (a3))] := hl
  refine lv_aload_n hx hb dX9_aim_0 rfl (lv_at hl 0 rfl) ?_
  refine m_getr (0) 0 (100) hx hb hts hown hE oc9 hM (hG.1 0 (by decide)) rfl (by decide) rfl (hG.2 (0, 0, 100) (by decide)) (by decide) tb_398 dX9_aim_1 ?_
  refine lv_iload_n hx hb dX9_aim_4 rfl (lv_at hl 1 rfl) ?_
  refine m_calli (m_runV (100) (As := [.int (a0)]) (rest := []) hx hb hml hown hts hE hM hS hA ce_X8_isLit tb_906 (C_X8_isLit l D A ad ns I L G (100) (a0) hG.t0 (fun h => absurd h (by rw [hI 100 0 (by decide)]; decide))) rfl rfl ⟨Nat.le_of_ble_eq_true rfl, Nat.le_of_ble_eq_true rfl⟩ (hG.1 100 (by decide)) rfl rfl (by decide) rfl hl.1 rfl (Nat.le_of_ble_eq_true rfl) dX9_aim_5 ⟨Nat.le_of_ble_eq_true rfl, Nat.le_of_ble_eq_true rfl⟩) hS (fun r1 u H locs hw hM hS => ?_)
  obtain ⟨rfl, b_r1⟩ := hw
  have hM : Mem D A ad ns I L G H := hM
  obtain rfl : r1 = 0 := b_r1.z (by rw [hI 100 0 (by decide)]; omega)
  refine lv_if_eq (tgt := 32) hx hb dX9_aim_8 (by decide) (fun c2 => ?_) (fun c2 => ?_)
  · have hc2 := c2
    have q2 := q_eq hc2
    refine lv_iconst (v := (-1)) hx hb dX9_aim_32 (by decide) ?_
    exact m_iret hx hb hr hlocks hM hS (Nat.le_of_ble_eq_true rfl) (Nat.le_of_ble_eq_true rfl) ⟨rfl, rfl⟩ dX9_aim_33
  · exact absurd c2 (by decide)
theorem dX9_fair_0 : decode cX9_fair 0 = .ok (.aload_n 0, 1) := by decide +kernel
theorem dX9_fair_1 : decode cX9_fair 1 = .ok (.getfield 10, 3) := by decide +kernel
theorem dX9_fair_4 : decode cX9_fair 4 = .ok (.iload_n 1, 1) := by decide +kernel
theorem dX9_fair_5 : decode cX9_fair 5 = .ok (.invokevirtual 216, 3) := by decide +kernel
theorem dX9_fair_8 : decode cX9_fair 8 = .ok (.ifCond .eq 22, 3) := by decide +kernel
theorem dX9_fair_30 : decode cX9_fair 30 = .ok (.iconst (-1), 1) := by decide +kernel
theorem dX9_fair_31 : decode cX9_fair 31 = .ok (.ireturn, 1) := by decide +kernel
theorem ce_X9_fair : CeV RX9 yX9_fair cX9_fair 4 (some .int) 3 := ⟨tb_1005, tb_1006, tb_1, tb_1007, rfl, by decide, by decide, by decide +kernel⟩
set_option maxHeartbeats 4000000 in
set_option maxRecDepth 20000 in
theorem F_X9_fair (l : Launch) (D : va_G) (A : Nat → Prop) (ad : Nat → Nat) (ns : List Nat) (I : MI) (L : ML) (G : MG) (a0 : Int32) (a1 : Int32) (a2 : Int32) (hG : SGC ns G) (hI : ∀ n k, n < 1000 → I n k = 0) : Met l yX9_fair (wd yX9_fair cX9_fair 4 (some .int)) ({ frames := 1, cells := 0, slots := 0, locals := 21 }) (va_Pc [.ref (ad 0), .int a0, .int a1, .int a2] (PM D A ad ns I L G)) (va_Qi (fun r u => u = (ad, ns, I, L, G) ∧ r = -1) (BM D A) A) 0 0 A := by
  refine m_ofW (by decide) (Nat.le_of_ble_eq_true rfl) ?_
  intro p e s m below meth c ls args hC hE hM hA hS hl
  obtain ⟨hx, hb, hml, hown, hts, hr, hlocks, hin⟩ := hC
  have km1 : (-1 : Int32).toInt = -1 := by decide
  have k0 : (0 : Int32).toInt = 0 := by decide
  have hl : lv_has ls 4 [(0, .ref (ad (0))), (1, .int (a0)), (2, .int (a1)), (3, .int (a2))] := hl
  refine lv_aload_n hx hb dX9_fair_0 rfl (lv_at hl 0 rfl) ?_
  refine m_getr (0) 0 (100) hx hb hts hown hE oc9 hM (hG.1 0 (by decide)) rfl (by decide) rfl (hG.2 (0, 0, 100) (by decide)) (by decide) tb_398 dX9_fair_1 ?_
  refine lv_iload_n hx hb dX9_fair_4 rfl (lv_at hl 1 rfl) ?_
  refine m_calli (m_runV (100) (As := [.int (a0)]) (rest := []) hx hb hml hown hts hE hM hS hA ce_X8_isLit tb_906 (C_X8_isLit l D A ad ns I L G (100) (a0) hG.t0 (fun h => absurd h (by rw [hI 100 0 (by decide)]; decide))) rfl rfl ⟨Nat.le_of_ble_eq_true rfl, Nat.le_of_ble_eq_true rfl⟩ (hG.1 100 (by decide)) rfl rfl (by decide) rfl hl.1 rfl (Nat.le_of_ble_eq_true rfl) dX9_fair_5 ⟨Nat.le_of_ble_eq_true rfl, Nat.le_of_ble_eq_true rfl⟩) hS (fun r1 u H locs hw hM hS => ?_)
  obtain ⟨rfl, b_r1⟩ := hw
  have hM : Mem D A ad ns I L G H := hM
  obtain rfl : r1 = 0 := b_r1.z (by rw [hI 100 0 (by decide)]; omega)
  refine lv_if_eq (tgt := 30) hx hb dX9_fair_8 (by decide) (fun c2 => ?_) (fun c2 => ?_)
  · have hc2 := c2
    have q2 := q_eq hc2
    refine lv_iconst (v := (-1)) hx hb dX9_fair_30 (by decide) ?_
    exact m_iret hx hb hr hlocks hM hS (Nat.le_of_ble_eq_true rfl) (Nat.le_of_ble_eq_true rfl) ⟨rfl, rfl⟩ dX9_fair_31
  · exact absurd c2 (by decide)
theorem dX9_mends_0 : decode cX9_mends 0 = .ok (.aload_n 0, 1) := by decide +kernel
theorem dX9_mends_1 : decode cX9_mends 1 = .ok (.getfield 10, 3) := by decide +kernel
theorem dX9_mends_4 : decode cX9_mends 4 = .ok (.iload_n 1, 1) := by decide +kernel
theorem dX9_mends_5 : decode cX9_mends 5 = .ok (.invokevirtual 216, 3) := by decide +kernel
theorem dX9_mends_8 : decode cX9_mends 8 = .ok (.ifCond .eq 23, 3) := by decide +kernel
theorem dX9_mends_31 : decode cX9_mends 31 = .ok (.iconst (-1), 1) := by decide +kernel
theorem dX9_mends_32 : decode cX9_mends 32 = .ok (.ireturn, 1) := by decide +kernel
theorem ce_X9_mends : CeV RX9 yX9_mends cX9_mends 4 (some .int) 3 := ⟨tb_1009, tb_1010, tb_1, tb_1011, rfl, by decide, by decide, by decide +kernel⟩
set_option maxHeartbeats 4000000 in
set_option maxRecDepth 20000 in
theorem F_X9_mends (l : Launch) (D : va_G) (A : Nat → Prop) (ad : Nat → Nat) (ns : List Nat) (I : MI) (L : ML) (G : MG) (a0 : Int32) (a1 : Int32) (a2 : Int32) (hG : SGC ns G) (hI : ∀ n k, n < 1000 → I n k = 0) : Met l yX9_mends (wd yX9_mends cX9_mends 4 (some .int)) ({ frames := 1, cells := 0, slots := 0, locals := 21 }) (va_Pc [.ref (ad 0), .int a0, .int a1, .int a2] (PM D A ad ns I L G)) (va_Qi (fun r u => u = (ad, ns, I, L, G) ∧ r = -1) (BM D A) A) 0 0 A := by
  refine m_ofW (by decide) (Nat.le_of_ble_eq_true rfl) ?_
  intro p e s m below meth c ls args hC hE hM hA hS hl
  obtain ⟨hx, hb, hml, hown, hts, hr, hlocks, hin⟩ := hC
  have km1 : (-1 : Int32).toInt = -1 := by decide
  have k0 : (0 : Int32).toInt = 0 := by decide
  have hl : lv_has ls 4 [(0, .ref (ad (0))), (1, .int (a0)), (2, .int (a1)), (3, .int (a2))] := hl
  refine lv_aload_n hx hb dX9_mends_0 rfl (lv_at hl 0 rfl) ?_
  refine m_getr (0) 0 (100) hx hb hts hown hE oc9 hM (hG.1 0 (by decide)) rfl (by decide) rfl (hG.2 (0, 0, 100) (by decide)) (by decide) tb_398 dX9_mends_1 ?_
  refine lv_iload_n hx hb dX9_mends_4 rfl (lv_at hl 1 rfl) ?_
  refine m_calli (m_runV (100) (As := [.int (a0)]) (rest := []) hx hb hml hown hts hE hM hS hA ce_X8_isLit tb_906 (C_X8_isLit l D A ad ns I L G (100) (a0) hG.t0 (fun h => absurd h (by rw [hI 100 0 (by decide)]; decide))) rfl rfl ⟨Nat.le_of_ble_eq_true rfl, Nat.le_of_ble_eq_true rfl⟩ (hG.1 100 (by decide)) rfl rfl (by decide) rfl hl.1 rfl (Nat.le_of_ble_eq_true rfl) dX9_mends_5 ⟨Nat.le_of_ble_eq_true rfl, Nat.le_of_ble_eq_true rfl⟩) hS (fun r1 u H locs hw hM hS => ?_)
  obtain ⟨rfl, b_r1⟩ := hw
  have hM : Mem D A ad ns I L G H := hM
  obtain rfl : r1 = 0 := b_r1.z (by rw [hI 100 0 (by decide)]; omega)
  refine lv_if_eq (tgt := 31) hx hb dX9_mends_8 (by decide) (fun c2 => ?_) (fun c2 => ?_)
  · have hc2 := c2
    have q2 := q_eq hc2
    refine lv_iconst (v := (-1)) hx hb dX9_mends_31 (by decide) ?_
    exact m_iret hx hb hr hlocks hM hS (Nat.le_of_ble_eq_true rfl) (Nat.le_of_ble_eq_true rfl) ⟨rfl, rfl⟩ dX9_mends_32
  · exact absurd c2 (by decide)
theorem dX9_second_0 : decode cX9_second 0 = .ok (.aload_n 0, 1) := by decide +kernel
theorem dX9_second_1 : decode cX9_second 1 = .ok (.getfield 10, 3) := by decide +kernel
theorem dX9_second_4 : decode cX9_second 4 = .ok (.iload_n 1, 1) := by decide +kernel
theorem dX9_second_5 : decode cX9_second 5 = .ok (.invokevirtual 216, 3) := by decide +kernel
theorem dX9_second_8 : decode cX9_second 8 = .ok (.ifCond .eq 12, 3) := by decide +kernel
theorem dX9_second_20 : decode cX9_second 20 = .ok (.iconst (-1), 1) := by decide +kernel
theorem dX9_second_21 : decode cX9_second 21 = .ok (.ireturn, 1) := by decide +kernel
theorem ce_X9_second : CeV RX9 yX9_second cX9_second 3 (some .int) 2 := ⟨tb_1060, tb_1061, tb_1, tb_1062, rfl, by decide, by decide, by decide +kernel⟩
set_option maxHeartbeats 4000000 in
set_option maxRecDepth 20000 in
theorem F_X9_second (l : Launch) (D : va_G) (A : Nat → Prop) (ad : Nat → Nat) (ns : List Nat) (I : MI) (L : ML) (G : MG) (a0 : Int32) (a1 : Int32) (hG : SGC ns G) (hI : ∀ n k, n < 1000 → I n k = 0) : Met l yX9_second (wd yX9_second cX9_second 3 (some .int)) ({ frames := 1, cells := 0, slots := 0, locals := 21 }) (va_Pc [.ref (ad 0), .int a0, .int a1] (PM D A ad ns I L G)) (va_Qi (fun r u => u = (ad, ns, I, L, G) ∧ r = -1) (BM D A) A) 0 0 A := by
  refine m_ofW (by decide) (Nat.le_of_ble_eq_true rfl) ?_
  intro p e s m below meth c ls args hC hE hM hA hS hl
  obtain ⟨hx, hb, hml, hown, hts, hr, hlocks, hin⟩ := hC
  have km1 : (-1 : Int32).toInt = -1 := by decide
  have k0 : (0 : Int32).toInt = 0 := by decide
  have hl : lv_has ls 3 [(0, .ref (ad (0))), (1, .int (a0)), (2, .int (a1))] := hl
  refine lv_aload_n hx hb dX9_second_0 rfl (lv_at hl 0 rfl) ?_
  refine m_getr (0) 0 (100) hx hb hts hown hE oc9 hM (hG.1 0 (by decide)) rfl (by decide) rfl (hG.2 (0, 0, 100) (by decide)) (by decide) tb_398 dX9_second_1 ?_
  refine lv_iload_n hx hb dX9_second_4 rfl (lv_at hl 1 rfl) ?_
  refine m_calli (m_runV (100) (As := [.int (a0)]) (rest := []) hx hb hml hown hts hE hM hS hA ce_X8_isLit tb_906 (C_X8_isLit l D A ad ns I L G (100) (a0) hG.t0 (fun h => absurd h (by rw [hI 100 0 (by decide)]; decide))) rfl rfl ⟨Nat.le_of_ble_eq_true rfl, Nat.le_of_ble_eq_true rfl⟩ (hG.1 100 (by decide)) rfl rfl (by decide) rfl hl.1 rfl (Nat.le_of_ble_eq_true rfl) dX9_second_5 ⟨Nat.le_of_ble_eq_true rfl, Nat.le_of_ble_eq_true rfl⟩) hS (fun r1 u H locs hw hM hS => ?_)
  obtain ⟨rfl, b_r1⟩ := hw
  have hM : Mem D A ad ns I L G H := hM
  obtain rfl : r1 = 0 := b_r1.z (by rw [hI 100 0 (by decide)]; omega)
  refine lv_if_eq (tgt := 20) hx hb dX9_second_8 (by decide) (fun c2 => ?_) (fun c2 => ?_)
  · have hc2 := c2
    have q2 := q_eq hc2
    refine lv_iconst (v := (-1)) hx hb dX9_second_20 (by decide) ?_
    exact m_iret hx hb hr hlocks hM hS (Nat.le_of_ble_eq_true rfl) (Nat.le_of_ble_eq_true rfl) ⟨rfl, rfl⟩ dX9_second_21
  · exact absurd c2 (by decide)
theorem dX9_thief_0 : decode cX9_thief 0 = .ok (.aload_n 0, 1) := by decide +kernel
theorem dX9_thief_1 : decode cX9_thief 1 = .ok (.getfield 10, 3) := by decide +kernel
theorem dX9_thief_4 : decode cX9_thief 4 = .ok (.iload_n 1, 1) := by decide +kernel
theorem dX9_thief_5 : decode cX9_thief 5 = .ok (.invokevirtual 216, 3) := by decide +kernel
theorem dX9_thief_8 : decode cX9_thief 8 = .ok (.ifCond .eq 12, 3) := by decide +kernel
theorem dX9_thief_20 : decode cX9_thief 20 = .ok (.iconst (-1), 1) := by decide +kernel
theorem dX9_thief_21 : decode cX9_thief 21 = .ok (.ireturn, 1) := by decide +kernel
theorem ce_X9_thief : CeV RX9 yX9_thief cX9_thief 3 (some .int) 2 := ⟨tb_1087, tb_1088, tb_1, tb_1089, rfl, by decide, by decide, by decide +kernel⟩
set_option maxHeartbeats 4000000 in
set_option maxRecDepth 20000 in
theorem F_X9_thief (l : Launch) (D : va_G) (A : Nat → Prop) (ad : Nat → Nat) (ns : List Nat) (I : MI) (L : ML) (G : MG) (a0 : Int32) (a1 : Int32) (hG : SGC ns G) (hI : ∀ n k, n < 1000 → I n k = 0) : Met l yX9_thief (wd yX9_thief cX9_thief 3 (some .int)) ({ frames := 1, cells := 0, slots := 0, locals := 21 }) (va_Pc [.ref (ad 0), .int a0, .int a1] (PM D A ad ns I L G)) (va_Qi (fun r u => u = (ad, ns, I, L, G) ∧ r = -1) (BM D A) A) 0 0 A := by
  refine m_ofW (by decide) (Nat.le_of_ble_eq_true rfl) ?_
  intro p e s m below meth c ls args hC hE hM hA hS hl
  obtain ⟨hx, hb, hml, hown, hts, hr, hlocks, hin⟩ := hC
  have km1 : (-1 : Int32).toInt = -1 := by decide
  have k0 : (0 : Int32).toInt = 0 := by decide
  have hl : lv_has ls 3 [(0, .ref (ad (0))), (1, .int (a0)), (2, .int (a1))] := hl
  refine lv_aload_n hx hb dX9_thief_0 rfl (lv_at hl 0 rfl) ?_
  refine m_getr (0) 0 (100) hx hb hts hown hE oc9 hM (hG.1 0 (by decide)) rfl (by decide) rfl (hG.2 (0, 0, 100) (by decide)) (by decide) tb_398 dX9_thief_1 ?_
  refine lv_iload_n hx hb dX9_thief_4 rfl (lv_at hl 1 rfl) ?_
  refine m_calli (m_runV (100) (As := [.int (a0)]) (rest := []) hx hb hml hown hts hE hM hS hA ce_X8_isLit tb_906 (C_X8_isLit l D A ad ns I L G (100) (a0) hG.t0 (fun h => absurd h (by rw [hI 100 0 (by decide)]; decide))) rfl rfl ⟨Nat.le_of_ble_eq_true rfl, Nat.le_of_ble_eq_true rfl⟩ (hG.1 100 (by decide)) rfl rfl (by decide) rfl hl.1 rfl (Nat.le_of_ble_eq_true rfl) dX9_thief_5 ⟨Nat.le_of_ble_eq_true rfl, Nat.le_of_ble_eq_true rfl⟩) hS (fun r1 u H locs hw hM hS => ?_)
  obtain ⟨rfl, b_r1⟩ := hw
  have hM : Mem D A ad ns I L G H := hM
  obtain rfl : r1 = 0 := b_r1.z (by rw [hI 100 0 (by decide)]; omega)
  refine lv_if_eq (tgt := 20) hx hb dX9_thief_8 (by decide) (fun c2 => ?_) (fun c2 => ?_)
  · have hc2 := c2
    have q2 := q_eq hc2
    refine lv_iconst (v := (-1)) hx hb dX9_thief_20 (by decide) ?_
    exact m_iret hx hb hr hlocks hM hS (Nat.le_of_ble_eq_true rfl) (Nat.le_of_ble_eq_true rfl) ⟨rfl, rfl⟩ dX9_thief_21
  · exact absurd c2 (by decide)
theorem dX9_dusty_0 : decode cX9_dusty 0 = .ok (.aload_n 0, 1) := by decide +kernel
theorem dX9_dusty_1 : decode cX9_dusty 1 = .ok (.getfield 10, 3) := by decide +kernel
theorem dX9_dusty_4 : decode cX9_dusty 4 = .ok (.iload_n 1, 1) := by decide +kernel
theorem dX9_dusty_5 : decode cX9_dusty 5 = .ok (.invokevirtual 216, 3) := by decide +kernel
theorem dX9_dusty_8 : decode cX9_dusty 8 = .ok (.ifCond .eq 36, 3) := by decide +kernel
theorem dX9_dusty_44 : decode cX9_dusty 44 = .ok (.iconst (-1), 1) := by decide +kernel
theorem dX9_dusty_45 : decode cX9_dusty 45 = .ok (.ireturn, 1) := by decide +kernel
theorem ce_X9_dusty : CeV RX9 yX9_dusty cX9_dusty 7 (some .int) 4 := ⟨tb_1123, tb_1124, tb_1, tb_1125, rfl, by decide, by decide, by decide +kernel⟩
set_option maxHeartbeats 4000000 in
set_option maxRecDepth 20000 in
theorem F_X9_dusty (l : Launch) (D : va_G) (A : Nat → Prop) (ad : Nat → Nat) (ns : List Nat) (I : MI) (L : ML) (G : MG) (a0 : Int32) (a1 : Int32) (a2 : Int32) (a3 : Int32) (hG : SGC ns G) (hI : ∀ n k, n < 1000 → I n k = 0) : Met l yX9_dusty (wd yX9_dusty cX9_dusty 7 (some .int)) ({ frames := 1, cells := 0, slots := 0, locals := 21 }) (va_Pc [.ref (ad 0), .int a0, .int a1, .int a2, .int a3] (PM D A ad ns I L G)) (va_Qi (fun r u => u = (ad, ns, I, L, G) ∧ r = -1) (BM D A) A) 0 0 A := by
  refine m_ofW (by decide) (Nat.le_of_ble_eq_true rfl) ?_
  intro p e s m below meth c ls args hC hE hM hA hS hl
  obtain ⟨hx, hb, hml, hown, hts, hr, hlocks, hin⟩ := hC
  have km1 : (-1 : Int32).toInt = -1 := by decide
  have k0 : (0 : Int32).toInt = 0 := by decide
  have hl : lv_has ls 7 [(0, .ref (ad (0))), (1, .int (a0)), (2, .int (a1)), (3, .int (a2)), (4, .int (a3))] := hl
  refine lv_aload_n hx hb dX9_dusty_0 rfl (lv_at hl 0 rfl) ?_
  refine m_getr (0) 0 (100) hx hb hts hown hE oc9 hM (hG.1 0 (by decide)) rfl (by decide) rfl (hG.2 (0, 0, 100) (by decide)) (by decide) tb_398 dX9_dusty_1 ?_
  refine lv_iload_n hx hb dX9_dusty_4 rfl (lv_at hl 1 rfl) ?_
  refine m_calli (m_runV (100) (As := [.int (a0)]) (rest := []) hx hb hml hown hts hE hM hS hA ce_X8_isLit tb_906 (C_X8_isLit l D A ad ns I L G (100) (a0) hG.t0 (fun h => absurd h (by rw [hI 100 0 (by decide)]; decide))) rfl rfl ⟨Nat.le_of_ble_eq_true rfl, Nat.le_of_ble_eq_true rfl⟩ (hG.1 100 (by decide)) rfl rfl (by decide) rfl hl.1 rfl (Nat.le_of_ble_eq_true rfl) dX9_dusty_5 ⟨Nat.le_of_ble_eq_true rfl, Nat.le_of_ble_eq_true rfl⟩) hS (fun r1 u H locs hw hM hS => ?_)
  obtain ⟨rfl, b_r1⟩ := hw
  have hM : Mem D A ad ns I L G H := hM
  obtain rfl : r1 = 0 := b_r1.z (by rw [hI 100 0 (by decide)]; omega)
  refine lv_if_eq (tgt := 44) hx hb dX9_dusty_8 (by decide) (fun c2 => ?_) (fun c2 => ?_)
  · have hc2 := c2
    have q2 := q_eq hc2
    refine lv_iconst (v := (-1)) hx hb dX9_dusty_44 (by decide) ?_
    exact m_iret hx hb hr hlocks hM hS (Nat.le_of_ble_eq_true rfl) (Nat.le_of_ble_eq_true rfl) ⟨rfl, rfl⟩ dX9_dusty_45
  · exact absurd c2 (by decide)
theorem dX9_dark_0 : decode cX9_dark 0 = .ok (.aload_n 0, 1) := by decide +kernel
theorem dX9_dark_1 : decode cX9_dark 1 = .ok (.iload_n 1, 1) := by decide +kernel
theorem dX9_dark_2 : decode cX9_dark 2 = .ok (.invokevirtual 186, 3) := by decide +kernel
theorem dX9_dark_5 : decode cX9_dark 5 = .ok (.astore 4, 2) := by decide +kernel
theorem dX9_dark_7 : decode cX9_dark 7 = .ok (.aload 4, 2) := by decide +kernel
theorem dX9_dark_9 : decode cX9_dark 9 = .ok (.ifnull 18, 3) := by decide +kernel
theorem dX9_dark_27 : decode cX9_dark 27 = .ok (.iconst (-1), 1) := by decide +kernel
theorem dX9_dark_28 : decode cX9_dark 28 = .ok (.ireturn, 1) := by decide +kernel
theorem ce_X9_dark : CeV RX9 yX9_dark cX9_dark 7 (some .int) 3 := ⟨tb_1144, tb_1145, tb_1, tb_1146, rfl, by decide, by decide, by decide +kernel⟩
set_option maxHeartbeats 4000000 in
set_option maxRecDepth 20000 in
theorem F_X9_dark (l : Launch) (D : va_G) (A : Nat → Prop) (ad : Nat → Nat) (ns : List Nat) (I : MI) (L : ML) (G : MG) (a0 : Int32) (a1 : Int32) (a2 : Int32) (hG : SGC ns G) (hI : ∀ n k, n < 1000 → I n k = 0) : Met l yX9_dark (wd yX9_dark cX9_dark 7 (some .int)) ({ frames := 2, cells := 0, slots := 0, locals := 43 }) (va_Pc [.ref (ad 0), .int a0, .int a1, .int a2] (PM D A ad ns I L G)) (va_Qi (fun r u => u = (ad, ns, I, L, G) ∧ r = -1) (BM D A) A) 0 0 A := by
  refine m_ofW (by decide) (Nat.le_of_ble_eq_true rfl) ?_
  intro p e s m below meth c ls args hC hE hM hA hS hl
  obtain ⟨hx, hb, hml, hown, hts, hr, hlocks, hin⟩ := hC
  have km1 : (-1 : Int32).toInt = -1 := by decide
  have k0 : (0 : Int32).toInt = 0 := by decide
  have hl : lv_has ls 7 [(0, .ref (ad (0))), (1, .int (a0)), (2, .int (a1)), (3, .int (a2))] := hl
  refine lv_aload_n hx hb dX9_dark_0 rfl (lv_at hl 0 rfl) ?_
  refine lv_iload_n hx hb dX9_dark_1 rfl (lv_at hl 1 rfl) ?_
  refine m_callq (m_runV (0) (As := [.int (a0)]) (rest := []) hx hb hml hown hts hE hM hS hA ce_X9_findLaw tb_740 (C_X9_findLaw l D A ad ns I L G (a0) hG (by rw [hI 0 14 (by decide)]; decide)) rfl rfl ⟨Nat.le_of_ble_eq_true rfl, Nat.le_of_ble_eq_true rfl⟩ (hG.1 0 (by decide)) rfl rfl (by decide) rfl hl.1 rfl (Nat.le_of_ble_eq_true rfl) dX9_dark_2 ⟨Nat.le_of_ble_eq_true rfl, Nat.le_of_ble_eq_true rfl⟩) hS (fun r1 u H locs hw hM hS => ?_)
  obtain ⟨rfl, b_r1⟩ := hw
  have hM : Mem D A ad ns I L G H := hM
  obtain rfl : r1 = none := by
    rcases b_r1 with ⟨h1, h2, -⟩ | ⟨-, h⟩
    · rw [hI 0 14 (by decide)] at h2
      omega
    · exact h
  refine lv_astoreN (lv' := [(4, .null), (0, .ref (ad (0))), (1, .int (a0)), (2, .int (a1)), (3, .int (a2))]) hx hb dX9_dark_5 hl (by decide) rfl (fun ls hl => ?_)
  refine lv_aloadN hx hb dX9_dark_7 (lv_at hl 0 rfl) ?_
  refine lv_ifnullN (tgt := 27) hx hb dX9_dark_9 (by decide) ?_
  refine lv_iconst (v := (-1)) hx hb dX9_dark_27 (by decide) ?_
  exact m_iret hx hb hr hlocks hM hS (Nat.le_of_ble_eq_true rfl) (Nat.le_of_ble_eq_true rfl) ⟨rfl, rfl⟩ dX9_dark_28
theorem dX9_ahead_0 : decode cX9_ahead 0 = .ok (.aload_n 0, 1) := by decide +kernel
theorem dX9_ahead_1 : decode cX9_ahead 1 = .ok (.iload_n 1, 1) := by decide +kernel
theorem dX9_ahead_2 : decode cX9_ahead 2 = .ok (.invokevirtual 186, 3) := by decide +kernel
theorem dX9_ahead_5 : decode cX9_ahead 5 = .ok (.astore 4, 2) := by decide +kernel
theorem dX9_ahead_7 : decode cX9_ahead 7 = .ok (.aload 4, 2) := by decide +kernel
theorem dX9_ahead_9 : decode cX9_ahead 9 = .ok (.ifnull 23, 3) := by decide +kernel
theorem dX9_ahead_32 : decode cX9_ahead 32 = .ok (.bipush (-3), 2) := by decide +kernel
theorem dX9_ahead_34 : decode cX9_ahead 34 = .ok (.ireturn, 1) := by decide +kernel
theorem ce_X9_ahead : CeV RX9 yX9_ahead cX9_ahead 7 (some .int) 3 := ⟨tb_1153, tb_1154, tb_1, tb_1155, rfl, by decide, by decide, by decide +kernel⟩
set_option maxHeartbeats 4000000 in
set_option maxRecDepth 20000 in
theorem F_X9_ahead (l : Launch) (D : va_G) (A : Nat → Prop) (ad : Nat → Nat) (ns : List Nat) (I : MI) (L : ML) (G : MG) (a0 : Int32) (a1 : Int32) (a2 : Int32) (hG : SGC ns G) (hI : ∀ n k, n < 1000 → I n k = 0) : Met l yX9_ahead (wd yX9_ahead cX9_ahead 7 (some .int)) ({ frames := 2, cells := 0, slots := 0, locals := 43 }) (va_Pc [.ref (ad 0), .int a0, .int a1, .int a2] (PM D A ad ns I L G)) (va_Qi (fun r u => u = (ad, ns, I, L, G) ∧ r = -3) (BM D A) A) 0 0 A := by
  refine m_ofW (by decide) (Nat.le_of_ble_eq_true rfl) ?_
  intro p e s m below meth c ls args hC hE hM hA hS hl
  obtain ⟨hx, hb, hml, hown, hts, hr, hlocks, hin⟩ := hC
  have km3 : (-3 : Int32).toInt = -3 := by decide
  have k0 : (0 : Int32).toInt = 0 := by decide
  have hl : lv_has ls 7 [(0, .ref (ad (0))), (1, .int (a0)), (2, .int (a1)), (3, .int (a2))] := hl
  refine lv_aload_n hx hb dX9_ahead_0 rfl (lv_at hl 0 rfl) ?_
  refine lv_iload_n hx hb dX9_ahead_1 rfl (lv_at hl 1 rfl) ?_
  refine m_callq (m_runV (0) (As := [.int (a0)]) (rest := []) hx hb hml hown hts hE hM hS hA ce_X9_findLaw tb_740 (C_X9_findLaw l D A ad ns I L G (a0) hG (by rw [hI 0 14 (by decide)]; decide)) rfl rfl ⟨Nat.le_of_ble_eq_true rfl, Nat.le_of_ble_eq_true rfl⟩ (hG.1 0 (by decide)) rfl rfl (by decide) rfl hl.1 rfl (Nat.le_of_ble_eq_true rfl) dX9_ahead_2 ⟨Nat.le_of_ble_eq_true rfl, Nat.le_of_ble_eq_true rfl⟩) hS (fun r1 u H locs hw hM hS => ?_)
  obtain ⟨rfl, b_r1⟩ := hw
  have hM : Mem D A ad ns I L G H := hM
  obtain rfl : r1 = none := by
    rcases b_r1 with ⟨h1, h2, -⟩ | ⟨-, h⟩
    · rw [hI 0 14 (by decide)] at h2
      omega
    · exact h
  refine lv_astoreN (lv' := [(4, .null), (0, .ref (ad (0))), (1, .int (a0)), (2, .int (a1)), (3, .int (a2))]) hx hb dX9_ahead_5 hl (by decide) rfl (fun ls hl => ?_)
  refine lv_aloadN hx hb dX9_ahead_7 (lv_at hl 0 rfl) ?_
  refine lv_ifnullN (tgt := 32) hx hb dX9_ahead_9 (by decide) ?_
  refine lv_bipush (v := (-3)) hx hb dX9_ahead_32 (by decide) ?_
  exact m_iret hx hb hr hlocks hM hS (Nat.le_of_ble_eq_true rfl) (Nat.le_of_ble_eq_true rfl) ⟨rfl, rfl⟩ dX9_ahead_34
theorem dX9_image_0 : decode cX9_image 0 = .ok (.iload_n 1, 1) := by decide +kernel
theorem dX9_image_1 : decode cX9_image 1 = .ok (.iconst 0, 1) := by decide +kernel
theorem dX9_image_2 : decode cX9_image 2 = .ok (.iconst 3, 1) := by decide +kernel
theorem dX9_image_3 : decode cX9_image 3 = .ok (.invokestatic 95, 3) := by decide +kernel
theorem dX9_image_6 : decode cX9_image 6 = .ok (.ifCond .eq 13, 3) := by decide +kernel
theorem dX9_image_9 : decode cX9_image 9 = .ok (.aload_n 0, 1) := by decide +kernel
theorem dX9_image_10 : decode cX9_image 10 = .ok (.getfield 10, 3) := by decide +kernel
theorem dX9_image_13 : decode cX9_image 13 = .ok (.invokevirtual 111, 3) := by decide +kernel
theorem dX9_image_16 : decode cX9_image 16 = .ok (.ifCond .ne 5, 3) := by decide +kernel
theorem dX9_image_19 : decode cX9_image 19 = .ok (.iconst (-1), 1) := by decide +kernel
theorem dX9_image_20 : decode cX9_image 20 = .ok (.ireturn, 1) := by decide +kernel
theorem ce_X9_image : CeV RX9 yX9_image cX9_image 3 (some .int) 1 := ⟨tb_1165, tb_1166, tb_1, tb_1167, rfl, by decide, by decide, by decide +kernel⟩
set_option maxHeartbeats 4000000 in
set_option maxRecDepth 20000 in
theorem F_X9_image (l : Launch) (D : va_G) (A : Nat → Prop) (ad : Nat → Nat) (ns : List Nat) (I : MI) (L : ML) (G : MG) (a0 : Int32) (hG : SGC ns G) (hI : ∀ n k, n < 1000 → I n k = 0) : Met l yX9_image (wd yX9_image cX9_image 3 (some .int)) ({ frames := 1, cells := 0, slots := 0, locals := 22 }) (va_Pc [.ref (ad 0), .int a0] (PM D A ad ns I L G)) (va_Qi (fun r u => u = (ad, ns, I, L, G) ∧ r = -1) (BM D A) A) 0 0 A := by
  refine m_ofW (by decide) (Nat.le_of_ble_eq_true rfl) ?_
  intro p e s m below meth c ls args hC hE hM hA hS hl
  obtain ⟨hx, hb, hml, hown, hts, hr, hlocks, hin⟩ := hC
  have km1 : (-1 : Int32).toInt = -1 := by decide
  have k0 : (0 : Int32).toInt = 0 := by decide
  have k3 : (3 : Int32).toInt = 3 := by decide
  have hl : lv_has ls 3 [(0, .ref (ad (0))), (1, .int (a0))] := hl
  refine lv_iload_n hx hb dX9_image_0 rfl (lv_at hl 1 rfl) ?_
  refine lv_iconst (v := (0)) hx hb dX9_image_1 (by decide) ?_
  refine lv_iconst (v := (3)) hx hb dX9_image_2 (by decide) ?_
  refine m_calli (m_runS (As := [.int (a0), .int (0), .int (3)]) (rest := []) hx hb hml hown hts hE hM hS hA ce_X9_isWithin tb_451 (C_X9_isWithin l D A ad ns I L G (a0) (0) (3)) rfl rfl ⟨Nat.le_of_ble_eq_true rfl, Nat.le_of_ble_eq_true rfl⟩  rfl hl.1 rfl (Nat.le_of_ble_eq_true rfl) dX9_image_3 ⟨Nat.le_of_ble_eq_true rfl, Nat.le_of_ble_eq_true rfl⟩) hS (fun r1 u H locs hw hM hS => ?_)
  obtain ⟨rfl, b_r1⟩ := hw
  have hM : Mem D A ad ns I L G H := hM
  refine lv_if_eq (tgt := 19) hx hb dX9_image_6 (by decide) (fun c2 => ?_) (fun c2 => ?_)
  · have hc2 := c2
    have q2 := b_r1.f hc2
    refine lv_iconst (v := (-1)) hx hb dX9_image_19 (by decide) ?_
    exact m_iret hx hb hr hlocks hM hS (Nat.le_of_ble_eq_true rfl) (Nat.le_of_ble_eq_true rfl) ⟨rfl, rfl⟩ dX9_image_20
  · have hc2 := c2
    have q2 := b_r1.t hc2
    refine lv_aload_n hx hb dX9_image_9 rfl (lv_at hl 0 rfl) ?_
    refine m_getr (0) 0 (100) hx hb hts hown hE oc9 hM (hG.1 0 (by decide)) rfl (by decide) rfl (hG.2 (0, 0, 100) (by decide)) (by decide) tb_398 dX9_image_10 ?_
    refine m_calli (m_runV (100) (As := []) (rest := []) hx hb hml hown hts hE hM hS hA ce_X8_isBegun tb_484 (C_X8_isBegun l D A ad ns I L G (100) hG.t0) rfl rfl ⟨Nat.le_of_ble_eq_true rfl, Nat.le_of_ble_eq_true rfl⟩ (hG.1 100 (by decide)) rfl rfl (by decide) rfl hl.1 rfl (Nat.le_of_ble_eq_true rfl) dX9_image_13 ⟨Nat.le_of_ble_eq_true rfl, Nat.le_of_ble_eq_true rfl⟩) hS (fun r3 u H locs hw hM hS => ?_)
    obtain ⟨rfl, b_r3⟩ := hw
    have hM : Mem D A ad ns I L G H := hM
    obtain rfl : r3 = 0 := b_r3.z (by rw [hI 100 0 (by decide)]; omega)
    refine lv_if_ne (tgt := 21) hx hb dX9_image_16 (by decide) (fun c4 => ?_) (fun c4 => ?_)
    · exact absurd c4 (by decide)
    · have hc4 := c4
      have q4 := q_eq hc4
      refine lv_iconst (v := (-1)) hx hb dX9_image_19 (by decide) ?_
      exact m_iret hx hb hr hlocks hM hS (Nat.le_of_ble_eq_true rfl) (Nat.le_of_ble_eq_true rfl) ⟨rfl, rfl⟩ dX9_image_20
theorem dX9_back_0 : decode cX9_back 0 = .ok (.iload_n 1, 1) := by decide +kernel
theorem dX9_back_1 : decode cX9_back 1 = .ok (.iconst 0, 1) := by decide +kernel
theorem dX9_back_2 : decode cX9_back 2 = .ok (.iconst 3, 1) := by decide +kernel
theorem dX9_back_3 : decode cX9_back 3 = .ok (.invokestatic 95, 3) := by decide +kernel
theorem dX9_back_6 : decode cX9_back 6 = .ok (.ifCond .ne 5, 3) := by decide +kernel
theorem dX9_back_9 : decode cX9_back 9 = .ok (.iconst (-1), 1) := by decide +kernel
theorem dX9_back_10 : decode cX9_back 10 = .ok (.ireturn, 1) := by decide +kernel
theorem dX9_back_11 : decode cX9_back 11 = .ok (.aload_n 0, 1) := by decide +kernel
theorem dX9_back_12 : decode cX9_back 12 = .ok (.getfield 19, 3) := by decide +kernel
theorem dX9_back_15 : decode cX9_back 15 = .ok (.iload_n 1, 1) := by decide +kernel
theorem dX9_back_16 : decode cX9_back 16 = .ok (.aaload, 1) := by decide +kernel
theorem dX9_back_17 : decode cX9_back 17 = .ok (.astore_n 2, 1) := by decide +kernel
theorem dX9_back_18 : decode cX9_back 18 = .ok (.aload_n 2, 1) := by decide +kernel
theorem dX9_back_19 : decode cX9_back 19 = .ok (.ifnonnull 5, 3) := by decide +kernel
theorem dX9_back_22 : decode cX9_back 22 = .ok (.iconst (-1), 1) := by decide +kernel
theorem dX9_back_23 : decode cX9_back 23 = .ok (.ireturn, 1) := by decide +kernel
theorem ce_X9_back : CeV RX9 yX9_back cX9_back 3 (some .int) 1 := ⟨tb_1169, tb_1170, tb_1, tb_1171, rfl, by decide, by decide, by decide +kernel⟩
set_option maxHeartbeats 4000000 in
set_option maxRecDepth 20000 in
theorem F_X9_back (l : Launch) (D : va_G) (A : Nat → Prop) (ad : Nat → Nat) (ns : List Nat) (I : MI) (L : ML) (G : MG) (a0 : Int32) (hG : SGC ns G) (hI : ∀ n k, n < 1000 → I n k = 0) (hN : ∀ k, G 1 k = 0) : Met l yX9_back (wd yX9_back cX9_back 3 (some .int)) ({ frames := 1, cells := 0, slots := 0, locals := 22 }) (va_Pc [.ref (ad 0), .int a0] (PM D A ad ns I L G)) (va_Qi (fun r u => u = (ad, ns, I, L, G) ∧ r = -1) (BM D A) A) 0 0 A := by
  refine m_ofW (by decide) (Nat.le_of_ble_eq_true rfl) ?_
  intro p e s m below meth c ls args hC hE hM hA hS hl
  obtain ⟨hx, hb, hml, hown, hts, hr, hlocks, hin⟩ := hC
  have km1 : (-1 : Int32).toInt = -1 := by decide
  have k0 : (0 : Int32).toInt = 0 := by decide
  have k3 : (3 : Int32).toInt = 3 := by decide
  have hl : lv_has ls 3 [(0, .ref (ad (0))), (1, .int (a0))] := hl
  refine lv_iload_n hx hb dX9_back_0 rfl (lv_at hl 1 rfl) ?_
  refine lv_iconst (v := (0)) hx hb dX9_back_1 (by decide) ?_
  refine lv_iconst (v := (3)) hx hb dX9_back_2 (by decide) ?_
  refine m_calli (m_runS (As := [.int (a0), .int (0), .int (3)]) (rest := []) hx hb hml hown hts hE hM hS hA ce_X9_isWithin tb_451 (C_X9_isWithin l D A ad ns I L G (a0) (0) (3)) rfl rfl ⟨Nat.le_of_ble_eq_true rfl, Nat.le_of_ble_eq_true rfl⟩  rfl hl.1 rfl (Nat.le_of_ble_eq_true rfl) dX9_back_3 ⟨Nat.le_of_ble_eq_true rfl, Nat.le_of_ble_eq_true rfl⟩) hS (fun r1 u H locs hw hM hS => ?_)
  obtain ⟨rfl, b_r1⟩ := hw
  have hM : Mem D A ad ns I L G H := hM
  refine lv_if_ne (tgt := 11) hx hb dX9_back_6 (by decide) (fun c2 => ?_) (fun c2 => ?_)
  · have hc2 := c2
    have q2 := b_r1.t hc2
    refine lv_aload_n hx hb dX9_back_11 rfl (lv_at hl 0 rfl) ?_
    refine m_getr (0) 2 (1) hx hb hts hown hE oc9 hM (hG.1 0 (by decide)) rfl (by decide) rfl (hG.2 (0, 2, 1) (by decide)) (by decide) tb_400 dX9_back_12 ?_
    refine lv_iload_n hx hb dX9_back_15 rfl (lv_at hl 1 rfl) ?_
    refine m_aald (1) hx hb hE hM (hG.1 1 (by decide)) rfl (by decide) (vp_in_iff.mpr (by omega)) dX9_back_16 ?_
    rw [show rn ad (G 1 (a0).toNatClampNeg) = none from by rw [hN]; rfl]
    refine lv_astore_nN (lv' := [(2, .null), (0, .ref (ad (0))), (1, .int (a0))]) hx hb dX9_back_17 rfl hl (by decide) rfl (fun ls hl => ?_)
    refine lv_aload_nN hx hb dX9_back_18 rfl (lv_at hl 0 rfl) ?_
    refine lv_ifnonnullN hx hb dX9_back_19 ?_
    refine lv_iconst (v := (-1)) hx hb dX9_back_22 (by decide) ?_
    exact m_iret hx hb hr hlocks hM hS (Nat.le_of_ble_eq_true rfl) (Nat.le_of_ble_eq_true rfl) ⟨rfl, rfl⟩ dX9_back_23
  · have hc2 := c2
    have q2 := b_r1.f hc2
    refine lv_iconst (v := (-1)) hx hb dX9_back_9 (by decide) ?_
    exact m_iret hx hb hr hlocks hM hS (Nat.le_of_ble_eq_true rfl) (Nat.le_of_ble_eq_true rfl) ⟨rfl, rfl⟩ dX9_back_10
end
section
theorem dX10_in_0 : decode cX10_in 0 = .ok (.lload_n 0, 1) := by decide +kernel
theorem dX10_in_1 : decode cX10_in 1 = .ok (.lload_n 2, 1) := by decide +kernel
theorem dX10_in_2 : decode cX10_in 2 = .ok (.lcmp, 1) := by decide +kernel
theorem dX10_in_3 : decode cX10_in 3 = .ok (.ifCond .lt 14, 3) := by decide +kernel
theorem dX10_in_6 : decode cX10_in 6 = .ok (.lload_n 0, 1) := by decide +kernel
theorem dX10_in_7 : decode cX10_in 7 = .ok (.lload 4, 2) := by decide +kernel
theorem dX10_in_9 : decode cX10_in 9 = .ok (.lcmp, 1) := by decide +kernel
theorem dX10_in_10 : decode cX10_in 10 = .ok (.ifCond .gt 7, 3) := by decide +kernel
theorem dX10_in_13 : decode cX10_in 13 = .ok (.iconst 1, 1) := by decide +kernel
theorem dX10_in_14 : decode cX10_in 14 = .ok (.goto 4, 3) := by decide +kernel
theorem dX10_in_17 : decode cX10_in 17 = .ok (.iconst 0, 1) := by decide +kernel
theorem dX10_in_18 : decode cX10_in 18 = .ok (.ireturn, 1) := by decide +kernel
theorem ce_X10_in : CeS yX10_in cX10_in 6 (some .boolean) 3 := ⟨tb_1426, tb_11, tb_1427, by decide, by decide, by decide +kernel⟩
set_option maxHeartbeats 4000000 in
set_option maxRecDepth 20000 in
theorem C_X10_in (l : Launch) (D : va_G) (A : Nat → Prop) (ad : Nat → Nat) (ns : List Nat) (I : MI) (L : ML) (G : MG) (n : Int64) (lo : Int64) (hi : Int64) : Met l yX10_in (wd yX10_in cX10_in 6 (some .boolean)) ({ frames := 0, cells := 0, slots := 0, locals := 0 }) (va_Pc [.long n, .long lo, .long hi] (PM D A ad ns I L G)) (va_Qi (fun r u => u = (ad, ns, I, L, G) ∧ Bo r (lo.toInt ≤ n.toInt ∧ n.toInt ≤ hi.toInt)) (BM D A) A) 0 0 A := by
  refine m_ofW (by decide) (Nat.le_of_ble_eq_true rfl) ?_
  intro p e s m below meth c ls args hC hE hM hA hS hl
  obtain ⟨hx, hb, hml, hown, hts, hr, hlocks, hin⟩ := hC
  have k0 : (0 : Int32).toInt = 0 := by decide
  have k1 : (1 : Int32).toInt = 1 := by decide
  have hl : lv_has ls 6 [(0, .long (n)), (2, .long (lo)), (4, .long (hi))] := hl
  refine lv_lload_n hx hb dX10_in_0 rfl (lv_at hl 0 rfl) ?_
  refine lv_lload_n hx hb dX10_in_1 rfl (lv_at hl 1 rfl) ?_
  refine W.lcmp hx hb dX10_in_2 ?_
  refine lv_if_lt (tgt := 17) hx hb dX10_in_3 (by decide) (fun c1 => ?_) (fun c1 => ?_)
  · have hc1 := c1
    have q1 := l_lt hc1
    refine lv_iconst (v := (0)) hx hb dX10_in_17 (by decide) ?_
    exact m_zret hx hb hr rfl hlocks hM hS (Nat.le_of_ble_eq_true rfl) (Nat.le_of_ble_eq_true rfl) ⟨rfl, Bo.n (by omega)⟩ dX10_in_18
  · have hc1 := c1
    have q1 := l_nlt hc1
    refine lv_lload_n hx hb dX10_in_6 rfl (lv_at hl 0 rfl) ?_
    refine lv_lload hx hb dX10_in_7 (lv_at hl 2 rfl) ?_
    refine W.lcmp hx hb dX10_in_9 ?_
    refine lv_if_gt (tgt := 17) hx hb dX10_in_10 (by decide) (fun c2 => ?_) (fun c2 => ?_)
    · have hc2 := c2
      have q2 := l_gt hc2
      refine lv_iconst (v := (0)) hx hb dX10_in_17 (by decide) ?_
      exact m_zret hx hb hr rfl hlocks hM hS (Nat.le_of_ble_eq_true rfl) (Nat.le_of_ble_eq_true rfl) ⟨rfl, Bo.n (by omega)⟩ dX10_in_18
    · have hc2 := c2
      have q2 := l_ngt hc2
      refine lv_iconst (v := (1)) hx hb dX10_in_13 (by decide) ?_
      refine lv_goto (tgt := 18) hx hb dX10_in_14 (by decide) ?_
      exact m_zret hx hb hr rfl hlocks hM hS (Nat.le_of_ble_eq_true rfl) (Nat.le_of_ble_eq_true rfl) ⟨rfl, Bo.y (by omega)⟩ dX10_in_18
theorem dX10_isTown_0 : decode cX10_isTown 0 = .ok (.aload_n 0, 1) := by decide +kernel
theorem dX10_isTown_1 : decode cX10_isTown 1 = .ok (.getfield 7, 3) := by decide +kernel
theorem dX10_isTown_4 : decode cX10_isTown 4 = .ok (.iconst 0, 1) := by decide +kernel
theorem dX10_isTown_5 : decode cX10_isTown 5 = .ok (.iaload, 1) := by decide +kernel
theorem dX10_isTown_6 : decode cX10_isTown 6 = .ok (.iconst 1, 1) := by decide +kernel
theorem dX10_isTown_7 : decode cX10_isTown 7 = .ok (.if_icmp .ne 7, 3) := by decide +kernel
theorem dX10_isTown_10 : decode cX10_isTown 10 = .ok (.iconst 1, 1) := by decide +kernel
theorem dX10_isTown_11 : decode cX10_isTown 11 = .ok (.goto 4, 3) := by decide +kernel
theorem dX10_isTown_14 : decode cX10_isTown 14 = .ok (.iconst 0, 1) := by decide +kernel
theorem dX10_isTown_15 : decode cX10_isTown 15 = .ok (.ireturn, 1) := by decide +kernel
theorem ce_X10_isTown : CeV RX10 yX10_isTown cX10_isTown 1 (some .boolean) 0 := ⟨tb_1443, tp_58, tb_11, tb_1444, rfl, by decide, by decide, by decide +kernel⟩
set_option maxHeartbeats 4000000 in
set_option maxRecDepth 20000 in
theorem C_X10_isTown (l : Launch) (D : va_G) (A : Nat → Prop) (ad : Nat → Nat) (ns : List Nat) (I : MI) (L : ML) (G : MG) (hJ : SGM ns G) : Met l yX10_isTown (wd yX10_isTown cX10_isTown 1 (some .boolean)) ({ frames := 0, cells := 0, slots := 0, locals := 0 }) (va_Pc [.ref (ad 1000)] (PM D A ad ns I L G)) (va_Qi (fun r u => u = (ad, ns, I, L, G) ∧ Bo r ((I 1001 0).toInt = 1)) (BM D A) A) 0 0 A := by
  refine m_ofW (by decide) (Nat.le_of_ble_eq_true rfl) ?_
  intro p e s m below meth c ls args hC hE hM hA hS hl
  obtain ⟨hx, hb, hml, hown, hts, hr, hlocks, hin⟩ := hC
  have k0 : (0 : Int32).toInt = 0 := by decide
  have k1 : (1 : Int32).toInt = 1 := by decide
  have hl : lv_has ls 1 [(0, .ref (ad (1000)))] := hl
  refine lv_aload_n hx hb dX10_isTown_0 rfl (lv_at hl 0 rfl) ?_
  refine m_getr (1000) 1 (1001) hx hb hts hown hE oc10 hM hJ.1 rfl (by decide) rfl (hJ.2 1 (by decide)).2 (by decide) tb_1178 dX10_isTown_1 ?_
  refine lv_iconst (v := (0)) hx hb dX10_isTown_4 (by decide) ?_
  refine m_iald (1001) hx hb hE hM (hJ.2 1 (by decide)).1 rfl (vp_in_iff.mpr (by decide)) dX10_isTown_5 ?_
  rw [show (0 : Int32).toNatClampNeg = 0 from rfl]
  refine lv_iconst (v := (1)) hx hb dX10_isTown_6 (by decide) ?_
  refine lv_icmp_ne (tgt := 14) hx hb dX10_isTown_7 (by decide) (fun c1 => ?_) (fun c1 => ?_)
  · have hc1 := c1
    have q1 := q_ne hc1
    refine lv_iconst (v := (0)) hx hb dX10_isTown_14 (by decide) ?_
    exact m_zret hx hb hr rfl hlocks hM hS (Nat.le_of_ble_eq_true rfl) (Nat.le_of_ble_eq_true rfl) ⟨rfl, Bo.n (by omega)⟩ dX10_isTown_15
  · have hc1 := c1
    have q1 := q_eq hc1
    refine lv_iconst (v := (1)) hx hb dX10_isTown_10 (by decide) ?_
    refine lv_goto (tgt := 15) hx hb dX10_isTown_11 (by decide) ?_
    exact m_zret hx hb hr rfl hlocks hM hS (Nat.le_of_ble_eq_true rfl) (Nat.le_of_ble_eq_true rfl) ⟨rfl, Bo.y (by omega)⟩ dX10_isTown_15
theorem dX10_isCell_0 : decode cX10_isCell 0 = .ok (.aload_n 0, 1) := by decide +kernel
theorem dX10_isCell_1 : decode cX10_isCell 1 = .ok (.invokevirtual 188, 3) := by decide +kernel
theorem dX10_isCell_4 : decode cX10_isCell 4 = .ok (.ifCond .eq 43, 3) := by decide +kernel
theorem dX10_isCell_47 : decode cX10_isCell 47 = .ok (.iconst 0, 1) := by decide +kernel
theorem dX10_isCell_48 : decode cX10_isCell 48 = .ok (.ireturn, 1) := by decide +kernel
theorem ce_X10_isCell : CeV RX10 yX10_isCell cX10_isCell 3 (some .boolean) 2 := ⟨tb_1439, tp_57, tb_11, tb_1440, rfl, by decide, by decide, by decide +kernel⟩
set_option maxHeartbeats 4000000 in
set_option maxRecDepth 20000 in
theorem F_X10_isCell (l : Launch) (D : va_G) (A : Nat → Prop) (ad : Nat → Nat) (ns : List Nat) (I : MI) (L : ML) (G : MG) (a0 : Int32) (a1 : Int32) (hJ : SGM ns G) (hI : ∀ n k, 1000 ≤ n → n ≠ 1000 ∨ (k ≠ 33 ∧ k ≠ 57) → I n k = 0) : Met l yX10_isCell (wd yX10_isCell cX10_isCell 3 (some .boolean)) ({ frames := 1, cells := 0, slots := 0, locals := 20 }) (va_Pc [.ref (ad 1000), .int a0, .int a1] (PM D A ad ns I L G)) (va_Qi (fun r u => u = (ad, ns, I, L, G) ∧ r = 0) (BM D A) A) 0 0 A := by
  refine m_ofW (by decide) (Nat.le_of_ble_eq_true rfl) ?_
  intro p e s m below meth c ls args hC hE hM hA hS hl
  obtain ⟨hx, hb, hml, hown, hts, hr, hlocks, hin⟩ := hC
  have k0 : (0 : Int32).toInt = 0 := by decide
  have hl : lv_has ls 3 [(0, .ref (ad (1000))), (1, .int (a0)), (2, .int (a1))] := hl
  refine lv_aload_n hx hb dX10_isCell_0 rfl (lv_at hl 0 rfl) ?_
  refine m_calli (m_runV (1000) (As := []) (rest := []) hx hb hml hown hts hE hM hS hA ce_X10_isTown tb_1441 (C_X10_isTown l D A ad ns I L G hJ) rfl rfl ⟨Nat.le_of_ble_eq_true rfl, Nat.le_of_ble_eq_true rfl⟩ hJ.1 rfl rfl (by decide) rfl hl.1 rfl (Nat.le_of_ble_eq_true rfl) dX10_isCell_1 ⟨Nat.le_of_ble_eq_true rfl, Nat.le_of_ble_eq_true rfl⟩) hS (fun r1 u H locs hw hM hS => ?_)
  obtain ⟨rfl, b_r1⟩ := hw
  have hM : Mem D A ad ns I L G H := hM
  obtain rfl : r1 = 0 := b_r1.z (by rw [hI 1001 0 (by decide) (by decide)]; decide)
  refine lv_if_eq (tgt := 47) hx hb dX10_isCell_4 (by decide) (fun c2 => ?_) (fun c2 => ?_)
  · have hc2 := c2
    have q2 := q_eq hc2
    refine lv_iconst (v := (0)) hx hb dX10_isCell_47 (by decide) ?_
    exact m_zret hx hb hr rfl hlocks hM hS (Nat.le_of_ble_eq_true rfl) (Nat.le_of_ble_eq_true rfl) ⟨rfl, rfl⟩ dX10_isCell_48
  · exact absurd c2 (by decide)
theorem dX10_isArea_0 : decode cX10_isArea 0 = .ok (.aload_n 0, 1) := by decide +kernel
theorem dX10_isArea_1 : decode cX10_isArea 1 = .ok (.iload_n 1, 1) := by decide +kernel
theorem dX10_isArea_2 : decode cX10_isArea 2 = .ok (.iload_n 2, 1) := by decide +kernel
theorem dX10_isArea_3 : decode cX10_isArea 3 = .ok (.invokevirtual 196, 3) := by decide +kernel
theorem dX10_isArea_6 : decode cX10_isArea 6 = .ok (.ifCond .eq 28, 3) := by decide +kernel
theorem dX10_isArea_34 : decode cX10_isArea 34 = .ok (.iconst 0, 1) := by decide +kernel
theorem dX10_isArea_35 : decode cX10_isArea 35 = .ok (.ireturn, 1) := by decide +kernel
theorem ce_X10_isArea : CeV RX10 yX10_isArea cX10_isArea 5 (some .boolean) 4 := ⟨tb_1435, tp_56, tb_11, tb_1436, rfl, by decide, by decide, by decide +kernel⟩
set_option maxHeartbeats 4000000 in
set_option maxRecDepth 20000 in
theorem F_X10_isArea (l : Launch) (D : va_G) (A : Nat → Prop) (ad : Nat → Nat) (ns : List Nat) (I : MI) (L : ML) (G : MG) (a0 : Int32) (a1 : Int32) (a2 : Int32) (a3 : Int32) (hJ : SGM ns G) (hI : ∀ n k, 1000 ≤ n → n ≠ 1000 ∨ (k ≠ 33 ∧ k ≠ 57) → I n k = 0) : Met l yX10_isArea (wd yX10_isArea cX10_isArea 5 (some .boolean)) ({ frames := 2, cells := 0, slots := 0, locals := 42 }) (va_Pc [.ref (ad 1000), .int a0, .int a1, .int a2, .int a3] (PM D A ad ns I L G)) (va_Qi (fun r u => u = (ad, ns, I, L, G) ∧ r = 0) (BM D A) A) 0 0 A := by
  refine m_ofW (by decide) (Nat.le_of_ble_eq_true rfl) ?_
  intro p e s m below meth c ls args hC hE hM hA hS hl
  obtain ⟨hx, hb, hml, hown, hts, hr, hlocks, hin⟩ := hC
  have k0 : (0 : Int32).toInt = 0 := by decide
  have hl : lv_has ls 5 [(0, .ref (ad (1000))), (1, .int (a0)), (2, .int (a1)), (3, .int (a2)), (4, .int (a3))] := hl
  refine lv_aload_n hx hb dX10_isArea_0 rfl (lv_at hl 0 rfl) ?_
  refine lv_iload_n hx hb dX10_isArea_1 rfl (lv_at hl 1 rfl) ?_
  refine lv_iload_n hx hb dX10_isArea_2 rfl (lv_at hl 2 rfl) ?_
  refine m_calli (m_runV (1000) (As := [.int (a0), .int (a1)]) (rest := []) hx hb hml hown hts hE hM hS hA ce_X10_isCell tb_1437 (F_X10_isCell l D A ad ns I L G (a0) (a1) hJ hI) rfl rfl ⟨Nat.le_of_ble_eq_true rfl, Nat.le_of_ble_eq_true rfl⟩ hJ.1 rfl rfl (by decide) rfl hl.1 rfl (Nat.le_of_ble_eq_true rfl) dX10_isArea_3 ⟨Nat.le_of_ble_eq_true rfl, Nat.le_of_ble_eq_true rfl⟩) hS (fun r1 u H locs hw hM hS => ?_)
  obtain ⟨rfl, rfl⟩ := hw
  have hM : Mem D A ad ns I L G H := hM
  refine lv_if_eq (tgt := 34) hx hb dX10_isArea_6 (by decide) (fun c2 => ?_) (fun c2 => ?_)
  · have hc2 := c2
    have q2 := q_eq hc2
    refine lv_iconst (v := (0)) hx hb dX10_isArea_34 (by decide) ?_
    exact m_zret hx hb hr rfl hlocks hM hS (Nat.le_of_ble_eq_true rfl) (Nat.le_of_ble_eq_true rfl) ⟨rfl, rfl⟩ dX10_isArea_35
  · exact absurd c2 (by decide)
theorem dX10_isMirror_0 : decode cX10_isMirror 0 = .ok (.aload_n 0, 1) := by decide +kernel
theorem dX10_isMirror_1 : decode cX10_isMirror 1 = .ok (.invokevirtual 188, 3) := by decide +kernel
theorem dX10_isMirror_4 : decode cX10_isMirror 4 = .ok (.ifCond .eq 26, 3) := by decide +kernel
theorem dX10_isMirror_30 : decode cX10_isMirror 30 = .ok (.iconst 0, 1) := by decide +kernel
theorem dX10_isMirror_31 : decode cX10_isMirror 31 = .ok (.ireturn, 1) := by decide +kernel
theorem ce_X10_isMirror : CeV RX10 yX10_isMirror cX10_isMirror 2 (some .boolean) 1 := ⟨tb_1464, tp_59, tb_11, tb_1465, rfl, by decide, by decide, by decide +kernel⟩
set_option maxHeartbeats 4000000 in
set_option maxRecDepth 20000 in
theorem F_X10_isMirror (l : Launch) (D : va_G) (A : Nat → Prop) (ad : Nat → Nat) (ns : List Nat) (I : MI) (L : ML) (G : MG) (a0 : Int32) (hJ : SGM ns G) (hI : ∀ n k, 1000 ≤ n → n ≠ 1000 ∨ (k ≠ 33 ∧ k ≠ 57) → I n k = 0) : Met l yX10_isMirror (wd yX10_isMirror cX10_isMirror 2 (some .boolean)) ({ frames := 1, cells := 0, slots := 0, locals := 20 }) (va_Pc [.ref (ad 1000), .int a0] (PM D A ad ns I L G)) (va_Qi (fun r u => u = (ad, ns, I, L, G) ∧ r = 0) (BM D A) A) 0 0 A := by
  refine m_ofW (by decide) (Nat.le_of_ble_eq_true rfl) ?_
  intro p e s m below meth c ls args hC hE hM hA hS hl
  obtain ⟨hx, hb, hml, hown, hts, hr, hlocks, hin⟩ := hC
  have k0 : (0 : Int32).toInt = 0 := by decide
  have hl : lv_has ls 2 [(0, .ref (ad (1000))), (1, .int (a0))] := hl
  refine lv_aload_n hx hb dX10_isMirror_0 rfl (lv_at hl 0 rfl) ?_
  refine m_calli (m_runV (1000) (As := []) (rest := []) hx hb hml hown hts hE hM hS hA ce_X10_isTown tb_1441 (C_X10_isTown l D A ad ns I L G hJ) rfl rfl ⟨Nat.le_of_ble_eq_true rfl, Nat.le_of_ble_eq_true rfl⟩ hJ.1 rfl rfl (by decide) rfl hl.1 rfl (Nat.le_of_ble_eq_true rfl) dX10_isMirror_1 ⟨Nat.le_of_ble_eq_true rfl, Nat.le_of_ble_eq_true rfl⟩) hS (fun r1 u H locs hw hM hS => ?_)
  obtain ⟨rfl, b_r1⟩ := hw
  have hM : Mem D A ad ns I L G H := hM
  obtain rfl : r1 = 0 := b_r1.z (by rw [hI 1001 0 (by decide) (by decide)]; decide)
  refine lv_if_eq (tgt := 30) hx hb dX10_isMirror_4 (by decide) (fun c2 => ?_) (fun c2 => ?_)
  · have hc2 := c2
    have q2 := q_eq hc2
    refine lv_iconst (v := (0)) hx hb dX10_isMirror_30 (by decide) ?_
    exact m_zret hx hb hr rfl hlocks hM hS (Nat.le_of_ble_eq_true rfl) (Nat.le_of_ble_eq_true rfl) ⟨rfl, rfl⟩ dX10_isMirror_31
  · exact absurd c2 (by decide)
theorem dX10_isYard_0 : decode cX10_isYard 0 = .ok (.aload_n 0, 1) := by decide +kernel
theorem dX10_isYard_1 : decode cX10_isYard 1 = .ok (.invokevirtual 188, 3) := by decide +kernel
theorem dX10_isYard_4 : decode cX10_isYard 4 = .ok (.ifCond .eq 26, 3) := by decide +kernel
theorem dX10_isYard_30 : decode cX10_isYard 30 = .ok (.iconst 0, 1) := by decide +kernel
theorem dX10_isYard_31 : decode cX10_isYard 31 = .ok (.ireturn, 1) := by decide +kernel
theorem ce_X10_isYard : CeV RX10 yX10_isYard cX10_isYard 2 (some .boolean) 1 := ⟨tb_1688, tp_94, tb_11, tb_1689, rfl, by decide, by decide, by decide +kernel⟩
set_option maxHeartbeats 4000000 in
set_option maxRecDepth 20000 in
theorem F_X10_isYard (l : Launch) (D : va_G) (A : Nat → Prop) (ad : Nat → Nat) (ns : List Nat) (I : MI) (L : ML) (G : MG) (a0 : Int32) (hJ : SGM ns G) (hI : ∀ n k, 1000 ≤ n → n ≠ 1000 ∨ (k ≠ 33 ∧ k ≠ 57) → I n k = 0) : Met l yX10_isYard (wd yX10_isYard cX10_isYard 2 (some .boolean)) ({ frames := 1, cells := 0, slots := 0, locals := 20 }) (va_Pc [.ref (ad 1000), .int a0] (PM D A ad ns I L G)) (va_Qi (fun r u => u = (ad, ns, I, L, G) ∧ r = 0) (BM D A) A) 0 0 A := by
  refine m_ofW (by decide) (Nat.le_of_ble_eq_true rfl) ?_
  intro p e s m below meth c ls args hC hE hM hA hS hl
  obtain ⟨hx, hb, hml, hown, hts, hr, hlocks, hin⟩ := hC
  have k0 : (0 : Int32).toInt = 0 := by decide
  have hl : lv_has ls 2 [(0, .ref (ad (1000))), (1, .int (a0))] := hl
  refine lv_aload_n hx hb dX10_isYard_0 rfl (lv_at hl 0 rfl) ?_
  refine m_calli (m_runV (1000) (As := []) (rest := []) hx hb hml hown hts hE hM hS hA ce_X10_isTown tb_1441 (C_X10_isTown l D A ad ns I L G hJ) rfl rfl ⟨Nat.le_of_ble_eq_true rfl, Nat.le_of_ble_eq_true rfl⟩ hJ.1 rfl rfl (by decide) rfl hl.1 rfl (Nat.le_of_ble_eq_true rfl) dX10_isYard_1 ⟨Nat.le_of_ble_eq_true rfl, Nat.le_of_ble_eq_true rfl⟩) hS (fun r1 u H locs hw hM hS => ?_)
  obtain ⟨rfl, b_r1⟩ := hw
  have hM : Mem D A ad ns I L G H := hM
  obtain rfl : r1 = 0 := b_r1.z (by rw [hI 1001 0 (by decide) (by decide)]; decide)
  refine lv_if_eq (tgt := 30) hx hb dX10_isYard_4 (by decide) (fun c2 => ?_) (fun c2 => ?_)
  · have hc2 := c2
    have q2 := q_eq hc2
    refine lv_iconst (v := (0)) hx hb dX10_isYard_30 (by decide) ?_
    exact m_zret hx hb hr rfl hlocks hM hS (Nat.le_of_ble_eq_true rfl) (Nat.le_of_ble_eq_true rfl) ⟨rfl, rfl⟩ dX10_isYard_31
  · exact absurd c2 (by decide)
theorem dX10_isLaw_0 : decode cX10_isLaw 0 = .ok (.aload_n 0, 1) := by decide +kernel
theorem dX10_isLaw_1 : decode cX10_isLaw 1 = .ok (.invokevirtual 188, 3) := by decide +kernel
theorem dX10_isLaw_4 : decode cX10_isLaw 4 = .ok (.ifCond .eq 23, 3) := by decide +kernel
theorem dX10_isLaw_27 : decode cX10_isLaw 27 = .ok (.iconst 0, 1) := by decide +kernel
theorem dX10_isLaw_28 : decode cX10_isLaw 28 = .ok (.ireturn, 1) := by decide +kernel
theorem ce_X10_isLaw : CeV RX10 yX10_isLaw cX10_isLaw 2 (some .boolean) 1 := ⟨tb_1610, tp_80, tb_11, tb_1611, rfl, by decide, by decide, by decide +kernel⟩
set_option maxHeartbeats 4000000 in
set_option maxRecDepth 20000 in
theorem F_X10_isLaw (l : Launch) (D : va_G) (A : Nat → Prop) (ad : Nat → Nat) (ns : List Nat) (I : MI) (L : ML) (G : MG) (a0 : Int32) (hJ : SGM ns G) (hI : ∀ n k, 1000 ≤ n → n ≠ 1000 ∨ (k ≠ 33 ∧ k ≠ 57) → I n k = 0) : Met l yX10_isLaw (wd yX10_isLaw cX10_isLaw 2 (some .boolean)) ({ frames := 1, cells := 0, slots := 0, locals := 20 }) (va_Pc [.ref (ad 1000), .int a0] (PM D A ad ns I L G)) (va_Qi (fun r u => u = (ad, ns, I, L, G) ∧ r = 0) (BM D A) A) 0 0 A := by
  refine m_ofW (by decide) (Nat.le_of_ble_eq_true rfl) ?_
  intro p e s m below meth c ls args hC hE hM hA hS hl
  obtain ⟨hx, hb, hml, hown, hts, hr, hlocks, hin⟩ := hC
  have k0 : (0 : Int32).toInt = 0 := by decide
  have hl : lv_has ls 2 [(0, .ref (ad (1000))), (1, .int (a0))] := hl
  refine lv_aload_n hx hb dX10_isLaw_0 rfl (lv_at hl 0 rfl) ?_
  refine m_calli (m_runV (1000) (As := []) (rest := []) hx hb hml hown hts hE hM hS hA ce_X10_isTown tb_1441 (C_X10_isTown l D A ad ns I L G hJ) rfl rfl ⟨Nat.le_of_ble_eq_true rfl, Nat.le_of_ble_eq_true rfl⟩ hJ.1 rfl rfl (by decide) rfl hl.1 rfl (Nat.le_of_ble_eq_true rfl) dX10_isLaw_1 ⟨Nat.le_of_ble_eq_true rfl, Nat.le_of_ble_eq_true rfl⟩) hS (fun r1 u H locs hw hM hS => ?_)
  obtain ⟨rfl, b_r1⟩ := hw
  have hM : Mem D A ad ns I L G H := hM
  obtain rfl : r1 = 0 := b_r1.z (by rw [hI 1001 0 (by decide) (by decide)]; decide)
  refine lv_if_eq (tgt := 27) hx hb dX10_isLaw_4 (by decide) (fun c2 => ?_) (fun c2 => ?_)
  · have hc2 := c2
    have q2 := q_eq hc2
    refine lv_iconst (v := (0)) hx hb dX10_isLaw_27 (by decide) ?_
    exact m_zret hx hb hr rfl hlocks hM hS (Nat.le_of_ble_eq_true rfl) (Nat.le_of_ble_eq_true rfl) ⟨rfl, rfl⟩ dX10_isLaw_28
  · exact absurd c2 (by decide)
theorem dX10_isBright_0 : decode cX10_isBright 0 = .ok (.aload_n 0, 1) := by decide +kernel
theorem dX10_isBright_1 : decode cX10_isBright 1 = .ok (.invokevirtual 188, 3) := by decide +kernel
theorem dX10_isBright_4 : decode cX10_isBright 4 = .ok (.ifCond .eq 28, 3) := by decide +kernel
theorem dX10_isBright_32 : decode cX10_isBright 32 = .ok (.iconst 0, 1) := by decide +kernel
theorem dX10_isBright_33 : decode cX10_isBright 33 = .ok (.ireturn, 1) := by decide +kernel
theorem ce_X10_isBright : CeV RX10 yX10_isBright cX10_isBright 2 (some .boolean) 1 := ⟨tb_1700, tp_95, tb_11, tb_1701, rfl, by decide, by decide, by decide +kernel⟩
set_option maxHeartbeats 4000000 in
set_option maxRecDepth 20000 in
theorem F_X10_isBright (l : Launch) (D : va_G) (A : Nat → Prop) (ad : Nat → Nat) (ns : List Nat) (I : MI) (L : ML) (G : MG) (a0 : Int32) (hJ : SGM ns G) (hI : ∀ n k, 1000 ≤ n → n ≠ 1000 ∨ (k ≠ 33 ∧ k ≠ 57) → I n k = 0) : Met l yX10_isBright (wd yX10_isBright cX10_isBright 2 (some .boolean)) ({ frames := 1, cells := 0, slots := 0, locals := 20 }) (va_Pc [.ref (ad 1000), .int a0] (PM D A ad ns I L G)) (va_Qi (fun r u => u = (ad, ns, I, L, G) ∧ r = 0) (BM D A) A) 0 0 A := by
  refine m_ofW (by decide) (Nat.le_of_ble_eq_true rfl) ?_
  intro p e s m below meth c ls args hC hE hM hA hS hl
  obtain ⟨hx, hb, hml, hown, hts, hr, hlocks, hin⟩ := hC
  have k0 : (0 : Int32).toInt = 0 := by decide
  have hl : lv_has ls 2 [(0, .ref (ad (1000))), (1, .int (a0))] := hl
  refine lv_aload_n hx hb dX10_isBright_0 rfl (lv_at hl 0 rfl) ?_
  refine m_calli (m_runV (1000) (As := []) (rest := []) hx hb hml hown hts hE hM hS hA ce_X10_isTown tb_1441 (C_X10_isTown l D A ad ns I L G hJ) rfl rfl ⟨Nat.le_of_ble_eq_true rfl, Nat.le_of_ble_eq_true rfl⟩ hJ.1 rfl rfl (by decide) rfl hl.1 rfl (Nat.le_of_ble_eq_true rfl) dX10_isBright_1 ⟨Nat.le_of_ble_eq_true rfl, Nat.le_of_ble_eq_true rfl⟩) hS (fun r1 u H locs hw hM hS => ?_)
  obtain ⟨rfl, b_r1⟩ := hw
  have hM : Mem D A ad ns I L G H := hM
  obtain rfl : r1 = 0 := b_r1.z (by rw [hI 1001 0 (by decide) (by decide)]; decide)
  refine lv_if_eq (tgt := 32) hx hb dX10_isBright_4 (by decide) (fun c2 => ?_) (fun c2 => ?_)
  · have hc2 := c2
    have q2 := q_eq hc2
    refine lv_iconst (v := (0)) hx hb dX10_isBright_32 (by decide) ?_
    exact m_zret hx hb hr rfl hlocks hM hS (Nat.le_of_ble_eq_true rfl) (Nat.le_of_ble_eq_true rfl) ⟨rfl, rfl⟩ dX10_isBright_33
  · exact absurd c2 (by decide)
theorem dX10_rock_0 : decode cX10_rock 0 = .ok (.aload_n 0, 1) := by decide +kernel
theorem dX10_rock_1 : decode cX10_rock 1 = .ok (.iload_n 1, 1) := by decide +kernel
theorem dX10_rock_2 : decode cX10_rock 2 = .ok (.iload_n 2, 1) := by decide +kernel
theorem dX10_rock_3 : decode cX10_rock 3 = .ok (.iload_n 3, 1) := by decide +kernel
theorem dX10_rock_4 : decode cX10_rock 4 = .ok (.iload 4, 2) := by decide +kernel
theorem dX10_rock_6 : decode cX10_rock 6 = .ok (.invokevirtual 206, 3) := by decide +kernel
theorem dX10_rock_9 : decode cX10_rock 9 = .ok (.ifCond .ne 5, 3) := by decide +kernel
theorem dX10_rock_12 : decode cX10_rock 12 = .ok (.iconst (-1), 1) := by decide +kernel
theorem dX10_rock_13 : decode cX10_rock 13 = .ok (.ireturn, 1) := by decide +kernel
theorem ce_X10_rock : CeV RX10 yX10_rock cX10_rock 9 (some .int) 5 := ⟨tb_1430, tb_1431, tb_11, tb_1432, rfl, by decide, by decide, by decide +kernel⟩
set_option maxHeartbeats 4000000 in
set_option maxRecDepth 20000 in
theorem F_X10_rock (l : Launch) (D : va_G) (A : Nat → Prop) (ad : Nat → Nat) (ns : List Nat) (I : MI) (L : ML) (G : MG) (a0 : Int32) (a1 : Int32) (a2 : Int32) (a3 : Int32) (a4 : Int32) (hJ : SGM ns G) (hI : ∀ n k, 1000 ≤ n → n ≠ 1000 ∨ (k ≠ 33 ∧ k ≠ 57) → I n k = 0) : Met l yX10_rock (wd yX10_rock cX10_rock 9 (some .int)) ({ frames := 3, cells := 0, slots := 0, locals := 66 }) (va_Pc [.ref (ad 1000), .int a0, .int a1, .int a2, .int a3, .int a4] (PM D A ad ns I L G)) (va_Qi (fun r u => u = (ad, ns, I, L, G) ∧ r = -1) (BM D A) A) 0 0 A := by
  refine m_ofW (by decide) (Nat.le_of_ble_eq_true rfl) ?_
  intro p e s m below meth c ls args hC hE hM hA hS hl
  obtain ⟨hx, hb, hml, hown, hts, hr, hlocks, hin⟩ := hC
  have km1 : (-1 : Int32).toInt = -1 := by decide
  have k0 : (0 : Int32).toInt = 0 := by decide
  have hl : lv_has ls 9 [(0, .ref (ad (1000))), (1, .int (a0)), (2, .int (a1)), (3, .int (a2)), (4, .int (a3)), (5, .int (a4))] := hl
  refine lv_aload_n hx hb dX10_rock_0 rfl (lv_at hl 0 rfl) ?_
  refine lv_iload_n hx hb dX10_rock_1 rfl (lv_at hl 1 rfl) ?_
  refine lv_iload_n hx hb dX10_rock_2 rfl (lv_at hl 2 rfl) ?_
  refine lv_iload_n hx hb dX10_rock_3 rfl (lv_at hl 3 rfl) ?_
  refine lv_iload hx hb dX10_rock_4 (lv_at hl 4 rfl) ?_
  refine m_calli (m_runV (1000) (As := [.int (a0), .int (a1), .int (a2), .int (a3)]) (rest := []) hx hb hml hown hts hE hM hS hA ce_X10_isArea tb_1433 (F_X10_isArea l D A ad ns I L G (a0) (a1) (a2) (a3) hJ hI) rfl rfl ⟨Nat.le_of_ble_eq_true rfl, Nat.le_of_ble_eq_true rfl⟩ hJ.1 rfl rfl (by decide) rfl hl.1 rfl (Nat.le_of_ble_eq_true rfl) dX10_rock_6 ⟨Nat.le_of_ble_eq_true rfl, Nat.le_of_ble_eq_true rfl⟩) hS (fun r1 u H locs hw hM hS => ?_)
  obtain ⟨rfl, rfl⟩ := hw
  have hM : Mem D A ad ns I L G H := hM
  refine lv_if_ne (tgt := 14) hx hb dX10_rock_9 (by decide) (fun c2 => ?_) (fun c2 => ?_)
  · exact absurd c2 (by decide)
  · have hc2 := c2
    have q2 := q_eq hc2
    refine lv_iconst (v := (-1)) hx hb dX10_rock_12 (by decide) ?_
    exact m_iret hx hb hr hlocks hM hS (Nat.le_of_ble_eq_true rfl) (Nat.le_of_ble_eq_true rfl) ⟨rfl, rfl⟩ dX10_rock_13
theorem dX10_sun_0 : decode cX10_sun 0 = .ok (.iload_n 3, 1) := by decide +kernel
theorem dX10_sun_1 : decode cX10_sun 1 = .ok (.iconst (-1), 1) := by decide +kernel
theorem dX10_sun_2 : decode cX10_sun 2 = .ok (.if_icmp .ne 12, 3) := by decide +kernel
theorem dX10_sun_5 : decode cX10_sun 5 = .ok (.iload 4, 2) := by decide +kernel
theorem dX10_sun_7 : decode cX10_sun 7 = .ok (.ifCond .ne 7, 3) := by decide +kernel
theorem dX10_sun_10 : decode cX10_sun 10 = .ok (.iconst 1, 1) := by decide +kernel
theorem dX10_sun_11 : decode cX10_sun 11 = .ok (.goto 4, 3) := by decide +kernel
theorem dX10_sun_14 : decode cX10_sun 14 = .ok (.iconst 0, 1) := by decide +kernel
theorem dX10_sun_15 : decode cX10_sun 15 = .ok (.istore 5, 2) := by decide +kernel
theorem dX10_sun_17 : decode cX10_sun 17 = .ok (.aload_n 0, 1) := by decide +kernel
theorem dX10_sun_18 : decode cX10_sun 18 = .ok (.invokevirtual 188, 3) := by decide +kernel
theorem dX10_sun_21 : decode cX10_sun 21 = .ok (.ifCond .eq 57, 3) := by decide +kernel
theorem dX10_sun_78 : decode cX10_sun 78 = .ok (.iconst 0, 1) := by decide +kernel
theorem dX10_sun_79 : decode cX10_sun 79 = .ok (.ireturn, 1) := by decide +kernel
theorem ce_X10_sun : CeV RX10 yX10_sun cX10_sun 6 (some .boolean) 4 := ⟨tb_1446, tb_1447, tb_11, tb_1448, rfl, by decide, by decide, by decide +kernel⟩
set_option maxHeartbeats 4000000 in
set_option maxRecDepth 20000 in
theorem F_X10_sun (l : Launch) (D : va_G) (A : Nat → Prop) (ad : Nat → Nat) (ns : List Nat) (I : MI) (L : ML) (G : MG) (a0 : Int32) (a1 : Int32) (a2 : Int32) (a3 : Int32) (hJ : SGM ns G) (hI : ∀ n k, 1000 ≤ n → n ≠ 1000 ∨ (k ≠ 33 ∧ k ≠ 57) → I n k = 0) : Met l yX10_sun (wd yX10_sun cX10_sun 6 (some .boolean)) ({ frames := 1, cells := 0, slots := 0, locals := 20 }) (va_Pc [.ref (ad 1000), .int a0, .int a1, .int a2, .int a3] (PM D A ad ns I L G)) (va_Qi (fun r u => u = (ad, ns, I, L, G) ∧ r = 0) (BM D A) A) 0 0 A := by
  refine m_ofW (by decide) (Nat.le_of_ble_eq_true rfl) ?_
  intro p e s m below meth c ls args hC hE hM hA hS hl
  obtain ⟨hx, hb, hml, hown, hts, hr, hlocks, hin⟩ := hC
  have km1 : (-1 : Int32).toInt = -1 := by decide
  have k0 : (0 : Int32).toInt = 0 := by decide
  have k1 : (1 : Int32).toInt = 1 := by decide
  have hl : lv_has ls 6 [(0, .ref (ad (1000))), (1, .int (a0)), (2, .int (a1)), (3, .int (a2)), (4, .int (a3))] := hl
  refine lv_iload_n hx hb dX10_sun_0 rfl (lv_at hl 3 rfl) ?_
  refine lv_iconst (v := (-1)) hx hb dX10_sun_1 (by decide) ?_
  refine lv_icmp_ne (tgt := 14) hx hb dX10_sun_2 (by decide) (fun c1 => ?_) (fun c1 => ?_)
  · have hc1 := c1
    have q1 := q_ne hc1
    refine lv_iconst (v := (0)) hx hb dX10_sun_14 (by decide) ?_
    refine lv_istore (lv' := [(5, .int (0)), (0, .ref (ad (1000))), (1, .int (a0)), (2, .int (a1)), (3, .int (a2)), (4, .int (a3))]) hx hb dX10_sun_15 hl (by decide) rfl (fun ls hl => ?_)
    refine lv_aload_n hx hb dX10_sun_17 rfl (lv_at hl 1 rfl) ?_
    refine m_calli (m_runV (1000) (As := []) (rest := []) hx hb hml hown hts hE hM hS hA ce_X10_isTown tb_1441 (C_X10_isTown l D A ad ns I L G hJ) rfl rfl ⟨Nat.le_of_ble_eq_true rfl, Nat.le_of_ble_eq_true rfl⟩ hJ.1 rfl rfl (by decide) rfl hl.1 rfl (Nat.le_of_ble_eq_true rfl) dX10_sun_18 ⟨Nat.le_of_ble_eq_true rfl, Nat.le_of_ble_eq_true rfl⟩) hS (fun r2 u H locs hw hM hS => ?_)
    obtain ⟨rfl, b_r2⟩ := hw
    have hM : Mem D A ad ns I L G H := hM
    obtain rfl : r2 = 0 := b_r2.z (by rw [hI 1001 0 (by decide) (by decide)]; decide)
    refine lv_if_eq (tgt := 78) hx hb dX10_sun_21 (by decide) (fun c3 => ?_) (fun c3 => ?_)
    · have hc3 := c3
      have q3 := q_eq hc3
      refine lv_iconst (v := (0)) hx hb dX10_sun_78 (by decide) ?_
      exact m_zret hx hb hr rfl hlocks hM hS (Nat.le_of_ble_eq_true rfl) (Nat.le_of_ble_eq_true rfl) ⟨rfl, rfl⟩ dX10_sun_79
    · exact absurd c3 (by decide)
  · have hc1 := c1
    have q1 := q_eq hc1
    refine lv_iload hx hb dX10_sun_5 (lv_at hl 4 rfl) ?_
    refine lv_if_ne (tgt := 14) hx hb dX10_sun_7 (by decide) (fun c4 => ?_) (fun c4 => ?_)
    · have hc4 := c4
      have q4 := q_ne hc4
      refine lv_iconst (v := (0)) hx hb dX10_sun_14 (by decide) ?_
      refine lv_istore (lv' := [(5, .int (0)), (0, .ref (ad (1000))), (1, .int (a0)), (2, .int (a1)), (3, .int (a2)), (4, .int (a3))]) hx hb dX10_sun_15 hl (by decide) rfl (fun ls hl => ?_)
      refine lv_aload_n hx hb dX10_sun_17 rfl (lv_at hl 1 rfl) ?_
      refine m_calli (m_runV (1000) (As := []) (rest := []) hx hb hml hown hts hE hM hS hA ce_X10_isTown tb_1441 (C_X10_isTown l D A ad ns I L G hJ) rfl rfl ⟨Nat.le_of_ble_eq_true rfl, Nat.le_of_ble_eq_true rfl⟩ hJ.1 rfl rfl (by decide) rfl hl.1 rfl (Nat.le_of_ble_eq_true rfl) dX10_sun_18 ⟨Nat.le_of_ble_eq_true rfl, Nat.le_of_ble_eq_true rfl⟩) hS (fun r5 u H locs hw hM hS => ?_)
      obtain ⟨rfl, b_r5⟩ := hw
      have hM : Mem D A ad ns I L G H := hM
      obtain rfl : r5 = 0 := b_r5.z (by rw [hI 1001 0 (by decide) (by decide)]; decide)
      refine lv_if_eq (tgt := 78) hx hb dX10_sun_21 (by decide) (fun c6 => ?_) (fun c6 => ?_)
      · have hc6 := c6
        have q6 := q_eq hc6
        refine lv_iconst (v := (0)) hx hb dX10_sun_78 (by decide) ?_
        exact m_zret hx hb hr rfl hlocks hM hS (Nat.le_of_ble_eq_true rfl) (Nat.le_of_ble_eq_true rfl) ⟨rfl, rfl⟩ dX10_sun_79
      · exact absurd c6 (by decide)
    · have hc4 := c4
      have q4 := q_eq hc4
      refine lv_iconst (v := (1)) hx hb dX10_sun_10 (by decide) ?_
      refine lv_goto (tgt := 15) hx hb dX10_sun_11 (by decide) ?_
      refine lv_istore (lv' := [(5, .int (1)), (0, .ref (ad (1000))), (1, .int (a0)), (2, .int (a1)), (3, .int (a2)), (4, .int (a3))]) hx hb dX10_sun_15 hl (by decide) rfl (fun ls hl => ?_)
      refine lv_aload_n hx hb dX10_sun_17 rfl (lv_at hl 1 rfl) ?_
      refine m_calli (m_runV (1000) (As := []) (rest := []) hx hb hml hown hts hE hM hS hA ce_X10_isTown tb_1441 (C_X10_isTown l D A ad ns I L G hJ) rfl rfl ⟨Nat.le_of_ble_eq_true rfl, Nat.le_of_ble_eq_true rfl⟩ hJ.1 rfl rfl (by decide) rfl hl.1 rfl (Nat.le_of_ble_eq_true rfl) dX10_sun_18 ⟨Nat.le_of_ble_eq_true rfl, Nat.le_of_ble_eq_true rfl⟩) hS (fun r7 u H locs hw hM hS => ?_)
      obtain ⟨rfl, b_r7⟩ := hw
      have hM : Mem D A ad ns I L G H := hM
      obtain rfl : r7 = 0 := b_r7.z (by rw [hI 1001 0 (by decide) (by decide)]; decide)
      refine lv_if_eq (tgt := 78) hx hb dX10_sun_21 (by decide) (fun c8 => ?_) (fun c8 => ?_)
      · have hc8 := c8
        have q8 := q_eq hc8
        refine lv_iconst (v := (0)) hx hb dX10_sun_78 (by decide) ?_
        exact m_zret hx hb hr rfl hlocks hM hS (Nat.le_of_ble_eq_true rfl) (Nat.le_of_ble_eq_true rfl) ⟨rfl, rfl⟩ dX10_sun_79
      · exact absurd c8 (by decide)
theorem dX10_mirror_0 : decode cX10_mirror 0 = .ok (.aload_n 0, 1) := by decide +kernel
theorem dX10_mirror_1 : decode cX10_mirror 1 = .ok (.getfield 7, 3) := by decide +kernel
theorem dX10_mirror_4 : decode cX10_mirror 4 = .ok (.bipush 8, 2) := by decide +kernel
theorem dX10_mirror_6 : decode cX10_mirror 6 = .ok (.iaload, 1) := by decide +kernel
theorem dX10_mirror_7 : decode cX10_mirror 7 = .ok (.istore 8, 2) := by decide +kernel
theorem dX10_mirror_9 : decode cX10_mirror 9 = .ok (.aload_n 0, 1) := by decide +kernel
theorem dX10_mirror_10 : decode cX10_mirror 10 = .ok (.iload_n 1, 1) := by decide +kernel
theorem dX10_mirror_11 : decode cX10_mirror 11 = .ok (.iload_n 2, 1) := by decide +kernel
theorem dX10_mirror_12 : decode cX10_mirror 12 = .ok (.invokevirtual 196, 3) := by decide +kernel
theorem dX10_mirror_15 : decode cX10_mirror 15 = .ok (.ifCond .eq 89, 3) := by decide +kernel
theorem dX10_mirror_104 : decode cX10_mirror 104 = .ok (.iconst (-1), 1) := by decide +kernel
theorem dX10_mirror_105 : decode cX10_mirror 105 = .ok (.ireturn, 1) := by decide +kernel
theorem ce_X10_mirror : CeV RX10 yX10_mirror cX10_mirror 9 (some .int) 7 := ⟨tb_1454, tb_1455, tb_11, tb_1456, rfl, by decide, by decide, by decide +kernel⟩
set_option maxHeartbeats 4000000 in
set_option maxRecDepth 20000 in
theorem F_X10_mirror (l : Launch) (D : va_G) (A : Nat → Prop) (ad : Nat → Nat) (ns : List Nat) (I : MI) (L : ML) (G : MG) (a0 : Int32) (a1 : Int32) (a2 : Int32) (a3 : Int32) (a4 : Int32) (a5 : Int32) (a6 : Int32) (hJ : SGM ns G) (hI : ∀ n k, 1000 ≤ n → n ≠ 1000 ∨ (k ≠ 33 ∧ k ≠ 57) → I n k = 0) : Met l yX10_mirror (wd yX10_mirror cX10_mirror 9 (some .int)) ({ frames := 2, cells := 0, slots := 0, locals := 42 }) (va_Pc [.ref (ad 1000), .int a0, .int a1, .int a2, .int a3, .int a4, .int a5, .int a6] (PM D A ad ns I L G)) (va_Qi (fun r u => u = (ad, ns, I, L, G) ∧ r = -1) (BM D A) A) 0 0 A := by
  refine m_ofW (by decide) (Nat.le_of_ble_eq_true rfl) ?_
  intro p e s m below meth c ls args hC hE hM hA hS hl
  obtain ⟨hx, hb, hml, hown, hts, hr, hlocks, hin⟩ := hC
  have km1 : (-1 : Int32).toInt = -1 := by decide
  have k0 : (0 : Int32).toInt = 0 := by decide
  have k8 : (8 : Int32).toInt = 8 := by decide
  have hl : lv_has ls 9 [(0, .ref (ad (1000))), (1, .int (a0)), (2, .int (a1)), (3, .int (a2)), (4, .int (a3)), (5, .int (a4)), (6, .int (a5)), (7, .int (a6))] := hl
  refine lv_aload_n hx hb dX10_mirror_0 rfl (lv_at hl 0 rfl) ?_
  refine m_getr (1000) 1 (1001) hx hb hts hown hE oc10 hM hJ.1 rfl (by decide) rfl (hJ.2 1 (by decide)).2 (by decide) tb_1178 dX10_mirror_1 ?_
  refine lv_bipush (v := (8)) hx hb dX10_mirror_4 (by decide) ?_
  refine m_iald (1001) hx hb hE hM (hJ.2 1 (by decide)).1 rfl (vp_in_iff.mpr (by decide)) dX10_mirror_6 ?_
  rw [show (8 : Int32).toNatClampNeg = 8 from rfl]
  refine lv_istore (lv' := [(8, .int (I (1001) 8)), (0, .ref (ad (1000))), (1, .int (a0)), (2, .int (a1)), (3, .int (a2)), (4, .int (a3)), (5, .int (a4)), (6, .int (a5)), (7, .int (a6))]) hx hb dX10_mirror_7 hl (by decide) rfl (fun ls hl => ?_)
  refine lv_aload_n hx hb dX10_mirror_9 rfl (lv_at hl 1 rfl) ?_
  refine lv_iload_n hx hb dX10_mirror_10 rfl (lv_at hl 2 rfl) ?_
  refine lv_iload_n hx hb dX10_mirror_11 rfl (lv_at hl 3 rfl) ?_
  refine m_calli (m_runV (1000) (As := [.int (a0), .int (a1)]) (rest := []) hx hb hml hown hts hE hM hS hA ce_X10_isCell tb_1437 (F_X10_isCell l D A ad ns I L G (a0) (a1) hJ hI) rfl rfl ⟨Nat.le_of_ble_eq_true rfl, Nat.le_of_ble_eq_true rfl⟩ hJ.1 rfl rfl (by decide) rfl hl.1 rfl (Nat.le_of_ble_eq_true rfl) dX10_mirror_12 ⟨Nat.le_of_ble_eq_true rfl, Nat.le_of_ble_eq_true rfl⟩) hS (fun r1 u H locs hw hM hS => ?_)
  obtain ⟨rfl, rfl⟩ := hw
  have hM : Mem D A ad ns I L G H := hM
  refine lv_if_eq (tgt := 104) hx hb dX10_mirror_15 (by decide) (fun c2 => ?_) (fun c2 => ?_)
  · have hc2 := c2
    have q2 := q_eq hc2
    refine lv_iconst (v := (-1)) hx hb dX10_mirror_104 (by decide) ?_
    exact m_iret hx hb hr hlocks hM hS (Nat.le_of_ble_eq_true rfl) (Nat.le_of_ble_eq_true rfl) ⟨rfl, rfl⟩ dX10_mirror_105
  · exact absurd c2 (by decide)
theorem dX10_sets_0 : decode cX10_sets 0 = .ok (.aload_n 0, 1) := by decide +kernel
theorem dX10_sets_1 : decode cX10_sets 1 = .ok (.iload_n 1, 1) := by decide +kernel
theorem dX10_sets_2 : decode cX10_sets 2 = .ok (.invokevirtual 220, 3) := by decide +kernel
theorem dX10_sets_5 : decode cX10_sets 5 = .ok (.ifCond .eq 68, 3) := by decide +kernel
theorem dX10_sets_73 : decode cX10_sets 73 = .ok (.bipush (-2), 2) := by decide +kernel
theorem dX10_sets_75 : decode cX10_sets 75 = .ok (.ireturn, 1) := by decide +kernel
theorem ce_X10_sets : CeV RX10 yX10_sets cX10_sets 5 (some .int) 3 := ⟨tb_1459, tb_1460, tb_11, tb_1461, rfl, by decide, by decide, by decide +kernel⟩
set_option maxHeartbeats 4000000 in
set_option maxRecDepth 20000 in
theorem F_X10_sets (l : Launch) (D : va_G) (A : Nat → Prop) (ad : Nat → Nat) (ns : List Nat) (I : MI) (L : ML) (G : MG) (a0 : Int32) (a1 : Int32) (a2 : Int32) (hJ : SGM ns G) (hI : ∀ n k, 1000 ≤ n → n ≠ 1000 ∨ (k ≠ 33 ∧ k ≠ 57) → I n k = 0) : Met l yX10_sets (wd yX10_sets cX10_sets 5 (some .int)) ({ frames := 2, cells := 0, slots := 0, locals := 41 }) (va_Pc [.ref (ad 1000), .int a0, .int a1, .int a2] (PM D A ad ns I L G)) (va_Qi (fun r u => u = (ad, ns, I, L, G) ∧ r = -2) (BM D A) A) 0 0 A := by
  refine m_ofW (by decide) (Nat.le_of_ble_eq_true rfl) ?_
  intro p e s m below meth c ls args hC hE hM hA hS hl
  obtain ⟨hx, hb, hml, hown, hts, hr, hlocks, hin⟩ := hC
  have km2 : (-2 : Int32).toInt = -2 := by decide
  have k0 : (0 : Int32).toInt = 0 := by decide
  have hl : lv_has ls 5 [(0, .ref (ad (1000))), (1, .int (a0)), (2, .int (a1)), (3, .int (a2))] := hl
  refine lv_aload_n hx hb dX10_sets_0 rfl (lv_at hl 0 rfl) ?_
  refine lv_iload_n hx hb dX10_sets_1 rfl (lv_at hl 1 rfl) ?_
  refine m_calli (m_runV (1000) (As := [.int (a0)]) (rest := []) hx hb hml hown hts hE hM hS hA ce_X10_isMirror tb_1462 (F_X10_isMirror l D A ad ns I L G (a0) hJ hI) rfl rfl ⟨Nat.le_of_ble_eq_true rfl, Nat.le_of_ble_eq_true rfl⟩ hJ.1 rfl rfl (by decide) rfl hl.1 rfl (Nat.le_of_ble_eq_true rfl) dX10_sets_2 ⟨Nat.le_of_ble_eq_true rfl, Nat.le_of_ble_eq_true rfl⟩) hS (fun r1 u H locs hw hM hS => ?_)
  obtain ⟨rfl, rfl⟩ := hw
  have hM : Mem D A ad ns I L G H := hM
  refine lv_if_eq (tgt := 73) hx hb dX10_sets_5 (by decide) (fun c2 => ?_) (fun c2 => ?_)
  · have hc2 := c2
    have q2 := q_eq hc2
    refine lv_bipush (v := (-2)) hx hb dX10_sets_73 (by decide) ?_
    exact m_iret hx hb hr hlocks hM hS (Nat.le_of_ble_eq_true rfl) (Nat.le_of_ble_eq_true rfl) ⟨rfl, rfl⟩ dX10_sets_75
  · exact absurd c2 (by decide)
theorem dX10_yard_0 : decode cX10_yard 0 = .ok (.aload_n 0, 1) := by decide +kernel
theorem dX10_yard_1 : decode cX10_yard 1 = .ok (.getfield 7, 3) := by decide +kernel
theorem dX10_yard_4 : decode cX10_yard 4 = .ok (.bipush 9, 2) := by decide +kernel
theorem dX10_yard_6 : decode cX10_yard 6 = .ok (.iaload, 1) := by decide +kernel
theorem dX10_yard_7 : decode cX10_yard 7 = .ok (.istore 7, 2) := by decide +kernel
theorem dX10_yard_9 : decode cX10_yard 9 = .ok (.aload_n 0, 1) := by decide +kernel
theorem dX10_yard_10 : decode cX10_yard 10 = .ok (.iload_n 1, 1) := by decide +kernel
theorem dX10_yard_11 : decode cX10_yard 11 = .ok (.iload_n 2, 1) := by decide +kernel
theorem dX10_yard_12 : decode cX10_yard 12 = .ok (.iload_n 3, 1) := by decide +kernel
theorem dX10_yard_13 : decode cX10_yard 13 = .ok (.iload 4, 2) := by decide +kernel
theorem dX10_yard_15 : decode cX10_yard 15 = .ok (.invokevirtual 206, 3) := by decide +kernel
theorem dX10_yard_18 : decode cX10_yard 18 = .ok (.ifCond .eq 36, 3) := by decide +kernel
theorem dX10_yard_54 : decode cX10_yard 54 = .ok (.iconst (-1), 1) := by decide +kernel
theorem dX10_yard_55 : decode cX10_yard 55 = .ok (.ireturn, 1) := by decide +kernel
theorem ce_X10_yard : CeV RX10 yX10_yard cX10_yard 8 (some .int) 6 := ⟨tb_1469, tb_1470, tb_11, tb_1471, rfl, by decide, by decide, by decide +kernel⟩
set_option maxHeartbeats 4000000 in
set_option maxRecDepth 20000 in
theorem F_X10_yard (l : Launch) (D : va_G) (A : Nat → Prop) (ad : Nat → Nat) (ns : List Nat) (I : MI) (L : ML) (G : MG) (a0 : Int32) (a1 : Int32) (a2 : Int32) (a3 : Int32) (a4 : Int32) (a5 : Int32) (hJ : SGM ns G) (hI : ∀ n k, 1000 ≤ n → n ≠ 1000 ∨ (k ≠ 33 ∧ k ≠ 57) → I n k = 0) : Met l yX10_yard (wd yX10_yard cX10_yard 8 (some .int)) ({ frames := 3, cells := 0, slots := 0, locals := 66 }) (va_Pc [.ref (ad 1000), .int a0, .int a1, .int a2, .int a3, .int a4, .int a5] (PM D A ad ns I L G)) (va_Qi (fun r u => u = (ad, ns, I, L, G) ∧ r = -1) (BM D A) A) 0 0 A := by
  refine m_ofW (by decide) (Nat.le_of_ble_eq_true rfl) ?_
  intro p e s m below meth c ls args hC hE hM hA hS hl
  obtain ⟨hx, hb, hml, hown, hts, hr, hlocks, hin⟩ := hC
  have km1 : (-1 : Int32).toInt = -1 := by decide
  have k0 : (0 : Int32).toInt = 0 := by decide
  have k9 : (9 : Int32).toInt = 9 := by decide
  have hl : lv_has ls 8 [(0, .ref (ad (1000))), (1, .int (a0)), (2, .int (a1)), (3, .int (a2)), (4, .int (a3)), (5, .int (a4)), (6, .int (a5))] := hl
  refine lv_aload_n hx hb dX10_yard_0 rfl (lv_at hl 0 rfl) ?_
  refine m_getr (1000) 1 (1001) hx hb hts hown hE oc10 hM hJ.1 rfl (by decide) rfl (hJ.2 1 (by decide)).2 (by decide) tb_1178 dX10_yard_1 ?_
  refine lv_bipush (v := (9)) hx hb dX10_yard_4 (by decide) ?_
  refine m_iald (1001) hx hb hE hM (hJ.2 1 (by decide)).1 rfl (vp_in_iff.mpr (by decide)) dX10_yard_6 ?_
  rw [show (9 : Int32).toNatClampNeg = 9 from rfl]
  refine lv_istore (lv' := [(7, .int (I (1001) 9)), (0, .ref (ad (1000))), (1, .int (a0)), (2, .int (a1)), (3, .int (a2)), (4, .int (a3)), (5, .int (a4)), (6, .int (a5))]) hx hb dX10_yard_7 hl (by decide) rfl (fun ls hl => ?_)
  refine lv_aload_n hx hb dX10_yard_9 rfl (lv_at hl 1 rfl) ?_
  refine lv_iload_n hx hb dX10_yard_10 rfl (lv_at hl 2 rfl) ?_
  refine lv_iload_n hx hb dX10_yard_11 rfl (lv_at hl 3 rfl) ?_
  refine lv_iload_n hx hb dX10_yard_12 rfl (lv_at hl 4 rfl) ?_
  refine lv_iload hx hb dX10_yard_13 (lv_at hl 5 rfl) ?_
  refine m_calli (m_runV (1000) (As := [.int (a0), .int (a1), .int (a2), .int (a3)]) (rest := []) hx hb hml hown hts hE hM hS hA ce_X10_isArea tb_1433 (F_X10_isArea l D A ad ns I L G (a0) (a1) (a2) (a3) hJ hI) rfl rfl ⟨Nat.le_of_ble_eq_true rfl, Nat.le_of_ble_eq_true rfl⟩ hJ.1 rfl rfl (by decide) rfl hl.1 rfl (Nat.le_of_ble_eq_true rfl) dX10_yard_15 ⟨Nat.le_of_ble_eq_true rfl, Nat.le_of_ble_eq_true rfl⟩) hS (fun r1 u H locs hw hM hS => ?_)
  obtain ⟨rfl, rfl⟩ := hw
  have hM : Mem D A ad ns I L G H := hM
  refine lv_if_eq (tgt := 54) hx hb dX10_yard_18 (by decide) (fun c2 => ?_) (fun c2 => ?_)
  · have hc2 := c2
    have q2 := q_eq hc2
    refine lv_iconst (v := (-1)) hx hb dX10_yard_54 (by decide) ?_
    exact m_iret hx hb hr hlocks hM hS (Nat.le_of_ble_eq_true rfl) (Nat.le_of_ble_eq_true rfl) ⟨rfl, rfl⟩ dX10_yard_55
  · exact absurd c2 (by decide)
theorem dX10_eyes_0 : decode cX10_eyes 0 = .ok (.aload_n 0, 1) := by decide +kernel
theorem dX10_eyes_1 : decode cX10_eyes 1 = .ok (.iload_n 1, 1) := by decide +kernel
theorem dX10_eyes_2 : decode cX10_eyes 2 = .ok (.iload_n 2, 1) := by decide +kernel
theorem dX10_eyes_3 : decode cX10_eyes 3 = .ok (.invokevirtual 196, 3) := by decide +kernel
theorem dX10_eyes_6 : decode cX10_eyes 6 = .ok (.ifCond .eq 17, 3) := by decide +kernel
theorem dX10_eyes_23 : decode cX10_eyes 23 = .ok (.bipush (-2), 2) := by decide +kernel
theorem dX10_eyes_25 : decode cX10_eyes 25 = .ok (.ireturn, 1) := by decide +kernel
theorem ce_X10_eyes : CeV RX10 yX10_eyes cX10_eyes 5 (some .int) 3 := ⟨tb_1474, tb_1475, tb_11, tb_1476, rfl, by decide, by decide, by decide +kernel⟩
set_option maxHeartbeats 4000000 in
set_option maxRecDepth 20000 in
theorem F_X10_eyes (l : Launch) (D : va_G) (A : Nat → Prop) (ad : Nat → Nat) (ns : List Nat) (I : MI) (L : ML) (G : MG) (a0 : Int32) (a1 : Int32) (a2 : Int32) (hJ : SGM ns G) (hI : ∀ n k, 1000 ≤ n → n ≠ 1000 ∨ (k ≠ 33 ∧ k ≠ 57) → I n k = 0) : Met l yX10_eyes (wd yX10_eyes cX10_eyes 5 (some .int)) ({ frames := 2, cells := 0, slots := 0, locals := 42 }) (va_Pc [.ref (ad 1000), .int a0, .int a1, .int a2] (PM D A ad ns I L G)) (va_Qi (fun r u => u = (ad, ns, I, L, G) ∧ r = -2) (BM D A) A) 0 0 A := by
  refine m_ofW (by decide) (Nat.le_of_ble_eq_true rfl) ?_
  intro p e s m below meth c ls args hC hE hM hA hS hl
  obtain ⟨hx, hb, hml, hown, hts, hr, hlocks, hin⟩ := hC
  have km2 : (-2 : Int32).toInt = -2 := by decide
  have k0 : (0 : Int32).toInt = 0 := by decide
  have hl : lv_has ls 5 [(0, .ref (ad (1000))), (1, .int (a0)), (2, .int (a1)), (3, .int (a2))] := hl
  refine lv_aload_n hx hb dX10_eyes_0 rfl (lv_at hl 0 rfl) ?_
  refine lv_iload_n hx hb dX10_eyes_1 rfl (lv_at hl 1 rfl) ?_
  refine lv_iload_n hx hb dX10_eyes_2 rfl (lv_at hl 2 rfl) ?_
  refine m_calli (m_runV (1000) (As := [.int (a0), .int (a1)]) (rest := []) hx hb hml hown hts hE hM hS hA ce_X10_isCell tb_1437 (F_X10_isCell l D A ad ns I L G (a0) (a1) hJ hI) rfl rfl ⟨Nat.le_of_ble_eq_true rfl, Nat.le_of_ble_eq_true rfl⟩ hJ.1 rfl rfl (by decide) rfl hl.1 rfl (Nat.le_of_ble_eq_true rfl) dX10_eyes_3 ⟨Nat.le_of_ble_eq_true rfl, Nat.le_of_ble_eq_true rfl⟩) hS (fun r1 u H locs hw hM hS => ?_)
  obtain ⟨rfl, rfl⟩ := hw
  have hM : Mem D A ad ns I L G H := hM
  refine lv_if_eq (tgt := 23) hx hb dX10_eyes_6 (by decide) (fun c2 => ?_) (fun c2 => ?_)
  · have hc2 := c2
    have q2 := q_eq hc2
    refine lv_bipush (v := (-2)) hx hb dX10_eyes_23 (by decide) ?_
    exact m_iret hx hb hr hlocks hM hS (Nat.le_of_ble_eq_true rfl) (Nat.le_of_ble_eq_true rfl) ⟨rfl, rfl⟩ dX10_eyes_25
  · exact absurd c2 (by decide)
theorem dX10_month_0 : decode cX10_month 0 = .ok (.aload_n 0, 1) := by decide +kernel
theorem dX10_month_1 : decode cX10_month 1 = .ok (.invokevirtual 188, 3) := by decide +kernel
theorem dX10_month_4 : decode cX10_month 4 = .ok (.ifCond .eq 15, 3) := by decide +kernel
theorem dX10_month_19 : decode cX10_month 19 = .ok (.iconst (-1), 1) := by decide +kernel
theorem dX10_month_20 : decode cX10_month 20 = .ok (.ireturn, 1) := by decide +kernel
theorem ce_X10_month : CeV RX10 yX10_month cX10_month 3 (some .int) 1 := ⟨tb_1478, tb_1479, tb_11, tb_1480, rfl, by decide, by decide, by decide +kernel⟩
set_option maxHeartbeats 4000000 in
set_option maxRecDepth 20000 in
theorem F_X10_month (l : Launch) (D : va_G) (A : Nat → Prop) (ad : Nat → Nat) (ns : List Nat) (I : MI) (L : ML) (G : MG) (a0 : Int32) (hJ : SGM ns G) (hI : ∀ n k, 1000 ≤ n → n ≠ 1000 ∨ (k ≠ 33 ∧ k ≠ 57) → I n k = 0) : Met l yX10_month (wd yX10_month cX10_month 3 (some .int)) ({ frames := 1, cells := 0, slots := 0, locals := 20 }) (va_Pc [.ref (ad 1000), .int a0] (PM D A ad ns I L G)) (va_Qi (fun r u => u = (ad, ns, I, L, G) ∧ r = -1) (BM D A) A) 0 0 A := by
  refine m_ofW (by decide) (Nat.le_of_ble_eq_true rfl) ?_
  intro p e s m below meth c ls args hC hE hM hA hS hl
  obtain ⟨hx, hb, hml, hown, hts, hr, hlocks, hin⟩ := hC
  have km1 : (-1 : Int32).toInt = -1 := by decide
  have k0 : (0 : Int32).toInt = 0 := by decide
  have hl : lv_has ls 3 [(0, .ref (ad (1000))), (1, .int (a0))] := hl
  refine lv_aload_n hx hb dX10_month_0 rfl (lv_at hl 0 rfl) ?_
  refine m_calli (m_runV (1000) (As := []) (rest := []) hx hb hml hown hts hE hM hS hA ce_X10_isTown tb_1441 (C_X10_isTown l D A ad ns I L G hJ) rfl rfl ⟨Nat.le_of_ble_eq_true rfl, Nat.le_of_ble_eq_true rfl⟩ hJ.1 rfl rfl (by decide) rfl hl.1 rfl (Nat.le_of_ble_eq_true rfl) dX10_month_1 ⟨Nat.le_of_ble_eq_true rfl, Nat.le_of_ble_eq_true rfl⟩) hS (fun r1 u H locs hw hM hS => ?_)
  obtain ⟨rfl, b_r1⟩ := hw
  have hM : Mem D A ad ns I L G H := hM
  obtain rfl : r1 = 0 := b_r1.z (by rw [hI 1001 0 (by decide) (by decide)]; decide)
  refine lv_if_eq (tgt := 19) hx hb dX10_month_4 (by decide) (fun c2 => ?_) (fun c2 => ?_)
  · have hc2 := c2
    have q2 := q_eq hc2
    refine lv_iconst (v := (-1)) hx hb dX10_month_19 (by decide) ?_
    exact m_iret hx hb hr hlocks hM hS (Nat.le_of_ble_eq_true rfl) (Nat.le_of_ble_eq_true rfl) ⟨rfl, rfl⟩ dX10_month_20
  · exact absurd c2 (by decide)
theorem dX10_falls_0 : decode cX10_falls 0 = .ok (.aload_n 0, 1) := by decide +kernel
theorem dX10_falls_1 : decode cX10_falls 1 = .ok (.invokevirtual 188, 3) := by decide +kernel
theorem dX10_falls_4 : decode cX10_falls 4 = .ok (.ifCond .eq 15, 3) := by decide +kernel
theorem dX10_falls_19 : decode cX10_falls 19 = .ok (.iconst (-1), 1) := by decide +kernel
theorem dX10_falls_20 : decode cX10_falls 20 = .ok (.ireturn, 1) := by decide +kernel
theorem ce_X10_falls : CeV RX10 yX10_falls cX10_falls 3 (some .int) 1 := ⟨tb_1482, tb_1483, tb_11, tb_1484, rfl, by decide, by decide, by decide +kernel⟩
set_option maxHeartbeats 4000000 in
set_option maxRecDepth 20000 in
theorem F_X10_falls (l : Launch) (D : va_G) (A : Nat → Prop) (ad : Nat → Nat) (ns : List Nat) (I : MI) (L : ML) (G : MG) (a0 : Int32) (hJ : SGM ns G) (hI : ∀ n k, 1000 ≤ n → n ≠ 1000 ∨ (k ≠ 33 ∧ k ≠ 57) → I n k = 0) : Met l yX10_falls (wd yX10_falls cX10_falls 3 (some .int)) ({ frames := 1, cells := 0, slots := 0, locals := 20 }) (va_Pc [.ref (ad 1000), .int a0] (PM D A ad ns I L G)) (va_Qi (fun r u => u = (ad, ns, I, L, G) ∧ r = -1) (BM D A) A) 0 0 A := by
  refine m_ofW (by decide) (Nat.le_of_ble_eq_true rfl) ?_
  intro p e s m below meth c ls args hC hE hM hA hS hl
  obtain ⟨hx, hb, hml, hown, hts, hr, hlocks, hin⟩ := hC
  have km1 : (-1 : Int32).toInt = -1 := by decide
  have k0 : (0 : Int32).toInt = 0 := by decide
  have hl : lv_has ls 3 [(0, .ref (ad (1000))), (1, .int (a0))] := hl
  refine lv_aload_n hx hb dX10_falls_0 rfl (lv_at hl 0 rfl) ?_
  refine m_calli (m_runV (1000) (As := []) (rest := []) hx hb hml hown hts hE hM hS hA ce_X10_isTown tb_1441 (C_X10_isTown l D A ad ns I L G hJ) rfl rfl ⟨Nat.le_of_ble_eq_true rfl, Nat.le_of_ble_eq_true rfl⟩ hJ.1 rfl rfl (by decide) rfl hl.1 rfl (Nat.le_of_ble_eq_true rfl) dX10_falls_1 ⟨Nat.le_of_ble_eq_true rfl, Nat.le_of_ble_eq_true rfl⟩) hS (fun r1 u H locs hw hM hS => ?_)
  obtain ⟨rfl, b_r1⟩ := hw
  have hM : Mem D A ad ns I L G H := hM
  obtain rfl : r1 = 0 := b_r1.z (by rw [hI 1001 0 (by decide) (by decide)]; decide)
  refine lv_if_eq (tgt := 19) hx hb dX10_falls_4 (by decide) (fun c2 => ?_) (fun c2 => ?_)
  · have hc2 := c2
    have q2 := q_eq hc2
    refine lv_iconst (v := (-1)) hx hb dX10_falls_19 (by decide) ?_
    exact m_iret hx hb hr hlocks hM hS (Nat.le_of_ble_eq_true rfl) (Nat.le_of_ble_eq_true rfl) ⟨rfl, rfl⟩ dX10_falls_20
  · exact absurd c2 (by decide)
theorem dX10_days_0 : decode cX10_days 0 = .ok (.aload_n 0, 1) := by decide +kernel
theorem dX10_days_1 : decode cX10_days 1 = .ok (.iload_n 1, 1) := by decide +kernel
theorem dX10_days_2 : decode cX10_days 2 = .ok (.invokevirtual 458, 3) := by decide +kernel
theorem dX10_days_5 : decode cX10_days 5 = .ok (.ifCond .eq 30, 3) := by decide +kernel
theorem dX10_days_35 : decode cX10_days 35 = .ok (.iconst (-1), 1) := by decide +kernel
theorem dX10_days_36 : decode cX10_days 36 = .ok (.ireturn, 1) := by decide +kernel
theorem ce_X10_days : CeV RX10 yX10_days cX10_days 4 (some .int) 2 := ⟨tb_1605, tb_1606, tb_11, tb_1607, rfl, by decide, by decide, by decide +kernel⟩
set_option maxHeartbeats 4000000 in
set_option maxRecDepth 20000 in
theorem F_X10_days (l : Launch) (D : va_G) (A : Nat → Prop) (ad : Nat → Nat) (ns : List Nat) (I : MI) (L : ML) (G : MG) (a0 : Int32) (a1 : Int32) (hJ : SGM ns G) (hI : ∀ n k, 1000 ≤ n → n ≠ 1000 ∨ (k ≠ 33 ∧ k ≠ 57) → I n k = 0) : Met l yX10_days (wd yX10_days cX10_days 4 (some .int)) ({ frames := 2, cells := 0, slots := 0, locals := 41 }) (va_Pc [.ref (ad 1000), .int a0, .int a1] (PM D A ad ns I L G)) (va_Qi (fun r u => u = (ad, ns, I, L, G) ∧ r = -1) (BM D A) A) 0 0 A := by
  refine m_ofW (by decide) (Nat.le_of_ble_eq_true rfl) ?_
  intro p e s m below meth c ls args hC hE hM hA hS hl
  obtain ⟨hx, hb, hml, hown, hts, hr, hlocks, hin⟩ := hC
  have km1 : (-1 : Int32).toInt = -1 := by decide
  have k0 : (0 : Int32).toInt = 0 := by decide
  have hl : lv_has ls 4 [(0, .ref (ad (1000))), (1, .int (a0)), (2, .int (a1))] := hl
  refine lv_aload_n hx hb dX10_days_0 rfl (lv_at hl 0 rfl) ?_
  refine lv_iload_n hx hb dX10_days_1 rfl (lv_at hl 1 rfl) ?_
  refine m_calli (m_runV (1000) (As := [.int (a0)]) (rest := []) hx hb hml hown hts hE hM hS hA ce_X10_isLaw tb_1608 (F_X10_isLaw l D A ad ns I L G (a0) hJ hI) rfl rfl ⟨Nat.le_of_ble_eq_true rfl, Nat.le_of_ble_eq_true rfl⟩ hJ.1 rfl rfl (by decide) rfl hl.1 rfl (Nat.le_of_ble_eq_true rfl) dX10_days_2 ⟨Nat.le_of_ble_eq_true rfl, Nat.le_of_ble_eq_true rfl⟩) hS (fun r1 u H locs hw hM hS => ?_)
  obtain ⟨rfl, rfl⟩ := hw
  have hM : Mem D A ad ns I L G H := hM
  refine lv_if_eq (tgt := 35) hx hb dX10_days_5 (by decide) (fun c2 => ?_) (fun c2 => ?_)
  · have hc2 := c2
    have q2 := q_eq hc2
    refine lv_iconst (v := (-1)) hx hb dX10_days_35 (by decide) ?_
    exact m_iret hx hb hr hlocks hM hS (Nat.le_of_ble_eq_true rfl) (Nat.le_of_ble_eq_true rfl) ⟨rfl, rfl⟩ dX10_days_36
  · exact absurd c2 (by decide)
theorem dX10_mirrors_0 : decode cX10_mirrors 0 = .ok (.aload_n 0, 1) := by decide +kernel
theorem dX10_mirrors_1 : decode cX10_mirrors 1 = .ok (.iload_n 1, 1) := by decide +kernel
theorem dX10_mirrors_2 : decode cX10_mirrors 2 = .ok (.invokevirtual 220, 3) := by decide +kernel
theorem dX10_mirrors_5 : decode cX10_mirrors 5 = .ok (.ifCond .ne 6, 3) := by decide +kernel
theorem dX10_mirrors_8 : decode cX10_mirrors 8 = .ok (.bipush (-2), 2) := by decide +kernel
theorem dX10_mirrors_10 : decode cX10_mirrors 10 = .ok (.ireturn, 1) := by decide +kernel
theorem ce_X10_mirrors : CeV RX10 yX10_mirrors cX10_mirrors 3 (some .int) 2 := ⟨tb_1679, tb_1680, tb_11, tb_1681, rfl, by decide, by decide, by decide +kernel⟩
set_option maxHeartbeats 4000000 in
set_option maxRecDepth 20000 in
theorem F_X10_mirrors (l : Launch) (D : va_G) (A : Nat → Prop) (ad : Nat → Nat) (ns : List Nat) (I : MI) (L : ML) (G : MG) (a0 : Int32) (a1 : Int32) (hJ : SGM ns G) (hI : ∀ n k, 1000 ≤ n → n ≠ 1000 ∨ (k ≠ 33 ∧ k ≠ 57) → I n k = 0) : Met l yX10_mirrors (wd yX10_mirrors cX10_mirrors 3 (some .int)) ({ frames := 2, cells := 0, slots := 0, locals := 41 }) (va_Pc [.ref (ad 1000), .int a0, .int a1] (PM D A ad ns I L G)) (va_Qi (fun r u => u = (ad, ns, I, L, G) ∧ r = -2) (BM D A) A) 0 0 A := by
  refine m_ofW (by decide) (Nat.le_of_ble_eq_true rfl) ?_
  intro p e s m below meth c ls args hC hE hM hA hS hl
  obtain ⟨hx, hb, hml, hown, hts, hr, hlocks, hin⟩ := hC
  have km2 : (-2 : Int32).toInt = -2 := by decide
  have k0 : (0 : Int32).toInt = 0 := by decide
  have hl : lv_has ls 3 [(0, .ref (ad (1000))), (1, .int (a0)), (2, .int (a1))] := hl
  refine lv_aload_n hx hb dX10_mirrors_0 rfl (lv_at hl 0 rfl) ?_
  refine lv_iload_n hx hb dX10_mirrors_1 rfl (lv_at hl 1 rfl) ?_
  refine m_calli (m_runV (1000) (As := [.int (a0)]) (rest := []) hx hb hml hown hts hE hM hS hA ce_X10_isMirror tb_1462 (F_X10_isMirror l D A ad ns I L G (a0) hJ hI) rfl rfl ⟨Nat.le_of_ble_eq_true rfl, Nat.le_of_ble_eq_true rfl⟩ hJ.1 rfl rfl (by decide) rfl hl.1 rfl (Nat.le_of_ble_eq_true rfl) dX10_mirrors_2 ⟨Nat.le_of_ble_eq_true rfl, Nat.le_of_ble_eq_true rfl⟩) hS (fun r1 u H locs hw hM hS => ?_)
  obtain ⟨rfl, rfl⟩ := hw
  have hM : Mem D A ad ns I L G H := hM
  refine lv_if_ne (tgt := 11) hx hb dX10_mirrors_5 (by decide) (fun c2 => ?_) (fun c2 => ?_)
  · exact absurd c2 (by decide)
  · have hc2 := c2
    have q2 := q_eq hc2
    refine lv_bipush (v := (-2)) hx hb dX10_mirrors_8 (by decide) ?_
    exact m_iret hx hb hr hlocks hM hS (Nat.le_of_ble_eq_true rfl) (Nat.le_of_ble_eq_true rfl) ⟨rfl, rfl⟩ dX10_mirrors_10
theorem dX10_yards_0 : decode cX10_yards 0 = .ok (.aload_n 0, 1) := by decide +kernel
theorem dX10_yards_1 : decode cX10_yards 1 = .ok (.iload_n 1, 1) := by decide +kernel
theorem dX10_yards_2 : decode cX10_yards 2 = .ok (.invokevirtual 469, 3) := by decide +kernel
theorem dX10_yards_5 : decode cX10_yards 5 = .ok (.ifCond .ne 5, 3) := by decide +kernel
theorem dX10_yards_8 : decode cX10_yards 8 = .ok (.iconst (-1), 1) := by decide +kernel
theorem dX10_yards_9 : decode cX10_yards 9 = .ok (.ireturn, 1) := by decide +kernel
theorem ce_X10_yards : CeV RX10 yX10_yards cX10_yards 3 (some .int) 2 := ⟨tb_1683, tb_1684, tb_11, tb_1685, rfl, by decide, by decide, by decide +kernel⟩
set_option maxHeartbeats 4000000 in
set_option maxRecDepth 20000 in
theorem F_X10_yards (l : Launch) (D : va_G) (A : Nat → Prop) (ad : Nat → Nat) (ns : List Nat) (I : MI) (L : ML) (G : MG) (a0 : Int32) (a1 : Int32) (hJ : SGM ns G) (hI : ∀ n k, 1000 ≤ n → n ≠ 1000 ∨ (k ≠ 33 ∧ k ≠ 57) → I n k = 0) : Met l yX10_yards (wd yX10_yards cX10_yards 3 (some .int)) ({ frames := 2, cells := 0, slots := 0, locals := 41 }) (va_Pc [.ref (ad 1000), .int a0, .int a1] (PM D A ad ns I L G)) (va_Qi (fun r u => u = (ad, ns, I, L, G) ∧ r = -1) (BM D A) A) 0 0 A := by
  refine m_ofW (by decide) (Nat.le_of_ble_eq_true rfl) ?_
  intro p e s m below meth c ls args hC hE hM hA hS hl
  obtain ⟨hx, hb, hml, hown, hts, hr, hlocks, hin⟩ := hC
  have km1 : (-1 : Int32).toInt = -1 := by decide
  have k0 : (0 : Int32).toInt = 0 := by decide
  have hl : lv_has ls 3 [(0, .ref (ad (1000))), (1, .int (a0)), (2, .int (a1))] := hl
  refine lv_aload_n hx hb dX10_yards_0 rfl (lv_at hl 0 rfl) ?_
  refine lv_iload_n hx hb dX10_yards_1 rfl (lv_at hl 1 rfl) ?_
  refine m_calli (m_runV (1000) (As := [.int (a0)]) (rest := []) hx hb hml hown hts hE hM hS hA ce_X10_isYard tb_1686 (F_X10_isYard l D A ad ns I L G (a0) hJ hI) rfl rfl ⟨Nat.le_of_ble_eq_true rfl, Nat.le_of_ble_eq_true rfl⟩ hJ.1 rfl rfl (by decide) rfl hl.1 rfl (Nat.le_of_ble_eq_true rfl) dX10_yards_2 ⟨Nat.le_of_ble_eq_true rfl, Nat.le_of_ble_eq_true rfl⟩) hS (fun r1 u H locs hw hM hS => ?_)
  obtain ⟨rfl, rfl⟩ := hw
  have hM : Mem D A ad ns I L G H := hM
  refine lv_if_ne (tgt := 10) hx hb dX10_yards_5 (by decide) (fun c2 => ?_) (fun c2 => ?_)
  · exact absurd c2 (by decide)
  · have hc2 := c2
    have q2 := q_eq hc2
    refine lv_iconst (v := (-1)) hx hb dX10_yards_8 (by decide) ?_
    exact m_iret hx hb hr hlocks hM hS (Nat.le_of_ble_eq_true rfl) (Nat.le_of_ble_eq_true rfl) ⟨rfl, rfl⟩ dX10_yards_9
theorem dX10_cell_0 : decode cX10_cell 0 = .ok (.aload_n 0, 1) := by decide +kernel
theorem dX10_cell_1 : decode cX10_cell 1 = .ok (.iload_n 1, 1) := by decide +kernel
theorem dX10_cell_2 : decode cX10_cell 2 = .ok (.iload_n 2, 1) := by decide +kernel
theorem dX10_cell_3 : decode cX10_cell 3 = .ok (.invokevirtual 196, 3) := by decide +kernel
theorem dX10_cell_6 : decode cX10_cell 6 = .ok (.ifCond .eq 15, 3) := by decide +kernel
theorem dX10_cell_21 : decode cX10_cell 21 = .ok (.bipush (-2), 2) := by decide +kernel
theorem dX10_cell_23 : decode cX10_cell 23 = .ok (.ireturn, 1) := by decide +kernel
theorem ce_X10_cell : CeV RX10 yX10_cell cX10_cell 5 (some .int) 3 := ⟨tb_1691, tb_1692, tb_11, tb_1693, rfl, by decide, by decide, by decide +kernel⟩
set_option maxHeartbeats 4000000 in
set_option maxRecDepth 20000 in
theorem F_X10_cell (l : Launch) (D : va_G) (A : Nat → Prop) (ad : Nat → Nat) (ns : List Nat) (I : MI) (L : ML) (G : MG) (a0 : Int32) (a1 : Int32) (a2 : Int32) (hJ : SGM ns G) (hI : ∀ n k, 1000 ≤ n → n ≠ 1000 ∨ (k ≠ 33 ∧ k ≠ 57) → I n k = 0) : Met l yX10_cell (wd yX10_cell cX10_cell 5 (some .int)) ({ frames := 2, cells := 0, slots := 0, locals := 42 }) (va_Pc [.ref (ad 1000), .int a0, .int a1, .int a2] (PM D A ad ns I L G)) (va_Qi (fun r u => u = (ad, ns, I, L, G) ∧ r = -2) (BM D A) A) 0 0 A := by
  refine m_ofW (by decide) (Nat.le_of_ble_eq_true rfl) ?_
  intro p e s m below meth c ls args hC hE hM hA hS hl
  obtain ⟨hx, hb, hml, hown, hts, hr, hlocks, hin⟩ := hC
  have km2 : (-2 : Int32).toInt = -2 := by decide
  have k0 : (0 : Int32).toInt = 0 := by decide
  have hl : lv_has ls 5 [(0, .ref (ad (1000))), (1, .int (a0)), (2, .int (a1)), (3, .int (a2))] := hl
  refine lv_aload_n hx hb dX10_cell_0 rfl (lv_at hl 0 rfl) ?_
  refine lv_iload_n hx hb dX10_cell_1 rfl (lv_at hl 1 rfl) ?_
  refine lv_iload_n hx hb dX10_cell_2 rfl (lv_at hl 2 rfl) ?_
  refine m_calli (m_runV (1000) (As := [.int (a0), .int (a1)]) (rest := []) hx hb hml hown hts hE hM hS hA ce_X10_isCell tb_1437 (F_X10_isCell l D A ad ns I L G (a0) (a1) hJ hI) rfl rfl ⟨Nat.le_of_ble_eq_true rfl, Nat.le_of_ble_eq_true rfl⟩ hJ.1 rfl rfl (by decide) rfl hl.1 rfl (Nat.le_of_ble_eq_true rfl) dX10_cell_3 ⟨Nat.le_of_ble_eq_true rfl, Nat.le_of_ble_eq_true rfl⟩) hS (fun r1 u H locs hw hM hS => ?_)
  obtain ⟨rfl, rfl⟩ := hw
  have hM : Mem D A ad ns I L G H := hM
  refine lv_if_eq (tgt := 21) hx hb dX10_cell_6 (by decide) (fun c2 => ?_) (fun c2 => ?_)
  · have hc2 := c2
    have q2 := q_eq hc2
    refine lv_bipush (v := (-2)) hx hb dX10_cell_21 (by decide) ?_
    exact m_iret hx hb hr hlocks hM hS (Nat.le_of_ble_eq_true rfl) (Nat.le_of_ble_eq_true rfl) ⟨rfl, rfl⟩ dX10_cell_23
  · exact absurd c2 (by decide)
theorem dX10_gets_0 : decode cX10_gets 0 = .ok (.aload_n 0, 1) := by decide +kernel
theorem dX10_gets_1 : decode cX10_gets 1 = .ok (.iload_n 1, 1) := by decide +kernel
theorem dX10_gets_2 : decode cX10_gets 2 = .ok (.invokevirtual 472, 3) := by decide +kernel
theorem dX10_gets_5 : decode cX10_gets 5 = .ok (.ifCond .eq 11, 3) := by decide +kernel
theorem dX10_gets_16 : decode cX10_gets 16 = .ok (.iconst (-1), 1) := by decide +kernel
theorem dX10_gets_17 : decode cX10_gets 17 = .ok (.ireturn, 1) := by decide +kernel
theorem ce_X10_gets : CeV RX10 yX10_gets cX10_gets 3 (some .int) 2 := ⟨tb_1695, tb_1696, tb_11, tb_1697, rfl, by decide, by decide, by decide +kernel⟩
set_option maxHeartbeats 4000000 in
set_option maxRecDepth 20000 in
theorem F_X10_gets (l : Launch) (D : va_G) (A : Nat → Prop) (ad : Nat → Nat) (ns : List Nat) (I : MI) (L : ML) (G : MG) (a0 : Int32) (a1 : Int32) (hJ : SGM ns G) (hI : ∀ n k, 1000 ≤ n → n ≠ 1000 ∨ (k ≠ 33 ∧ k ≠ 57) → I n k = 0) : Met l yX10_gets (wd yX10_gets cX10_gets 3 (some .int)) ({ frames := 2, cells := 0, slots := 0, locals := 41 }) (va_Pc [.ref (ad 1000), .int a0, .int a1] (PM D A ad ns I L G)) (va_Qi (fun r u => u = (ad, ns, I, L, G) ∧ r = -1) (BM D A) A) 0 0 A := by
  refine m_ofW (by decide) (Nat.le_of_ble_eq_true rfl) ?_
  intro p e s m below meth c ls args hC hE hM hA hS hl
  obtain ⟨hx, hb, hml, hown, hts, hr, hlocks, hin⟩ := hC
  have km1 : (-1 : Int32).toInt = -1 := by decide
  have k0 : (0 : Int32).toInt = 0 := by decide
  have hl : lv_has ls 3 [(0, .ref (ad (1000))), (1, .int (a0)), (2, .int (a1))] := hl
  refine lv_aload_n hx hb dX10_gets_0 rfl (lv_at hl 0 rfl) ?_
  refine lv_iload_n hx hb dX10_gets_1 rfl (lv_at hl 1 rfl) ?_
  refine m_calli (m_runV (1000) (As := [.int (a0)]) (rest := []) hx hb hml hown hts hE hM hS hA ce_X10_isBright tb_1698 (F_X10_isBright l D A ad ns I L G (a0) hJ hI) rfl rfl ⟨Nat.le_of_ble_eq_true rfl, Nat.le_of_ble_eq_true rfl⟩ hJ.1 rfl rfl (by decide) rfl hl.1 rfl (Nat.le_of_ble_eq_true rfl) dX10_gets_2 ⟨Nat.le_of_ble_eq_true rfl, Nat.le_of_ble_eq_true rfl⟩) hS (fun r1 u H locs hw hM hS => ?_)
  obtain ⟨rfl, rfl⟩ := hw
  have hM : Mem D A ad ns I L G H := hM
  refine lv_if_eq (tgt := 16) hx hb dX10_gets_5 (by decide) (fun c2 => ?_) (fun c2 => ?_)
  · have hc2 := c2
    have q2 := q_eq hc2
    refine lv_iconst (v := (-1)) hx hb dX10_gets_16 (by decide) ?_
    exact m_iret hx hb hr hlocks hM hS (Nat.le_of_ble_eq_true rfl) (Nat.le_of_ble_eq_true rfl) ⟨rfl, rfl⟩ dX10_gets_17
  · exact absurd c2 (by decide)
theorem dX10_light_0 : decode cX10_light 0 = .ok (.aload_n 0, 1) := by decide +kernel
theorem dX10_light_1 : decode cX10_light 1 = .ok (.iload_n 1, 1) := by decide +kernel
theorem dX10_light_2 : decode cX10_light 2 = .ok (.invokevirtual 472, 3) := by decide +kernel
theorem dX10_light_5 : decode cX10_light 5 = .ok (.ifCond .eq 15, 3) := by decide +kernel
theorem dX10_light_20 : decode cX10_light 20 = .ok (.iconst (-1), 1) := by decide +kernel
theorem dX10_light_21 : decode cX10_light 21 = .ok (.ireturn, 1) := by decide +kernel
theorem ce_X10_light : CeV RX10 yX10_light cX10_light 3 (some .int) 2 := ⟨tb_1703, tb_1704, tb_11, tb_1705, rfl, by decide, by decide, by decide +kernel⟩
set_option maxHeartbeats 4000000 in
set_option maxRecDepth 20000 in
theorem F_X10_light (l : Launch) (D : va_G) (A : Nat → Prop) (ad : Nat → Nat) (ns : List Nat) (I : MI) (L : ML) (G : MG) (a0 : Int32) (a1 : Int32) (hJ : SGM ns G) (hI : ∀ n k, 1000 ≤ n → n ≠ 1000 ∨ (k ≠ 33 ∧ k ≠ 57) → I n k = 0) : Met l yX10_light (wd yX10_light cX10_light 3 (some .int)) ({ frames := 2, cells := 0, slots := 0, locals := 41 }) (va_Pc [.ref (ad 1000), .int a0, .int a1] (PM D A ad ns I L G)) (va_Qi (fun r u => u = (ad, ns, I, L, G) ∧ r = -1) (BM D A) A) 0 0 A := by
  refine m_ofW (by decide) (Nat.le_of_ble_eq_true rfl) ?_
  intro p e s m below meth c ls args hC hE hM hA hS hl
  obtain ⟨hx, hb, hml, hown, hts, hr, hlocks, hin⟩ := hC
  have km1 : (-1 : Int32).toInt = -1 := by decide
  have k0 : (0 : Int32).toInt = 0 := by decide
  have hl : lv_has ls 3 [(0, .ref (ad (1000))), (1, .int (a0)), (2, .int (a1))] := hl
  refine lv_aload_n hx hb dX10_light_0 rfl (lv_at hl 0 rfl) ?_
  refine lv_iload_n hx hb dX10_light_1 rfl (lv_at hl 1 rfl) ?_
  refine m_calli (m_runV (1000) (As := [.int (a0)]) (rest := []) hx hb hml hown hts hE hM hS hA ce_X10_isBright tb_1698 (F_X10_isBright l D A ad ns I L G (a0) hJ hI) rfl rfl ⟨Nat.le_of_ble_eq_true rfl, Nat.le_of_ble_eq_true rfl⟩ hJ.1 rfl rfl (by decide) rfl hl.1 rfl (Nat.le_of_ble_eq_true rfl) dX10_light_2 ⟨Nat.le_of_ble_eq_true rfl, Nat.le_of_ble_eq_true rfl⟩) hS (fun r1 u H locs hw hM hS => ?_)
  obtain ⟨rfl, rfl⟩ := hw
  have hM : Mem D A ad ns I L G H := hM
  refine lv_if_eq (tgt := 20) hx hb dX10_light_5 (by decide) (fun c2 => ?_) (fun c2 => ?_)
  · have hc2 := c2
    have q2 := q_eq hc2
    refine lv_iconst (v := (-1)) hx hb dX10_light_20 (by decide) ?_
    exact m_iret hx hb hr hlocks hM hS (Nat.le_of_ble_eq_true rfl) (Nat.le_of_ble_eq_true rfl) ⟨rfl, rfl⟩ dX10_light_21
  · exact absurd c2 (by decide)
theorem dX10_passes_0 : decode cX10_passes 0 = .ok (.aload_n 0, 1) := by decide +kernel
theorem dX10_passes_1 : decode cX10_passes 1 = .ok (.iload_n 1, 1) := by decide +kernel
theorem dX10_passes_2 : decode cX10_passes 2 = .ok (.invokevirtual 472, 3) := by decide +kernel
theorem dX10_passes_5 : decode cX10_passes 5 = .ok (.ifCond .eq 12, 3) := by decide +kernel
theorem dX10_passes_17 : decode cX10_passes 17 = .ok (.iconst (-1), 1) := by decide +kernel
theorem dX10_passes_18 : decode cX10_passes 18 = .ok (.ireturn, 1) := by decide +kernel
theorem ce_X10_passes : CeV RX10 yX10_passes cX10_passes 4 (some .int) 3 := ⟨tb_1716, tb_1717, tb_11, tb_1718, rfl, by decide, by decide, by decide +kernel⟩
set_option maxHeartbeats 4000000 in
set_option maxRecDepth 20000 in
theorem F_X10_passes (l : Launch) (D : va_G) (A : Nat → Prop) (ad : Nat → Nat) (ns : List Nat) (I : MI) (L : ML) (G : MG) (a0 : Int32) (a1 : Int32) (a2 : Int32) (hJ : SGM ns G) (hI : ∀ n k, 1000 ≤ n → n ≠ 1000 ∨ (k ≠ 33 ∧ k ≠ 57) → I n k = 0) : Met l yX10_passes (wd yX10_passes cX10_passes 4 (some .int)) ({ frames := 2, cells := 0, slots := 0, locals := 41 }) (va_Pc [.ref (ad 1000), .int a0, .int a1, .int a2] (PM D A ad ns I L G)) (va_Qi (fun r u => u = (ad, ns, I, L, G) ∧ r = -1) (BM D A) A) 0 0 A := by
  refine m_ofW (by decide) (Nat.le_of_ble_eq_true rfl) ?_
  intro p e s m below meth c ls args hC hE hM hA hS hl
  obtain ⟨hx, hb, hml, hown, hts, hr, hlocks, hin⟩ := hC
  have km1 : (-1 : Int32).toInt = -1 := by decide
  have k0 : (0 : Int32).toInt = 0 := by decide
  have hl : lv_has ls 4 [(0, .ref (ad (1000))), (1, .int (a0)), (2, .int (a1)), (3, .int (a2))] := hl
  refine lv_aload_n hx hb dX10_passes_0 rfl (lv_at hl 0 rfl) ?_
  refine lv_iload_n hx hb dX10_passes_1 rfl (lv_at hl 1 rfl) ?_
  refine m_calli (m_runV (1000) (As := [.int (a0)]) (rest := []) hx hb hml hown hts hE hM hS hA ce_X10_isBright tb_1698 (F_X10_isBright l D A ad ns I L G (a0) hJ hI) rfl rfl ⟨Nat.le_of_ble_eq_true rfl, Nat.le_of_ble_eq_true rfl⟩ hJ.1 rfl rfl (by decide) rfl hl.1 rfl (Nat.le_of_ble_eq_true rfl) dX10_passes_2 ⟨Nat.le_of_ble_eq_true rfl, Nat.le_of_ble_eq_true rfl⟩) hS (fun r1 u H locs hw hM hS => ?_)
  obtain ⟨rfl, rfl⟩ := hw
  have hM : Mem D A ad ns I L G H := hM
  refine lv_if_eq (tgt := 17) hx hb dX10_passes_5 (by decide) (fun c2 => ?_) (fun c2 => ?_)
  · have hc2 := c2
    have q2 := q_eq hc2
    refine lv_iconst (v := (-1)) hx hb dX10_passes_17 (by decide) ?_
    exact m_iret hx hb hr hlocks hM hS (Nat.le_of_ble_eq_true rfl) (Nat.le_of_ble_eq_true rfl) ⟨rfl, rfl⟩ dX10_passes_18
  · exact absurd c2 (by decide)
theorem dX10_sees_0 : decode cX10_sees 0 = .ok (.aload_n 0, 1) := by decide +kernel
theorem dX10_sees_1 : decode cX10_sees 1 = .ok (.iload_n 1, 1) := by decide +kernel
theorem dX10_sees_2 : decode cX10_sees 2 = .ok (.invokevirtual 472, 3) := by decide +kernel
theorem dX10_sees_5 : decode cX10_sees 5 = .ok (.ifCond .eq 11, 3) := by decide +kernel
theorem dX10_sees_16 : decode cX10_sees 16 = .ok (.iconst (-1), 1) := by decide +kernel
theorem dX10_sees_17 : decode cX10_sees 17 = .ok (.ireturn, 1) := by decide +kernel
theorem ce_X10_sees : CeV RX10 yX10_sees cX10_sees 6 (some .int) 2 := ⟨tb_1720, tb_1721, tb_11, tb_1722, rfl, by decide, by decide, by decide +kernel⟩
set_option maxHeartbeats 4000000 in
set_option maxRecDepth 20000 in
theorem F_X10_sees (l : Launch) (D : va_G) (A : Nat → Prop) (ad : Nat → Nat) (ns : List Nat) (I : MI) (L : ML) (G : MG) (a0 : Int32) (a1 : Int32) (hJ : SGM ns G) (hI : ∀ n k, 1000 ≤ n → n ≠ 1000 ∨ (k ≠ 33 ∧ k ≠ 57) → I n k = 0) : Met l yX10_sees (wd yX10_sees cX10_sees 6 (some .int)) ({ frames := 2, cells := 0, slots := 0, locals := 41 }) (va_Pc [.ref (ad 1000), .int a0, .int a1] (PM D A ad ns I L G)) (va_Qi (fun r u => u = (ad, ns, I, L, G) ∧ r = -1) (BM D A) A) 0 0 A := by
  refine m_ofW (by decide) (Nat.le_of_ble_eq_true rfl) ?_
  intro p e s m below meth c ls args hC hE hM hA hS hl
  obtain ⟨hx, hb, hml, hown, hts, hr, hlocks, hin⟩ := hC
  have km1 : (-1 : Int32).toInt = -1 := by decide
  have k0 : (0 : Int32).toInt = 0 := by decide
  have hl : lv_has ls 6 [(0, .ref (ad (1000))), (1, .int (a0)), (2, .int (a1))] := hl
  refine lv_aload_n hx hb dX10_sees_0 rfl (lv_at hl 0 rfl) ?_
  refine lv_iload_n hx hb dX10_sees_1 rfl (lv_at hl 1 rfl) ?_
  refine m_calli (m_runV (1000) (As := [.int (a0)]) (rest := []) hx hb hml hown hts hE hM hS hA ce_X10_isBright tb_1698 (F_X10_isBright l D A ad ns I L G (a0) hJ hI) rfl rfl ⟨Nat.le_of_ble_eq_true rfl, Nat.le_of_ble_eq_true rfl⟩ hJ.1 rfl rfl (by decide) rfl hl.1 rfl (Nat.le_of_ble_eq_true rfl) dX10_sees_2 ⟨Nat.le_of_ble_eq_true rfl, Nat.le_of_ble_eq_true rfl⟩) hS (fun r1 u H locs hw hM hS => ?_)
  obtain ⟨rfl, rfl⟩ := hw
  have hM : Mem D A ad ns I L G H := hM
  refine lv_if_eq (tgt := 16) hx hb dX10_sees_5 (by decide) (fun c2 => ?_) (fun c2 => ?_)
  · have hc2 := c2
    have q2 := q_eq hc2
    refine lv_iconst (v := (-1)) hx hb dX10_sees_16 (by decide) ?_
    exact m_iret hx hb hr hlocks hM hS (Nat.le_of_ble_eq_true rfl) (Nat.le_of_ble_eq_true rfl) ⟨rfl, rfl⟩ dX10_sees_17
  · exact absurd c2 (by decide)
theorem dX10_worth_0 : decode cX10_worth 0 = .ok (.aload_n 0, 1) := by decide +kernel
theorem dX10_worth_1 : decode cX10_worth 1 = .ok (.iload_n 1, 1) := by decide +kernel
theorem dX10_worth_2 : decode cX10_worth 2 = .ok (.invokevirtual 472, 3) := by decide +kernel
theorem dX10_worth_5 : decode cX10_worth 5 = .ok (.ifCond .eq 11, 3) := by decide +kernel
theorem dX10_worth_16 : decode cX10_worth 16 = .ok (.ldc_w 487, 3) := by decide +kernel
theorem dX10_worth_19 : decode cX10_worth 19 = .ok (.ireturn, 1) := by decide +kernel
theorem ce_X10_worth : CeV RX10 yX10_worth cX10_worth 5 (some .int) 2 := ⟨tb_1727, tb_1728, tb_11, tb_1729, rfl, by decide, by decide, by decide +kernel⟩
set_option maxHeartbeats 4000000 in
set_option maxRecDepth 20000 in
theorem F_X10_worth (l : Launch) (D : va_G) (A : Nat → Prop) (ad : Nat → Nat) (ns : List Nat) (I : MI) (L : ML) (G : MG) (a0 : Int32) (a1 : Int32) (hJ : SGM ns G) (hI : ∀ n k, 1000 ≤ n → n ≠ 1000 ∨ (k ≠ 33 ∧ k ≠ 57) → I n k = 0) : Met l yX10_worth (wd yX10_worth cX10_worth 5 (some .int)) ({ frames := 2, cells := 0, slots := 0, locals := 41 }) (va_Pc [.ref (ad 1000), .int a0, .int a1] (PM D A ad ns I L G)) (va_Qi (fun r u => u = (ad, ns, I, L, G) ∧ r = -1000000) (BM D A) A) 0 0 A := by
  refine m_ofW (by decide) (Nat.le_of_ble_eq_true rfl) ?_
  intro p e s m below meth c ls args hC hE hM hA hS hl
  obtain ⟨hx, hb, hml, hown, hts, hr, hlocks, hin⟩ := hC
  have km1000000 : (-1000000 : Int32).toInt = -1000000 := by decide
  have k0 : (0 : Int32).toInt = 0 := by decide
  have hl : lv_has ls 5 [(0, .ref (ad (1000))), (1, .int (a0)), (2, .int (a1))] := hl
  refine lv_aload_n hx hb dX10_worth_0 rfl (lv_at hl 0 rfl) ?_
  refine lv_iload_n hx hb dX10_worth_1 rfl (lv_at hl 1 rfl) ?_
  refine m_calli (m_runV (1000) (As := [.int (a0)]) (rest := []) hx hb hml hown hts hE hM hS hA ce_X10_isBright tb_1698 (F_X10_isBright l D A ad ns I L G (a0) hJ hI) rfl rfl ⟨Nat.le_of_ble_eq_true rfl, Nat.le_of_ble_eq_true rfl⟩ hJ.1 rfl rfl (by decide) rfl hl.1 rfl (Nat.le_of_ble_eq_true rfl) dX10_worth_2 ⟨Nat.le_of_ble_eq_true rfl, Nat.le_of_ble_eq_true rfl⟩) hS (fun r1 u H locs hw hM hS => ?_)
  obtain ⟨rfl, rfl⟩ := hw
  have hM : Mem D A ad ns I L G H := hM
  refine lv_if_eq (tgt := 16) hx hb dX10_worth_5 (by decide) (fun c2 => ?_) (fun c2 => ?_)
  · have hc2 := c2
    have q2 := q_eq hc2
    refine lv_ldcw (v := (-1000000)) hx hb hown (hts _ tb_1730) dX10_worth_16 ?_
    exact m_iret hx hb hr hlocks hM hS (Nat.le_of_ble_eq_true rfl) (Nat.le_of_ble_eq_true rfl) ⟨rfl, rfl⟩ dX10_worth_19
  · exact absurd c2 (by decide)
theorem dX10_owned_0 : decode cX10_owned 0 = .ok (.aload_n 0, 1) := by decide +kernel
theorem dX10_owned_1 : decode cX10_owned 1 = .ok (.iload_n 1, 1) := by decide +kernel
theorem dX10_owned_2 : decode cX10_owned 2 = .ok (.invokevirtual 472, 3) := by decide +kernel
theorem dX10_owned_5 : decode cX10_owned 5 = .ok (.ifCond .eq 15, 3) := by decide +kernel
theorem dX10_owned_20 : decode cX10_owned 20 = .ok (.ldc_w 487, 3) := by decide +kernel
theorem dX10_owned_23 : decode cX10_owned 23 = .ok (.ireturn, 1) := by decide +kernel
theorem ce_X10_owned : CeV RX10 yX10_owned cX10_owned 5 (some .int) 2 := ⟨tb_1732, tb_1733, tb_11, tb_1734, rfl, by decide, by decide, by decide +kernel⟩
set_option maxHeartbeats 4000000 in
set_option maxRecDepth 20000 in
theorem F_X10_owned (l : Launch) (D : va_G) (A : Nat → Prop) (ad : Nat → Nat) (ns : List Nat) (I : MI) (L : ML) (G : MG) (a0 : Int32) (a1 : Int32) (hJ : SGM ns G) (hI : ∀ n k, 1000 ≤ n → n ≠ 1000 ∨ (k ≠ 33 ∧ k ≠ 57) → I n k = 0) : Met l yX10_owned (wd yX10_owned cX10_owned 5 (some .int)) ({ frames := 2, cells := 0, slots := 0, locals := 41 }) (va_Pc [.ref (ad 1000), .int a0, .int a1] (PM D A ad ns I L G)) (va_Qi (fun r u => u = (ad, ns, I, L, G) ∧ r = -1000000) (BM D A) A) 0 0 A := by
  refine m_ofW (by decide) (Nat.le_of_ble_eq_true rfl) ?_
  intro p e s m below meth c ls args hC hE hM hA hS hl
  obtain ⟨hx, hb, hml, hown, hts, hr, hlocks, hin⟩ := hC
  have km1000000 : (-1000000 : Int32).toInt = -1000000 := by decide
  have k0 : (0 : Int32).toInt = 0 := by decide
  have hl : lv_has ls 5 [(0, .ref (ad (1000))), (1, .int (a0)), (2, .int (a1))] := hl
  refine lv_aload_n hx hb dX10_owned_0 rfl (lv_at hl 0 rfl) ?_
  refine lv_iload_n hx hb dX10_owned_1 rfl (lv_at hl 1 rfl) ?_
  refine m_calli (m_runV (1000) (As := [.int (a0)]) (rest := []) hx hb hml hown hts hE hM hS hA ce_X10_isBright tb_1698 (F_X10_isBright l D A ad ns I L G (a0) hJ hI) rfl rfl ⟨Nat.le_of_ble_eq_true rfl, Nat.le_of_ble_eq_true rfl⟩ hJ.1 rfl rfl (by decide) rfl hl.1 rfl (Nat.le_of_ble_eq_true rfl) dX10_owned_2 ⟨Nat.le_of_ble_eq_true rfl, Nat.le_of_ble_eq_true rfl⟩) hS (fun r1 u H locs hw hM hS => ?_)
  obtain ⟨rfl, rfl⟩ := hw
  have hM : Mem D A ad ns I L G H := hM
  refine lv_if_eq (tgt := 20) hx hb dX10_owned_5 (by decide) (fun c2 => ?_) (fun c2 => ?_)
  · have hc2 := c2
    have q2 := q_eq hc2
    refine lv_ldcw (v := (-1000000)) hx hb hown (hts _ tb_1730) dX10_owned_20 ?_
    exact m_iret hx hb hr hlocks hM hS (Nat.le_of_ble_eq_true rfl) (Nat.le_of_ble_eq_true rfl) ⟨rfl, rfl⟩ dX10_owned_23
  · exact absurd c2 (by decide)
theorem dX10_aim_0 : decode cX10_aim 0 = .ok (.aload_n 0, 1) := by decide +kernel
theorem dX10_aim_1 : decode cX10_aim 1 = .ok (.iload_n 1, 1) := by decide +kernel
theorem dX10_aim_2 : decode cX10_aim 2 = .ok (.invokevirtual 472, 3) := by decide +kernel
theorem dX10_aim_5 : decode cX10_aim 5 = .ok (.ifCond .eq 38, 3) := by decide +kernel
theorem dX10_aim_43 : decode cX10_aim 43 = .ok (.iconst (-1), 1) := by decide +kernel
theorem dX10_aim_44 : decode cX10_aim 44 = .ok (.ireturn, 1) := by decide +kernel
theorem ce_X10_aim : CeV RX10 yX10_aim cX10_aim 6 (some .int) 4 := ⟨tb_1736, tb_1737, tb_11, tb_1738, rfl, by decide, by decide, by decide +kernel⟩
set_option maxHeartbeats 4000000 in
set_option maxRecDepth 20000 in
theorem F_X10_aim (l : Launch) (D : va_G) (A : Nat → Prop) (ad : Nat → Nat) (ns : List Nat) (I : MI) (L : ML) (G : MG) (a0 : Int32) (a1 : Int32) (a2 : Int32) (a3 : Int32) (hJ : SGM ns G) (hI : ∀ n k, 1000 ≤ n → n ≠ 1000 ∨ (k ≠ 33 ∧ k ≠ 57) → I n k = 0) : Met l yX10_aim (wd yX10_aim cX10_aim 6 (some .int)) ({ frames := 2, cells := 0, slots := 0, locals := 41 }) (va_Pc [.ref (ad 1000), .int a0, .int a1, .int a2, .int a3] (PM D A ad ns I L G)) (va_Qi (fun r u => u = (ad, ns, I, L, G) ∧ r = -1) (BM D A) A) 0 0 A := by
  refine m_ofW (by decide) (Nat.le_of_ble_eq_true rfl) ?_
  intro p e s m below meth c ls args hC hE hM hA hS hl
  obtain ⟨hx, hb, hml, hown, hts, hr, hlocks, hin⟩ := hC
  have km1 : (-1 : Int32).toInt = -1 := by decide
  have k0 : (0 : Int32).toInt = 0 := by decide
  have hl : lv_has ls 6 [(0, .ref (ad (1000))), (1, .int (a0)), (2, .int (a1)), (3, .int (a2)), (4, .int (a3))] := hl
  refine lv_aload_n hx hb dX10_aim_0 rfl (lv_at hl 0 rfl) ?_
  refine lv_iload_n hx hb dX10_aim_1 rfl (lv_at hl 1 rfl) ?_
  refine m_calli (m_runV (1000) (As := [.int (a0)]) (rest := []) hx hb hml hown hts hE hM hS hA ce_X10_isBright tb_1698 (F_X10_isBright l D A ad ns I L G (a0) hJ hI) rfl rfl ⟨Nat.le_of_ble_eq_true rfl, Nat.le_of_ble_eq_true rfl⟩ hJ.1 rfl rfl (by decide) rfl hl.1 rfl (Nat.le_of_ble_eq_true rfl) dX10_aim_2 ⟨Nat.le_of_ble_eq_true rfl, Nat.le_of_ble_eq_true rfl⟩) hS (fun r1 u H locs hw hM hS => ?_)
  obtain ⟨rfl, rfl⟩ := hw
  have hM : Mem D A ad ns I L G H := hM
  refine lv_if_eq (tgt := 43) hx hb dX10_aim_5 (by decide) (fun c2 => ?_) (fun c2 => ?_)
  · have hc2 := c2
    have q2 := q_eq hc2
    refine lv_iconst (v := (-1)) hx hb dX10_aim_43 (by decide) ?_
    exact m_iret hx hb hr hlocks hM hS (Nat.le_of_ble_eq_true rfl) (Nat.le_of_ble_eq_true rfl) ⟨rfl, rfl⟩ dX10_aim_44
  · exact absurd c2 (by decide)
theorem dX10_fair_0 : decode cX10_fair 0 = .ok (.aload_n 0, 1) := by decide +kernel
theorem dX10_fair_1 : decode cX10_fair 1 = .ok (.iload_n 1, 1) := by decide +kernel
theorem dX10_fair_2 : decode cX10_fair 2 = .ok (.invokevirtual 472, 3) := by decide +kernel
theorem dX10_fair_5 : decode cX10_fair 5 = .ok (.ifCond .eq 39, 3) := by decide +kernel
theorem dX10_fair_44 : decode cX10_fair 44 = .ok (.iconst (-1), 1) := by decide +kernel
theorem dX10_fair_45 : decode cX10_fair 45 = .ok (.ireturn, 1) := by decide +kernel
theorem ce_X10_fair : CeV RX10 yX10_fair cX10_fair 5 (some .int) 3 := ⟨tb_1758, tb_1759, tb_11, tb_1760, rfl, by decide, by decide, by decide +kernel⟩
set_option maxHeartbeats 4000000 in
set_option maxRecDepth 20000 in
theorem F_X10_fair (l : Launch) (D : va_G) (A : Nat → Prop) (ad : Nat → Nat) (ns : List Nat) (I : MI) (L : ML) (G : MG) (a0 : Int32) (a1 : Int32) (a2 : Int32) (hJ : SGM ns G) (hI : ∀ n k, 1000 ≤ n → n ≠ 1000 ∨ (k ≠ 33 ∧ k ≠ 57) → I n k = 0) : Met l yX10_fair (wd yX10_fair cX10_fair 5 (some .int)) ({ frames := 2, cells := 0, slots := 0, locals := 41 }) (va_Pc [.ref (ad 1000), .int a0, .int a1, .int a2] (PM D A ad ns I L G)) (va_Qi (fun r u => u = (ad, ns, I, L, G) ∧ r = -1) (BM D A) A) 0 0 A := by
  refine m_ofW (by decide) (Nat.le_of_ble_eq_true rfl) ?_
  intro p e s m below meth c ls args hC hE hM hA hS hl
  obtain ⟨hx, hb, hml, hown, hts, hr, hlocks, hin⟩ := hC
  have km1 : (-1 : Int32).toInt = -1 := by decide
  have k0 : (0 : Int32).toInt = 0 := by decide
  have hl : lv_has ls 5 [(0, .ref (ad (1000))), (1, .int (a0)), (2, .int (a1)), (3, .int (a2))] := hl
  refine lv_aload_n hx hb dX10_fair_0 rfl (lv_at hl 0 rfl) ?_
  refine lv_iload_n hx hb dX10_fair_1 rfl (lv_at hl 1 rfl) ?_
  refine m_calli (m_runV (1000) (As := [.int (a0)]) (rest := []) hx hb hml hown hts hE hM hS hA ce_X10_isBright tb_1698 (F_X10_isBright l D A ad ns I L G (a0) hJ hI) rfl rfl ⟨Nat.le_of_ble_eq_true rfl, Nat.le_of_ble_eq_true rfl⟩ hJ.1 rfl rfl (by decide) rfl hl.1 rfl (Nat.le_of_ble_eq_true rfl) dX10_fair_2 ⟨Nat.le_of_ble_eq_true rfl, Nat.le_of_ble_eq_true rfl⟩) hS (fun r1 u H locs hw hM hS => ?_)
  obtain ⟨rfl, rfl⟩ := hw
  have hM : Mem D A ad ns I L G H := hM
  refine lv_if_eq (tgt := 44) hx hb dX10_fair_5 (by decide) (fun c2 => ?_) (fun c2 => ?_)
  · have hc2 := c2
    have q2 := q_eq hc2
    refine lv_iconst (v := (-1)) hx hb dX10_fair_44 (by decide) ?_
    exact m_iret hx hb hr hlocks hM hS (Nat.le_of_ble_eq_true rfl) (Nat.le_of_ble_eq_true rfl) ⟨rfl, rfl⟩ dX10_fair_45
  · exact absurd c2 (by decide)
theorem dX10_mends_0 : decode cX10_mends 0 = .ok (.aload_n 0, 1) := by decide +kernel
theorem dX10_mends_1 : decode cX10_mends 1 = .ok (.iload_n 1, 1) := by decide +kernel
theorem dX10_mends_2 : decode cX10_mends 2 = .ok (.invokevirtual 472, 3) := by decide +kernel
theorem dX10_mends_5 : decode cX10_mends 5 = .ok (.ifCond .eq 23, 3) := by decide +kernel
theorem dX10_mends_28 : decode cX10_mends 28 = .ok (.iconst (-1), 1) := by decide +kernel
theorem dX10_mends_29 : decode cX10_mends 29 = .ok (.ireturn, 1) := by decide +kernel
theorem ce_X10_mends : CeV RX10 yX10_mends cX10_mends 5 (some .int) 3 := ⟨tb_1762, tb_1763, tb_11, tb_1764, rfl, by decide, by decide, by decide +kernel⟩
set_option maxHeartbeats 4000000 in
set_option maxRecDepth 20000 in
theorem F_X10_mends (l : Launch) (D : va_G) (A : Nat → Prop) (ad : Nat → Nat) (ns : List Nat) (I : MI) (L : ML) (G : MG) (a0 : Int32) (a1 : Int32) (a2 : Int32) (hJ : SGM ns G) (hI : ∀ n k, 1000 ≤ n → n ≠ 1000 ∨ (k ≠ 33 ∧ k ≠ 57) → I n k = 0) : Met l yX10_mends (wd yX10_mends cX10_mends 5 (some .int)) ({ frames := 2, cells := 0, slots := 0, locals := 41 }) (va_Pc [.ref (ad 1000), .int a0, .int a1, .int a2] (PM D A ad ns I L G)) (va_Qi (fun r u => u = (ad, ns, I, L, G) ∧ r = -1) (BM D A) A) 0 0 A := by
  refine m_ofW (by decide) (Nat.le_of_ble_eq_true rfl) ?_
  intro p e s m below meth c ls args hC hE hM hA hS hl
  obtain ⟨hx, hb, hml, hown, hts, hr, hlocks, hin⟩ := hC
  have km1 : (-1 : Int32).toInt = -1 := by decide
  have k0 : (0 : Int32).toInt = 0 := by decide
  have hl : lv_has ls 5 [(0, .ref (ad (1000))), (1, .int (a0)), (2, .int (a1)), (3, .int (a2))] := hl
  refine lv_aload_n hx hb dX10_mends_0 rfl (lv_at hl 0 rfl) ?_
  refine lv_iload_n hx hb dX10_mends_1 rfl (lv_at hl 1 rfl) ?_
  refine m_calli (m_runV (1000) (As := [.int (a0)]) (rest := []) hx hb hml hown hts hE hM hS hA ce_X10_isBright tb_1698 (F_X10_isBright l D A ad ns I L G (a0) hJ hI) rfl rfl ⟨Nat.le_of_ble_eq_true rfl, Nat.le_of_ble_eq_true rfl⟩ hJ.1 rfl rfl (by decide) rfl hl.1 rfl (Nat.le_of_ble_eq_true rfl) dX10_mends_2 ⟨Nat.le_of_ble_eq_true rfl, Nat.le_of_ble_eq_true rfl⟩) hS (fun r1 u H locs hw hM hS => ?_)
  obtain ⟨rfl, rfl⟩ := hw
  have hM : Mem D A ad ns I L G H := hM
  refine lv_if_eq (tgt := 28) hx hb dX10_mends_5 (by decide) (fun c2 => ?_) (fun c2 => ?_)
  · have hc2 := c2
    have q2 := q_eq hc2
    refine lv_iconst (v := (-1)) hx hb dX10_mends_28 (by decide) ?_
    exact m_iret hx hb hr hlocks hM hS (Nat.le_of_ble_eq_true rfl) (Nat.le_of_ble_eq_true rfl) ⟨rfl, rfl⟩ dX10_mends_29
  · exact absurd c2 (by decide)
theorem dX10_second_0 : decode cX10_second 0 = .ok (.aload_n 0, 1) := by decide +kernel
theorem dX10_second_1 : decode cX10_second 1 = .ok (.iload_n 1, 1) := by decide +kernel
theorem dX10_second_2 : decode cX10_second 2 = .ok (.invokevirtual 472, 3) := by decide +kernel
theorem dX10_second_5 : decode cX10_second 5 = .ok (.ifCond .eq 15, 3) := by decide +kernel
theorem dX10_second_20 : decode cX10_second 20 = .ok (.iconst (-1), 1) := by decide +kernel
theorem dX10_second_21 : decode cX10_second 21 = .ok (.ireturn, 1) := by decide +kernel
theorem ce_X10_second : CeV RX10 yX10_second cX10_second 12 (some .int) 2 := ⟨tb_1786, tb_1787, tb_11, tb_1788, rfl, by decide, by decide, by decide +kernel⟩
set_option maxHeartbeats 4000000 in
set_option maxRecDepth 20000 in
theorem F_X10_second (l : Launch) (D : va_G) (A : Nat → Prop) (ad : Nat → Nat) (ns : List Nat) (I : MI) (L : ML) (G : MG) (a0 : Int32) (a1 : Int32) (hJ : SGM ns G) (hI : ∀ n k, 1000 ≤ n → n ≠ 1000 ∨ (k ≠ 33 ∧ k ≠ 57) → I n k = 0) : Met l yX10_second (wd yX10_second cX10_second 12 (some .int)) ({ frames := 2, cells := 0, slots := 0, locals := 41 }) (va_Pc [.ref (ad 1000), .int a0, .int a1] (PM D A ad ns I L G)) (va_Qi (fun r u => u = (ad, ns, I, L, G) ∧ r = -1) (BM D A) A) 0 0 A := by
  refine m_ofW (by decide) (Nat.le_of_ble_eq_true rfl) ?_
  intro p e s m below meth c ls args hC hE hM hA hS hl
  obtain ⟨hx, hb, hml, hown, hts, hr, hlocks, hin⟩ := hC
  have km1 : (-1 : Int32).toInt = -1 := by decide
  have k0 : (0 : Int32).toInt = 0 := by decide
  have hl : lv_has ls 12 [(0, .ref (ad (1000))), (1, .int (a0)), (2, .int (a1))] := hl
  refine lv_aload_n hx hb dX10_second_0 rfl (lv_at hl 0 rfl) ?_
  refine lv_iload_n hx hb dX10_second_1 rfl (lv_at hl 1 rfl) ?_
  refine m_calli (m_runV (1000) (As := [.int (a0)]) (rest := []) hx hb hml hown hts hE hM hS hA ce_X10_isBright tb_1698 (F_X10_isBright l D A ad ns I L G (a0) hJ hI) rfl rfl ⟨Nat.le_of_ble_eq_true rfl, Nat.le_of_ble_eq_true rfl⟩ hJ.1 rfl rfl (by decide) rfl hl.1 rfl (Nat.le_of_ble_eq_true rfl) dX10_second_2 ⟨Nat.le_of_ble_eq_true rfl, Nat.le_of_ble_eq_true rfl⟩) hS (fun r1 u H locs hw hM hS => ?_)
  obtain ⟨rfl, rfl⟩ := hw
  have hM : Mem D A ad ns I L G H := hM
  refine lv_if_eq (tgt := 20) hx hb dX10_second_5 (by decide) (fun c2 => ?_) (fun c2 => ?_)
  · have hc2 := c2
    have q2 := q_eq hc2
    refine lv_iconst (v := (-1)) hx hb dX10_second_20 (by decide) ?_
    exact m_iret hx hb hr hlocks hM hS (Nat.le_of_ble_eq_true rfl) (Nat.le_of_ble_eq_true rfl) ⟨rfl, rfl⟩ dX10_second_21
  · exact absurd c2 (by decide)
theorem dX10_thief_0 : decode cX10_thief 0 = .ok (.aload_n 0, 1) := by decide +kernel
theorem dX10_thief_1 : decode cX10_thief 1 = .ok (.iload_n 1, 1) := by decide +kernel
theorem dX10_thief_2 : decode cX10_thief 2 = .ok (.invokevirtual 472, 3) := by decide +kernel
theorem dX10_thief_5 : decode cX10_thief 5 = .ok (.ifCond .eq 15, 3) := by decide +kernel
theorem dX10_thief_20 : decode cX10_thief 20 = .ok (.iconst (-1), 1) := by decide +kernel
theorem dX10_thief_21 : decode cX10_thief 21 = .ok (.ireturn, 1) := by decide +kernel
theorem ce_X10_thief : CeV RX10 yX10_thief cX10_thief 7 (some .int) 2 := ⟨tb_1791, tb_1792, tb_11, tb_1793, rfl, by decide, by decide, by decide +kernel⟩
set_option maxHeartbeats 4000000 in
set_option maxRecDepth 20000 in
theorem F_X10_thief (l : Launch) (D : va_G) (A : Nat → Prop) (ad : Nat → Nat) (ns : List Nat) (I : MI) (L : ML) (G : MG) (a0 : Int32) (a1 : Int32) (hJ : SGM ns G) (hI : ∀ n k, 1000 ≤ n → n ≠ 1000 ∨ (k ≠ 33 ∧ k ≠ 57) → I n k = 0) : Met l yX10_thief (wd yX10_thief cX10_thief 7 (some .int)) ({ frames := 2, cells := 0, slots := 0, locals := 41 }) (va_Pc [.ref (ad 1000), .int a0, .int a1] (PM D A ad ns I L G)) (va_Qi (fun r u => u = (ad, ns, I, L, G) ∧ r = -1) (BM D A) A) 0 0 A := by
  refine m_ofW (by decide) (Nat.le_of_ble_eq_true rfl) ?_
  intro p e s m below meth c ls args hC hE hM hA hS hl
  obtain ⟨hx, hb, hml, hown, hts, hr, hlocks, hin⟩ := hC
  have km1 : (-1 : Int32).toInt = -1 := by decide
  have k0 : (0 : Int32).toInt = 0 := by decide
  have hl : lv_has ls 7 [(0, .ref (ad (1000))), (1, .int (a0)), (2, .int (a1))] := hl
  refine lv_aload_n hx hb dX10_thief_0 rfl (lv_at hl 0 rfl) ?_
  refine lv_iload_n hx hb dX10_thief_1 rfl (lv_at hl 1 rfl) ?_
  refine m_calli (m_runV (1000) (As := [.int (a0)]) (rest := []) hx hb hml hown hts hE hM hS hA ce_X10_isBright tb_1698 (F_X10_isBright l D A ad ns I L G (a0) hJ hI) rfl rfl ⟨Nat.le_of_ble_eq_true rfl, Nat.le_of_ble_eq_true rfl⟩ hJ.1 rfl rfl (by decide) rfl hl.1 rfl (Nat.le_of_ble_eq_true rfl) dX10_thief_2 ⟨Nat.le_of_ble_eq_true rfl, Nat.le_of_ble_eq_true rfl⟩) hS (fun r1 u H locs hw hM hS => ?_)
  obtain ⟨rfl, rfl⟩ := hw
  have hM : Mem D A ad ns I L G H := hM
  refine lv_if_eq (tgt := 20) hx hb dX10_thief_5 (by decide) (fun c2 => ?_) (fun c2 => ?_)
  · have hc2 := c2
    have q2 := q_eq hc2
    refine lv_iconst (v := (-1)) hx hb dX10_thief_20 (by decide) ?_
    exact m_iret hx hb hr hlocks hM hS (Nat.le_of_ble_eq_true rfl) (Nat.le_of_ble_eq_true rfl) ⟨rfl, rfl⟩ dX10_thief_21
  · exact absurd c2 (by decide)
theorem dX10_dusty_0 : decode cX10_dusty 0 = .ok (.aload_n 0, 1) := by decide +kernel
theorem dX10_dusty_1 : decode cX10_dusty 1 = .ok (.iload_n 1, 1) := by decide +kernel
theorem dX10_dusty_2 : decode cX10_dusty 2 = .ok (.invokevirtual 472, 3) := by decide +kernel
theorem dX10_dusty_5 : decode cX10_dusty 5 = .ok (.ifCond .eq 32, 3) := by decide +kernel
theorem dX10_dusty_37 : decode cX10_dusty 37 = .ok (.iconst (-1), 1) := by decide +kernel
theorem dX10_dusty_38 : decode cX10_dusty 38 = .ok (.ireturn, 1) := by decide +kernel
theorem ce_X10_dusty : CeV RX10 yX10_dusty cX10_dusty 8 (some .int) 4 := ⟨tb_1799, tb_1800, tb_11, tb_1801, rfl, by decide, by decide, by decide +kernel⟩
set_option maxHeartbeats 4000000 in
set_option maxRecDepth 20000 in
theorem F_X10_dusty (l : Launch) (D : va_G) (A : Nat → Prop) (ad : Nat → Nat) (ns : List Nat) (I : MI) (L : ML) (G : MG) (a0 : Int32) (a1 : Int32) (a2 : Int32) (a3 : Int32) (hJ : SGM ns G) (hI : ∀ n k, 1000 ≤ n → n ≠ 1000 ∨ (k ≠ 33 ∧ k ≠ 57) → I n k = 0) : Met l yX10_dusty (wd yX10_dusty cX10_dusty 8 (some .int)) ({ frames := 2, cells := 0, slots := 0, locals := 41 }) (va_Pc [.ref (ad 1000), .int a0, .int a1, .int a2, .int a3] (PM D A ad ns I L G)) (va_Qi (fun r u => u = (ad, ns, I, L, G) ∧ r = -1) (BM D A) A) 0 0 A := by
  refine m_ofW (by decide) (Nat.le_of_ble_eq_true rfl) ?_
  intro p e s m below meth c ls args hC hE hM hA hS hl
  obtain ⟨hx, hb, hml, hown, hts, hr, hlocks, hin⟩ := hC
  have km1 : (-1 : Int32).toInt = -1 := by decide
  have k0 : (0 : Int32).toInt = 0 := by decide
  have hl : lv_has ls 8 [(0, .ref (ad (1000))), (1, .int (a0)), (2, .int (a1)), (3, .int (a2)), (4, .int (a3))] := hl
  refine lv_aload_n hx hb dX10_dusty_0 rfl (lv_at hl 0 rfl) ?_
  refine lv_iload_n hx hb dX10_dusty_1 rfl (lv_at hl 1 rfl) ?_
  refine m_calli (m_runV (1000) (As := [.int (a0)]) (rest := []) hx hb hml hown hts hE hM hS hA ce_X10_isBright tb_1698 (F_X10_isBright l D A ad ns I L G (a0) hJ hI) rfl rfl ⟨Nat.le_of_ble_eq_true rfl, Nat.le_of_ble_eq_true rfl⟩ hJ.1 rfl rfl (by decide) rfl hl.1 rfl (Nat.le_of_ble_eq_true rfl) dX10_dusty_2 ⟨Nat.le_of_ble_eq_true rfl, Nat.le_of_ble_eq_true rfl⟩) hS (fun r1 u H locs hw hM hS => ?_)
  obtain ⟨rfl, rfl⟩ := hw
  have hM : Mem D A ad ns I L G H := hM
  refine lv_if_eq (tgt := 37) hx hb dX10_dusty_5 (by decide) (fun c2 => ?_) (fun c2 => ?_)
  · have hc2 := c2
    have q2 := q_eq hc2
    refine lv_iconst (v := (-1)) hx hb dX10_dusty_37 (by decide) ?_
    exact m_iret hx hb hr hlocks hM hS (Nat.le_of_ble_eq_true rfl) (Nat.le_of_ble_eq_true rfl) ⟨rfl, rfl⟩ dX10_dusty_38
  · exact absurd c2 (by decide)
theorem dX10_dark_0 : decode cX10_dark 0 = .ok (.aload_n 0, 1) := by decide +kernel
theorem dX10_dark_1 : decode cX10_dark 1 = .ok (.iload_n 1, 1) := by decide +kernel
theorem dX10_dark_2 : decode cX10_dark 2 = .ok (.invokevirtual 458, 3) := by decide +kernel
theorem dX10_dark_5 : decode cX10_dark 5 = .ok (.ifCond .eq 23, 3) := by decide +kernel
theorem dX10_dark_28 : decode cX10_dark 28 = .ok (.iconst (-1), 1) := by decide +kernel
theorem dX10_dark_29 : decode cX10_dark 29 = .ok (.ireturn, 1) := by decide +kernel
theorem ce_X10_dark : CeV RX10 yX10_dark cX10_dark 6 (some .int) 3 := ⟨tb_1803, tb_1804, tb_11, tb_1805, rfl, by decide, by decide, by decide +kernel⟩
set_option maxHeartbeats 4000000 in
set_option maxRecDepth 20000 in
theorem F_X10_dark (l : Launch) (D : va_G) (A : Nat → Prop) (ad : Nat → Nat) (ns : List Nat) (I : MI) (L : ML) (G : MG) (a0 : Int32) (a1 : Int32) (a2 : Int32) (hJ : SGM ns G) (hI : ∀ n k, 1000 ≤ n → n ≠ 1000 ∨ (k ≠ 33 ∧ k ≠ 57) → I n k = 0) : Met l yX10_dark (wd yX10_dark cX10_dark 6 (some .int)) ({ frames := 2, cells := 0, slots := 0, locals := 41 }) (va_Pc [.ref (ad 1000), .int a0, .int a1, .int a2] (PM D A ad ns I L G)) (va_Qi (fun r u => u = (ad, ns, I, L, G) ∧ r = -1) (BM D A) A) 0 0 A := by
  refine m_ofW (by decide) (Nat.le_of_ble_eq_true rfl) ?_
  intro p e s m below meth c ls args hC hE hM hA hS hl
  obtain ⟨hx, hb, hml, hown, hts, hr, hlocks, hin⟩ := hC
  have km1 : (-1 : Int32).toInt = -1 := by decide
  have k0 : (0 : Int32).toInt = 0 := by decide
  have hl : lv_has ls 6 [(0, .ref (ad (1000))), (1, .int (a0)), (2, .int (a1)), (3, .int (a2))] := hl
  refine lv_aload_n hx hb dX10_dark_0 rfl (lv_at hl 0 rfl) ?_
  refine lv_iload_n hx hb dX10_dark_1 rfl (lv_at hl 1 rfl) ?_
  refine m_calli (m_runV (1000) (As := [.int (a0)]) (rest := []) hx hb hml hown hts hE hM hS hA ce_X10_isLaw tb_1608 (F_X10_isLaw l D A ad ns I L G (a0) hJ hI) rfl rfl ⟨Nat.le_of_ble_eq_true rfl, Nat.le_of_ble_eq_true rfl⟩ hJ.1 rfl rfl (by decide) rfl hl.1 rfl (Nat.le_of_ble_eq_true rfl) dX10_dark_2 ⟨Nat.le_of_ble_eq_true rfl, Nat.le_of_ble_eq_true rfl⟩) hS (fun r1 u H locs hw hM hS => ?_)
  obtain ⟨rfl, rfl⟩ := hw
  have hM : Mem D A ad ns I L G H := hM
  refine lv_if_eq (tgt := 28) hx hb dX10_dark_5 (by decide) (fun c2 => ?_) (fun c2 => ?_)
  · have hc2 := c2
    have q2 := q_eq hc2
    refine lv_iconst (v := (-1)) hx hb dX10_dark_28 (by decide) ?_
    exact m_iret hx hb hr hlocks hM hS (Nat.le_of_ble_eq_true rfl) (Nat.le_of_ble_eq_true rfl) ⟨rfl, rfl⟩ dX10_dark_29
  · exact absurd c2 (by decide)
theorem dX10_ahead_0 : decode cX10_ahead 0 = .ok (.aload_n 0, 1) := by decide +kernel
theorem dX10_ahead_1 : decode cX10_ahead 1 = .ok (.iload_n 1, 1) := by decide +kernel
theorem dX10_ahead_2 : decode cX10_ahead 2 = .ok (.invokevirtual 458, 3) := by decide +kernel
theorem dX10_ahead_5 : decode cX10_ahead 5 = .ok (.ifCond .eq 36, 3) := by decide +kernel
theorem dX10_ahead_41 : decode cX10_ahead 41 = .ok (.bipush (-3), 2) := by decide +kernel
theorem dX10_ahead_43 : decode cX10_ahead 43 = .ok (.ireturn, 1) := by decide +kernel
theorem ce_X10_ahead : CeV RX10 yX10_ahead cX10_ahead 5 (some .int) 3 := ⟨tb_1815, tb_1816, tb_11, tb_1817, rfl, by decide, by decide, by decide +kernel⟩
set_option maxHeartbeats 4000000 in
set_option maxRecDepth 20000 in
theorem F_X10_ahead (l : Launch) (D : va_G) (A : Nat → Prop) (ad : Nat → Nat) (ns : List Nat) (I : MI) (L : ML) (G : MG) (a0 : Int32) (a1 : Int32) (a2 : Int32) (hJ : SGM ns G) (hI : ∀ n k, 1000 ≤ n → n ≠ 1000 ∨ (k ≠ 33 ∧ k ≠ 57) → I n k = 0) : Met l yX10_ahead (wd yX10_ahead cX10_ahead 5 (some .int)) ({ frames := 2, cells := 0, slots := 0, locals := 41 }) (va_Pc [.ref (ad 1000), .int a0, .int a1, .int a2] (PM D A ad ns I L G)) (va_Qi (fun r u => u = (ad, ns, I, L, G) ∧ r = -3) (BM D A) A) 0 0 A := by
  refine m_ofW (by decide) (Nat.le_of_ble_eq_true rfl) ?_
  intro p e s m below meth c ls args hC hE hM hA hS hl
  obtain ⟨hx, hb, hml, hown, hts, hr, hlocks, hin⟩ := hC
  have km3 : (-3 : Int32).toInt = -3 := by decide
  have k0 : (0 : Int32).toInt = 0 := by decide
  have hl : lv_has ls 5 [(0, .ref (ad (1000))), (1, .int (a0)), (2, .int (a1)), (3, .int (a2))] := hl
  refine lv_aload_n hx hb dX10_ahead_0 rfl (lv_at hl 0 rfl) ?_
  refine lv_iload_n hx hb dX10_ahead_1 rfl (lv_at hl 1 rfl) ?_
  refine m_calli (m_runV (1000) (As := [.int (a0)]) (rest := []) hx hb hml hown hts hE hM hS hA ce_X10_isLaw tb_1608 (F_X10_isLaw l D A ad ns I L G (a0) hJ hI) rfl rfl ⟨Nat.le_of_ble_eq_true rfl, Nat.le_of_ble_eq_true rfl⟩ hJ.1 rfl rfl (by decide) rfl hl.1 rfl (Nat.le_of_ble_eq_true rfl) dX10_ahead_2 ⟨Nat.le_of_ble_eq_true rfl, Nat.le_of_ble_eq_true rfl⟩) hS (fun r1 u H locs hw hM hS => ?_)
  obtain ⟨rfl, rfl⟩ := hw
  have hM : Mem D A ad ns I L G H := hM
  refine lv_if_eq (tgt := 41) hx hb dX10_ahead_5 (by decide) (fun c2 => ?_) (fun c2 => ?_)
  · have hc2 := c2
    have q2 := q_eq hc2
    refine lv_bipush (v := (-3)) hx hb dX10_ahead_41 (by decide) ?_
    exact m_iret hx hb hr hlocks hM hS (Nat.le_of_ble_eq_true rfl) (Nat.le_of_ble_eq_true rfl) ⟨rfl, rfl⟩ dX10_ahead_43
  · exact absurd c2 (by decide)
theorem dX10_image_0 : decode cX10_image 0 = .ok (.iload_n 1, 1) := by decide +kernel
theorem dX10_image_1 : decode cX10_image 1 = .ok (.i2l, 1) := by decide +kernel
theorem dX10_image_2 : decode cX10_image 2 = .ok (.lconst 0, 1) := by decide +kernel
theorem dX10_image_3 : decode cX10_image 3 = .ok (.ldc2_w 224, 3) := by decide +kernel
theorem dX10_image_6 : decode cX10_image 6 = .ok (.invokestatic 192, 3) := by decide +kernel
theorem dX10_image_9 : decode cX10_image 9 = .ok (.ifCond .eq 10, 3) := by decide +kernel
theorem dX10_image_12 : decode cX10_image 12 = .ok (.aload_n 0, 1) := by decide +kernel
theorem dX10_image_13 : decode cX10_image 13 = .ok (.invokevirtual 188, 3) := by decide +kernel
theorem dX10_image_16 : decode cX10_image 16 = .ok (.ifCond .ne 5, 3) := by decide +kernel
theorem dX10_image_19 : decode cX10_image 19 = .ok (.iconst (-1), 1) := by decide +kernel
theorem dX10_image_20 : decode cX10_image 20 = .ok (.ireturn, 1) := by decide +kernel
theorem ce_X10_image : CeV RX10 yX10_image cX10_image 2 (some .int) 1 := ⟨tb_1825, tb_1826, tb_11, tb_1827, rfl, by decide, by decide, by decide +kernel⟩
set_option maxHeartbeats 4000000 in
set_option maxRecDepth 20000 in
theorem F_X10_image (l : Launch) (D : va_G) (A : Nat → Prop) (ad : Nat → Nat) (ns : List Nat) (I : MI) (L : ML) (G : MG) (a0 : Int32) (hJ : SGM ns G) (hI : ∀ n k, 1000 ≤ n → n ≠ 1000 ∨ (k ≠ 33 ∧ k ≠ 57) → I n k = 0) : Met l yX10_image (wd yX10_image cX10_image 2 (some .int)) ({ frames := 1, cells := 0, slots := 0, locals := 25 }) (va_Pc [.ref (ad 1000), .int a0] (PM D A ad ns I L G)) (va_Qi (fun r u => u = (ad, ns, I, L, G) ∧ r = -1) (BM D A) A) 0 0 A := by
  refine m_ofW (by decide) (Nat.le_of_ble_eq_true rfl) ?_
  intro p e s m below meth c ls args hC hE hM hA hS hl
  obtain ⟨hx, hb, hml, hown, hts, hr, hlocks, hin⟩ := hC
  have km1 : (-1 : Int32).toInt = -1 := by decide
  have k0 : (0 : Int32).toInt = 0 := by decide
  have kl0 : (0 : Int64).toInt = 0 := by decide
  have kl3 : (3 : Int64).toInt = 3 := by decide
  have hl : lv_has ls 2 [(0, .ref (ad (1000))), (1, .int (a0))] := hl
  refine lv_iload_n hx hb dX10_image_0 rfl (lv_at hl 1 rfl) ?_
  refine lv_i2l hx hb dX10_image_1 rfl ?_
  refine lv_topl (fun v1 ev1 => ?_)
  have tv1 := q_i2l ev1
  refine lv_lconst (v := 0) hx hb dX10_image_2 (by decide) ?_
  refine lv_ldc2 (v := (3)) hx hb hown (hts _ tb_1466) dX10_image_3 ?_
  refine m_calli (m_runS (As := [.long (v1), .long (0), .long ((3 : Int64))]) (rest := []) hx hb hml hown hts hE hM hS hA ce_X10_in tb_1425 (C_X10_in l D A ad ns I L G (v1) (0) ((3 : Int64))) rfl rfl ⟨Nat.le_of_ble_eq_true rfl, Nat.le_of_ble_eq_true rfl⟩  rfl hl.1 rfl (Nat.le_of_ble_eq_true rfl) dX10_image_6 ⟨Nat.le_of_ble_eq_true rfl, Nat.le_of_ble_eq_true rfl⟩) hS (fun r2 u H locs hw hM hS => ?_)
  obtain ⟨rfl, b_r2⟩ := hw
  have hM : Mem D A ad ns I L G H := hM
  refine lv_if_eq (tgt := 19) hx hb dX10_image_9 (by decide) (fun c3 => ?_) (fun c3 => ?_)
  · have hc3 := c3
    have q3 := b_r2.f hc3
    refine lv_iconst (v := (-1)) hx hb dX10_image_19 (by decide) ?_
    exact m_iret hx hb hr hlocks hM hS (Nat.le_of_ble_eq_true rfl) (Nat.le_of_ble_eq_true rfl) ⟨rfl, rfl⟩ dX10_image_20
  · have hc3 := c3
    have q3 := b_r2.t hc3
    refine lv_aload_n hx hb dX10_image_12 rfl (lv_at hl 0 rfl) ?_
    refine m_calli (m_runV (1000) (As := []) (rest := []) hx hb hml hown hts hE hM hS hA ce_X10_isTown tb_1441 (C_X10_isTown l D A ad ns I L G hJ) rfl rfl ⟨Nat.le_of_ble_eq_true rfl, Nat.le_of_ble_eq_true rfl⟩ hJ.1 rfl rfl (by decide) rfl hl.1 rfl (Nat.le_of_ble_eq_true rfl) dX10_image_13 ⟨Nat.le_of_ble_eq_true rfl, Nat.le_of_ble_eq_true rfl⟩) hS (fun r4 u H locs hw hM hS => ?_)
    obtain ⟨rfl, b_r4⟩ := hw
    have hM : Mem D A ad ns I L G H := hM
    obtain rfl : r4 = 0 := b_r4.z (by rw [hI 1001 0 (by decide) (by decide)]; decide)
    refine lv_if_ne (tgt := 21) hx hb dX10_image_16 (by decide) (fun c5 => ?_) (fun c5 => ?_)
    · exact absurd c5 (by decide)
    · have hc5 := c5
      have q5 := q_eq hc5
      refine lv_iconst (v := (-1)) hx hb dX10_image_19 (by decide) ?_
      exact m_iret hx hb hr hlocks hM hS (Nat.le_of_ble_eq_true rfl) (Nat.le_of_ble_eq_true rfl) ⟨rfl, rfl⟩ dX10_image_20
theorem dX10_back_0 : decode cX10_back 0 = .ok (.iload_n 1, 1) := by decide +kernel
theorem dX10_back_1 : decode cX10_back 1 = .ok (.i2l, 1) := by decide +kernel
theorem dX10_back_2 : decode cX10_back 2 = .ok (.lconst 0, 1) := by decide +kernel
theorem dX10_back_3 : decode cX10_back 3 = .ok (.ldc2_w 224, 3) := by decide +kernel
theorem dX10_back_6 : decode cX10_back 6 = .ok (.invokestatic 192, 3) := by decide +kernel
theorem dX10_back_9 : decode cX10_back 9 = .ok (.ifCond .eq 12, 3) := by decide +kernel
theorem dX10_back_12 : decode cX10_back 12 = .ok (.aload_n 0, 1) := by decide +kernel
theorem dX10_back_13 : decode cX10_back 13 = .ok (.getfield 182, 3) := by decide +kernel
theorem dX10_back_16 : decode cX10_back 16 = .ok (.iload_n 1, 1) := by decide +kernel
theorem dX10_back_17 : decode cX10_back 17 = .ok (.baload, 1) := by decide +kernel
theorem dX10_back_18 : decode cX10_back 18 = .ok (.ifCond .ne 5, 3) := by decide +kernel
theorem dX10_back_21 : decode cX10_back 21 = .ok (.iconst (-1), 1) := by decide +kernel
theorem dX10_back_22 : decode cX10_back 22 = .ok (.ireturn, 1) := by decide +kernel
theorem ce_X10_back : CeV RX10 yX10_back cX10_back 2 (some .int) 1 := ⟨tb_1837, tb_1838, tb_11, tb_1839, rfl, by decide, by decide, by decide +kernel⟩
set_option maxHeartbeats 4000000 in
set_option maxRecDepth 20000 in
theorem F_X10_back (l : Launch) (D : va_G) (A : Nat → Prop) (ad : Nat → Nat) (ns : List Nat) (I : MI) (L : ML) (G : MG) (a0 : Int32) (hJ : SGM ns G) (hI : ∀ n k, 1000 ≤ n → n ≠ 1000 ∨ (k ≠ 33 ∧ k ≠ 57) → I n k = 0) : Met l yX10_back (wd yX10_back cX10_back 2 (some .int)) ({ frames := 1, cells := 0, slots := 0, locals := 25 }) (va_Pc [.ref (ad 1000), .int a0] (PM D A ad ns I L G)) (va_Qi (fun r u => u = (ad, ns, I, L, G) ∧ r = -1) (BM D A) A) 0 0 A := by
  refine m_ofW (by decide) (Nat.le_of_ble_eq_true rfl) ?_
  intro p e s m below meth c ls args hC hE hM hA hS hl
  obtain ⟨hx, hb, hml, hown, hts, hr, hlocks, hin⟩ := hC
  have km1 : (-1 : Int32).toInt = -1 := by decide
  have k0 : (0 : Int32).toInt = 0 := by decide
  have kl0 : (0 : Int64).toInt = 0 := by decide
  have kl3 : (3 : Int64).toInt = 3 := by decide
  have hl : lv_has ls 2 [(0, .ref (ad (1000))), (1, .int (a0))] := hl
  refine lv_iload_n hx hb dX10_back_0 rfl (lv_at hl 1 rfl) ?_
  refine lv_i2l hx hb dX10_back_1 rfl ?_
  refine lv_topl (fun v1 ev1 => ?_)
  have tv1 := q_i2l ev1
  refine lv_lconst (v := 0) hx hb dX10_back_2 (by decide) ?_
  refine lv_ldc2 (v := (3)) hx hb hown (hts _ tb_1466) dX10_back_3 ?_
  refine m_calli (m_runS (As := [.long (v1), .long (0), .long ((3 : Int64))]) (rest := []) hx hb hml hown hts hE hM hS hA ce_X10_in tb_1425 (C_X10_in l D A ad ns I L G (v1) (0) ((3 : Int64))) rfl rfl ⟨Nat.le_of_ble_eq_true rfl, Nat.le_of_ble_eq_true rfl⟩  rfl hl.1 rfl (Nat.le_of_ble_eq_true rfl) dX10_back_6 ⟨Nat.le_of_ble_eq_true rfl, Nat.le_of_ble_eq_true rfl⟩) hS (fun r2 u H locs hw hM hS => ?_)
  obtain ⟨rfl, b_r2⟩ := hw
  have hM : Mem D A ad ns I L G H := hM
  refine lv_if_eq (tgt := 21) hx hb dX10_back_9 (by decide) (fun c3 => ?_) (fun c3 => ?_)
  · have hc3 := c3
    have q3 := b_r2.f hc3
    refine lv_iconst (v := (-1)) hx hb dX10_back_21 (by decide) ?_
    exact m_iret hx hb hr hlocks hM hS (Nat.le_of_ble_eq_true rfl) (Nat.le_of_ble_eq_true rfl) ⟨rfl, rfl⟩ dX10_back_22
  · have hc3 := c3
    have q3 := b_r2.t hc3
    refine lv_aload_n hx hb dX10_back_12 rfl (lv_at hl 0 rfl) ?_
    refine m_getr (1000) 77 (1077) hx hb hts hown hE oc10 hM hJ.1 rfl (by decide) rfl (hJ.2 77 (by decide)).2 (by decide) tb_1254 dX10_back_13 ?_
    refine lv_iload_n hx hb dX10_back_16 rfl (lv_at hl 1 rfl) ?_
    refine m_zald (1077) hx hb hE hM (hJ.2 77 (by decide)).1 rfl (vp_in_iff.mpr (by omega)) dX10_back_17 ?_
    rw [hI 1077 _ (by decide) (Or.inl (by decide))]
    refine lv_if_ne (tgt := 23) hx hb dX10_back_18 (by decide) (fun c4 => ?_) (fun c4 => ?_)
    · exact absurd c4 (by decide)
    · have hc4 := c4
      have q4 := q_eq hc4
      refine lv_iconst (v := (-1)) hx hb dX10_back_21 (by decide) ?_
      exact m_iret hx hb hr hlocks hM hS (Nat.le_of_ble_eq_true rfl) (Nat.le_of_ble_eq_true rfl) ⟨rfl, rfl⟩ dX10_back_22
end
section
def zI : MI := fun _ _ => 0
def zL : ML := fun _ _ => 0
def zG : MG := fun _ _ => 0
theorem dX8_init_0 : decode cX8_init 0 = .ok (.aload_n 0, 1) := by decide +kernel
theorem dX8_init_1 : decode cX8_init 1 = .ok (.invokespecial 3, 3) := by decide +kernel
theorem dX8_init_4 : decode cX8_init 4 = .ok (.aload_n 0, 1) := by decide +kernel
theorem dX8_init_5 : decode cX8_init 5 = .ok (.sipush 576, 3) := by decide +kernel
theorem dX8_init_8 : decode cX8_init 8 = .ok (.newarray .int, 2) := by decide +kernel
theorem dX8_init_10 : decode cX8_init 10 = .ok (.putfield 9, 3) := by decide +kernel
theorem dX8_init_13 : decode cX8_init 13 = .ok (.aload_n 0, 1) := by decide +kernel
theorem dX8_init_14 : decode cX8_init 14 = .ok (.sipush 576, 3) := by decide +kernel
theorem dX8_init_17 : decode cX8_init 17 = .ok (.newarray .int, 2) := by decide +kernel
theorem dX8_init_19 : decode cX8_init 19 = .ok (.putfield 15, 3) := by decide +kernel
theorem dX8_init_22 : decode cX8_init 22 = .ok (.aload_n 0, 1) := by decide +kernel
theorem dX8_init_23 : decode cX8_init 23 = .ok (.sipush 576, 3) := by decide +kernel
theorem dX8_init_26 : decode cX8_init 26 = .ok (.newarray .int, 2) := by decide +kernel
theorem dX8_init_28 : decode cX8_init 28 = .ok (.putfield 18, 3) := by decide +kernel
theorem dX8_init_31 : decode cX8_init 31 = .ok (.aload_n 0, 1) := by decide +kernel
theorem dX8_init_32 : decode cX8_init 32 = .ok (.sipush 576, 3) := by decide +kernel
theorem dX8_init_35 : decode cX8_init 35 = .ok (.newarray .int, 2) := by decide +kernel
theorem dX8_init_37 : decode cX8_init 37 = .ok (.putfield 21, 3) := by decide +kernel
theorem dX8_init_40 : decode cX8_init 40 = .ok (.aload_n 0, 1) := by decide +kernel
theorem dX8_init_41 : decode cX8_init 41 = .ok (.sipush 288, 3) := by decide +kernel
theorem dX8_init_44 : decode cX8_init 44 = .ok (.newarray .int, 2) := by decide +kernel
theorem dX8_init_46 : decode cX8_init 46 = .ok (.putfield 24, 3) := by decide +kernel
theorem dX8_init_49 : decode cX8_init 49 = .ok (.aload_n 0, 1) := by decide +kernel
theorem dX8_init_50 : decode cX8_init 50 = .ok (.sipush 288, 3) := by decide +kernel
theorem dX8_init_53 : decode cX8_init 53 = .ok (.newarray .int, 2) := by decide +kernel
theorem dX8_init_55 : decode cX8_init 55 = .ok (.putfield 27, 3) := by decide +kernel
theorem dX8_init_58 : decode cX8_init 58 = .ok (.aload_n 0, 1) := by decide +kernel
theorem dX8_init_59 : decode cX8_init 59 = .ok (.sipush 240, 3) := by decide +kernel
theorem dX8_init_62 : decode cX8_init 62 = .ok (.newarray .int, 2) := by decide +kernel
theorem dX8_init_64 : decode cX8_init 64 = .ok (.putfield 30, 3) := by decide +kernel
theorem dX8_init_67 : decode cX8_init 67 = .ok (.aload_n 0, 1) := by decide +kernel
theorem dX8_init_68 : decode cX8_init 68 = .ok (.bipush 56, 2) := by decide +kernel
theorem dX8_init_70 : decode cX8_init 70 = .ok (.newarray .int, 2) := by decide +kernel
theorem dX8_init_72 : decode cX8_init 72 = .ok (.putfield 33, 3) := by decide +kernel
theorem dX8_init_75 : decode cX8_init 75 = .ok (.return_, 1) := by decide +kernel
theorem ce_X8_init : CeI yX8_init cX8_init 1 0 := ⟨tb_31, tb_2, tb_32, by decide, by decide, by decide, by decide +kernel⟩
set_option maxHeartbeats 4000000 in
set_option maxRecDepth 20000 in
theorem C_X8_init (l : Launch) (D : va_G) (A : Nat → Prop) (ad : Nat → Nat) (ns : List Nat) (I : MI) (L : ML) (G : MG) (b : Nat) (hm : b ∈ ns) (hk : b ∈ tB) (f0 : b + 1 ∉ ns) (f1 : b + 2 ∉ ns) (f2 : b + 3 ∉ ns) (f3 : b + 4 ∉ ns) (f4 : b + 5 ∉ ns) (f5 : b + 6 ∉ ns) (f6 : b + 7 ∉ ns) (f7 : b + 8 ∉ ns) : Met l yX8_init (wd yX8_init cX8_init 1 none) ({ frames := 1, cells := 8, slots := 3176, locals := 12 }) (va_Pc [.ref (ad (b))] (PM D A ad ns I L G)) (va_Qv (fun u => ∃ ad2, u = (ad2, ((((((((ns ++ [b + 1]) ++ [b + 2]) ++ [b + 3]) ++ [b + 4]) ++ [b + 5]) ++ [b + 6]) ++ [b + 7]) ++ [b + 8]), I, L, (u2 (u2 (u2 (u2 (u2 (u2 (u2 (u2 G (b) 10 (b + 1)) (b) 11 (b + 2)) (b) 12 (b + 3)) (b) 13 (b + 4)) (b) 14 (b + 5)) (b) 15 (b + 6)) (b) 16 (b + 7)) (b) 17 (b + 8))) ∧ ∀ x ∈ ns, ad2 x = ad x) (BM D A) A) 8 3176 A := by
  refine m_ofW (by decide) (Nat.le_of_ble_eq_true rfl) ?_
  intro p e s m below meth c ls args hC hE hM hA hS hl
  obtain ⟨hx, hb, hml, hown, hts, hr, hlocks, hin⟩ := hC
  have k0 : (0 : Int32).toInt = 0 := by decide
  have k56 : (56 : Int32).toInt = 56 := by decide
  have k240 : (240 : Int32).toInt = 240 := by decide
  have k288 : (288 : Int32).toInt = 288 := by decide
  have k576 : (576 : Int32).toInt = 576 := by decide
  have hac : ∀ x ∈ ns, ad x = ad x := fun _ _ => rfl
  have hl : lv_has ls 1 [(0, .ref (ad (b)))] := hl
  refine lv_aload_n hx hb dX8_init_0 rfl (lv_at hl 0 rfl) ?_
  refine m_objI hx hb hml hown hts hl.1 tb_33 tb_26 tb_27 dX8_init_1 (Nat.le_of_ble_eq_true rfl) (Nat.le_of_ble_eq_true rfl) ?_
  refine lv_aload_n hx hb dX8_init_4 rfl (lv_at hl 0 rfl) ?_
  refine lv_sipush (v := (576)) hx hb dX8_init_5 (by decide) ?_
  refine m_newi (b + 1) (t0 := 0) hx hb hts hE hM hS hA (by simp [f0]) (by omega) (kT _ hk).2.1 (by decide) rfl (fun _ _ h => h) tb_121 rfl rfl (by decide) rfl (by decide) (Nat.le_of_ble_eq_true rfl) (Nat.le_of_ble_eq_true rfl) dX8_init_8 (fun H ad1 had hM hS => ?_)
  rw [← had (b) hm] at hl
  rw [← had (b) hm]
  have hac : ∀ x ∈ ns, ad1 x = ad x := fun x hx => (had x hx).trans (hac x hx)
  refine m_putF (b) 10 (b + 1) hx hb hts hown hin hE oc8 hM hS (List.mem_append_left _ hm) (kT _ hk).1 (by decide) rfl (by omega) (List.mem_append_right _ (List.mem_singleton.mpr rfl)) rfl rfl rfl rfl tb_66 dX8_init_10 (fun H locs G3 eG3 hM hS => ?_)
  subst eG3
  refine lv_aload_n hx hb dX8_init_13 rfl (lv_at hl 0 rfl) ?_
  refine lv_sipush (v := (576)) hx hb dX8_init_14 (by decide) ?_
  refine m_newi (b + 2) (t0 := 0) hx hb hts hE hM hS hA (by simp [f1]) (by omega) (kT _ hk).2.2.1 (by decide) rfl (fun _ _ h => h) tb_121 rfl rfl (by decide) rfl (by decide) (Nat.le_of_ble_eq_true rfl) (Nat.le_of_ble_eq_true rfl) dX8_init_17 (fun H ad4 had hM hS => ?_)
  rw [← had (b) (List.mem_append_left _ hm)] at hl
  rw [← had (b) (List.mem_append_left _ hm)]
  have hac : ∀ x ∈ ns, ad4 x = ad x := fun x hx => (had x (List.mem_append_left _ hx)).trans (hac x hx)
  refine m_putF (b) 11 (b + 2) hx hb hts hown hin hE oc8 hM hS (List.mem_append_left _ (List.mem_append_left _ hm)) (kT _ hk).1 (by decide) rfl (by omega) (List.mem_append_right _ (List.mem_singleton.mpr rfl)) rfl rfl rfl rfl tb_68 dX8_init_19 (fun H locs G6 eG6 hM hS => ?_)
  subst eG6
  refine lv_aload_n hx hb dX8_init_22 rfl (lv_at hl 0 rfl) ?_
  refine lv_sipush (v := (576)) hx hb dX8_init_23 (by decide) ?_
  refine m_newi (b + 3) (t0 := 0) hx hb hts hE hM hS hA (by simp [f2]) (by omega) (kT _ hk).2.2.2.1 (by decide) rfl (fun _ _ h => h) tb_121 rfl rfl (by decide) rfl (by decide) (Nat.le_of_ble_eq_true rfl) (Nat.le_of_ble_eq_true rfl) dX8_init_26 (fun H ad7 had hM hS => ?_)
  rw [← had (b) (List.mem_append_left _ (List.mem_append_left _ hm))] at hl
  rw [← had (b) (List.mem_append_left _ (List.mem_append_left _ hm))]
  have hac : ∀ x ∈ ns, ad7 x = ad x := fun x hx => (had x (List.mem_append_left _ (List.mem_append_left _ hx))).trans (hac x hx)
  refine m_putF (b) 12 (b + 3) hx hb hts hown hin hE oc8 hM hS (List.mem_append_left _ (List.mem_append_left _ (List.mem_append_left _ hm))) (kT _ hk).1 (by decide) rfl (by omega) (List.mem_append_right _ (List.mem_singleton.mpr rfl)) rfl rfl rfl rfl tb_71 dX8_init_28 (fun H locs G9 eG9 hM hS => ?_)
  subst eG9
  refine lv_aload_n hx hb dX8_init_31 rfl (lv_at hl 0 rfl) ?_
  refine lv_sipush (v := (576)) hx hb dX8_init_32 (by decide) ?_
  refine m_newi (b + 4) (t0 := 0) hx hb hts hE hM hS hA (by simp [f3]) (by omega) (kT _ hk).2.2.2.2.1 (by decide) rfl (fun _ _ h => h) tb_121 rfl rfl (by decide) rfl (by decide) (Nat.le_of_ble_eq_true rfl) (Nat.le_of_ble_eq_true rfl) dX8_init_35 (fun H ad10 had hM hS => ?_)
  rw [← had (b) (List.mem_append_left _ (List.mem_append_left _ (List.mem_append_left _ hm)))] at hl
  rw [← had (b) (List.mem_append_left _ (List.mem_append_left _ (List.mem_append_left _ hm)))]
  have hac : ∀ x ∈ ns, ad10 x = ad x := fun x hx => (had x (List.mem_append_left _ (List.mem_append_left _ (List.mem_append_left _ hx)))).trans (hac x hx)
  refine m_putF (b) 13 (b + 4) hx hb hts hown hin hE oc8 hM hS (List.mem_append_left _ (List.mem_append_left _ (List.mem_append_left _ (List.mem_append_left _ hm)))) (kT _ hk).1 (by decide) rfl (by omega) (List.mem_append_right _ (List.mem_singleton.mpr rfl)) rfl rfl rfl rfl tb_75 dX8_init_37 (fun H locs G12 eG12 hM hS => ?_)
  subst eG12
  refine lv_aload_n hx hb dX8_init_40 rfl (lv_at hl 0 rfl) ?_
  refine lv_sipush (v := (288)) hx hb dX8_init_41 (by decide) ?_
  refine m_newi (b + 5) (t0 := 0) hx hb hts hE hM hS hA (by simp [f4]) (by omega) (kT _ hk).2.2.2.2.2.1 (by decide) rfl (fun _ _ h => h) tb_121 rfl rfl (by decide) rfl (by decide) (Nat.le_of_ble_eq_true rfl) (Nat.le_of_ble_eq_true rfl) dX8_init_44 (fun H ad13 had hM hS => ?_)
  rw [← had (b) (List.mem_append_left _ (List.mem_append_left _ (List.mem_append_left _ (List.mem_append_left _ hm))))] at hl
  rw [← had (b) (List.mem_append_left _ (List.mem_append_left _ (List.mem_append_left _ (List.mem_append_left _ hm))))]
  have hac : ∀ x ∈ ns, ad13 x = ad x := fun x hx => (had x (List.mem_append_left _ (List.mem_append_left _ (List.mem_append_left _ (List.mem_append_left _ hx))))).trans (hac x hx)
  refine m_putF (b) 14 (b + 5) hx hb hts hown hin hE oc8 hM hS (List.mem_append_left _ (List.mem_append_left _ (List.mem_append_left _ (List.mem_append_left _ (List.mem_append_left _ hm))))) (kT _ hk).1 (by decide) rfl (by omega) (List.mem_append_right _ (List.mem_singleton.mpr rfl)) rfl rfl rfl rfl tb_78 dX8_init_46 (fun H locs G15 eG15 hM hS => ?_)
  subst eG15
  refine lv_aload_n hx hb dX8_init_49 rfl (lv_at hl 0 rfl) ?_
  refine lv_sipush (v := (288)) hx hb dX8_init_50 (by decide) ?_
  refine m_newi (b + 6) (t0 := 0) hx hb hts hE hM hS hA (by simp [f5]) (by omega) (kT _ hk).2.2.2.2.2.2.1 (by decide) rfl (fun _ _ h => h) tb_121 rfl rfl (by decide) rfl (by decide) (Nat.le_of_ble_eq_true rfl) (Nat.le_of_ble_eq_true rfl) dX8_init_53 (fun H ad16 had hM hS => ?_)
  rw [← had (b) (List.mem_append_left _ (List.mem_append_left _ (List.mem_append_left _ (List.mem_append_left _ (List.mem_append_left _ hm)))))] at hl
  rw [← had (b) (List.mem_append_left _ (List.mem_append_left _ (List.mem_append_left _ (List.mem_append_left _ (List.mem_append_left _ hm)))))]
  have hac : ∀ x ∈ ns, ad16 x = ad x := fun x hx => (had x (List.mem_append_left _ (List.mem_append_left _ (List.mem_append_left _ (List.mem_append_left _ (List.mem_append_left _ hx)))))).trans (hac x hx)
  refine m_putF (b) 15 (b + 6) hx hb hts hown hin hE oc8 hM hS (List.mem_append_left _ (List.mem_append_left _ (List.mem_append_left _ (List.mem_append_left _ (List.mem_append_left _ (List.mem_append_left _ hm)))))) (kT _ hk).1 (by decide) rfl (by omega) (List.mem_append_right _ (List.mem_singleton.mpr rfl)) rfl rfl rfl rfl tb_80 dX8_init_55 (fun H locs G18 eG18 hM hS => ?_)
  subst eG18
  refine lv_aload_n hx hb dX8_init_58 rfl (lv_at hl 0 rfl) ?_
  refine lv_sipush (v := (240)) hx hb dX8_init_59 (by decide) ?_
  refine m_newi (b + 7) (t0 := 0) hx hb hts hE hM hS hA (by simp [f6]) (by omega) (kT _ hk).2.2.2.2.2.2.2.1 (by decide) rfl (fun _ _ h => h) tb_121 rfl rfl (by decide) rfl (by decide) (Nat.le_of_ble_eq_true rfl) (Nat.le_of_ble_eq_true rfl) dX8_init_62 (fun H ad19 had hM hS => ?_)
  rw [← had (b) (List.mem_append_left _ (List.mem_append_left _ (List.mem_append_left _ (List.mem_append_left _ (List.mem_append_left _ (List.mem_append_left _ hm))))))] at hl
  rw [← had (b) (List.mem_append_left _ (List.mem_append_left _ (List.mem_append_left _ (List.mem_append_left _ (List.mem_append_left _ (List.mem_append_left _ hm))))))]
  have hac : ∀ x ∈ ns, ad19 x = ad x := fun x hx => (had x (List.mem_append_left _ (List.mem_append_left _ (List.mem_append_left _ (List.mem_append_left _ (List.mem_append_left _ (List.mem_append_left _ hx))))))).trans (hac x hx)
  refine m_putF (b) 16 (b + 7) hx hb hts hown hin hE oc8 hM hS (List.mem_append_left _ (List.mem_append_left _ (List.mem_append_left _ (List.mem_append_left _ (List.mem_append_left _ (List.mem_append_left _ (List.mem_append_left _ hm))))))) (kT _ hk).1 (by decide) rfl (by omega) (List.mem_append_right _ (List.mem_singleton.mpr rfl)) rfl rfl rfl rfl tb_82 dX8_init_64 (fun H locs G21 eG21 hM hS => ?_)
  subst eG21
  refine lv_aload_n hx hb dX8_init_67 rfl (lv_at hl 0 rfl) ?_
  refine lv_bipush (v := (56)) hx hb dX8_init_68 (by decide) ?_
  refine m_newi (b + 8) (t0 := 0) hx hb hts hE hM hS hA (by simp [f7]) (by omega) (kT _ hk).2.2.2.2.2.2.2.2.1 (by decide) rfl (fun _ _ h => h) tb_121 rfl rfl (by decide) rfl (by decide) (Nat.le_of_ble_eq_true rfl) (Nat.le_of_ble_eq_true rfl) dX8_init_70 (fun H ad22 had hM hS => ?_)
  rw [← had (b) (List.mem_append_left _ (List.mem_append_left _ (List.mem_append_left _ (List.mem_append_left _ (List.mem_append_left _ (List.mem_append_left _ (List.mem_append_left _ hm)))))))] at hl
  rw [← had (b) (List.mem_append_left _ (List.mem_append_left _ (List.mem_append_left _ (List.mem_append_left _ (List.mem_append_left _ (List.mem_append_left _ (List.mem_append_left _ hm)))))))]
  have hac : ∀ x ∈ ns, ad22 x = ad x := fun x hx => (had x (List.mem_append_left _ (List.mem_append_left _ (List.mem_append_left _ (List.mem_append_left _ (List.mem_append_left _ (List.mem_append_left _ (List.mem_append_left _ hx)))))))).trans (hac x hx)
  refine m_putF (b) 17 (b + 8) hx hb hts hown hin hE oc8 hM hS (List.mem_append_left _ (List.mem_append_left _ (List.mem_append_left _ (List.mem_append_left _ (List.mem_append_left _ (List.mem_append_left _ (List.mem_append_left _ (List.mem_append_left _ hm)))))))) (kT _ hk).1 (by decide) rfl (by omega) (List.mem_append_right _ (List.mem_singleton.mpr rfl)) rfl rfl rfl rfl tb_83 dX8_init_72 (fun H locs G24 eG24 hM hS => ?_)
  subst eG24
  exact m_vret hx hb hr hlocks hM hS (Nat.le_of_ble_eq_true rfl) (Nat.le_of_ble_eq_true rfl) ⟨_, rfl, hac⟩ dX8_init_75
theorem dX3_init_0 : decode cX3_init 0 = .ok (.aload_n 0, 1) := by decide +kernel
theorem dX3_init_1 : decode cX3_init 1 = .ok (.invokespecial 3, 3) := by decide +kernel
theorem dX3_init_4 : decode cX3_init 4 = .ok (.aload_n 0, 1) := by decide +kernel
theorem dX3_init_5 : decode cX3_init 5 = .ok (.sipush 400, 3) := by decide +kernel
theorem dX3_init_8 : decode cX3_init 8 = .ok (.newarray .int, 2) := by decide +kernel
theorem dX3_init_10 : decode cX3_init 10 = .ok (.putfield 9, 3) := by decide +kernel
theorem dX3_init_13 : decode cX3_init 13 = .ok (.aload_n 0, 1) := by decide +kernel
theorem dX3_init_14 : decode cX3_init 14 = .ok (.bipush 12, 2) := by decide +kernel
theorem dX3_init_16 : decode cX3_init 16 = .ok (.newarray .int, 2) := by decide +kernel
theorem dX3_init_18 : decode cX3_init 18 = .ok (.putfield 15, 3) := by decide +kernel
theorem dX3_init_21 : decode cX3_init 21 = .ok (.aload_n 0, 1) := by decide +kernel
theorem dX3_init_22 : decode cX3_init 22 = .ok (.bipush 12, 2) := by decide +kernel
theorem dX3_init_24 : decode cX3_init 24 = .ok (.newarray .int, 2) := by decide +kernel
theorem dX3_init_26 : decode cX3_init 26 = .ok (.putfield 18, 3) := by decide +kernel
theorem dX3_init_29 : decode cX3_init 29 = .ok (.aload_n 0, 1) := by decide +kernel
theorem dX3_init_30 : decode cX3_init 30 = .ok (.bipush 12, 2) := by decide +kernel
theorem dX3_init_32 : decode cX3_init 32 = .ok (.newarray .int, 2) := by decide +kernel
theorem dX3_init_34 : decode cX3_init 34 = .ok (.putfield 21, 3) := by decide +kernel
theorem dX3_init_37 : decode cX3_init 37 = .ok (.aload_n 0, 1) := by decide +kernel
theorem dX3_init_38 : decode cX3_init 38 = .ok (.bipush 12, 2) := by decide +kernel
theorem dX3_init_40 : decode cX3_init 40 = .ok (.newarray .int, 2) := by decide +kernel
theorem dX3_init_42 : decode cX3_init 42 = .ok (.putfield 24, 3) := by decide +kernel
theorem dX3_init_45 : decode cX3_init 45 = .ok (.return_, 1) := by decide +kernel
theorem ce_X3_init : CeI yX3_init cX3_init 1 0 := ⟨tb_366, tb_10, tb_367, by decide, by decide, by decide, by decide +kernel⟩
set_option maxHeartbeats 4000000 in
set_option maxRecDepth 20000 in
theorem C_X3_init (l : Launch) (D : va_G) (A : Nat → Prop) (ad : Nat → Nat) (ns : List Nat) (I : MI) (L : ML) (G : MG) (b : Nat) (hm : b ∈ ns) (hk : b ∈ lB) (f0 : b + 1 ∉ ns) (f1 : b + 2 ∉ ns) (f2 : b + 3 ∉ ns) (f3 : b + 4 ∉ ns) (f4 : b + 5 ∉ ns) : Met l yX3_init (wd yX3_init cX3_init 1 none) ({ frames := 1, cells := 5, slots := 448, locals := 12 }) (va_Pc [.ref (ad (b))] (PM D A ad ns I L G)) (va_Qv (fun u => ∃ ad2, u = (ad2, (((((ns ++ [b + 1]) ++ [b + 2]) ++ [b + 3]) ++ [b + 4]) ++ [b + 5]), I, L, (u2 (u2 (u2 (u2 (u2 G (b) 0 (b + 1)) (b) 1 (b + 2)) (b) 2 (b + 3)) (b) 3 (b + 4)) (b) 4 (b + 5))) ∧ ∀ x ∈ ns, ad2 x = ad x) (BM D A) A) 5 448 A := by
  refine m_ofW (by decide) (Nat.le_of_ble_eq_true rfl) ?_
  intro p e s m below meth c ls args hC hE hM hA hS hl
  obtain ⟨hx, hb, hml, hown, hts, hr, hlocks, hin⟩ := hC
  have k0 : (0 : Int32).toInt = 0 := by decide
  have k12 : (12 : Int32).toInt = 12 := by decide
  have k400 : (400 : Int32).toInt = 400 := by decide
  have hac : ∀ x ∈ ns, ad x = ad x := fun _ _ => rfl
  have hl : lv_has ls 1 [(0, .ref (ad (b)))] := hl
  refine lv_aload_n hx hb dX3_init_0 rfl (lv_at hl 0 rfl) ?_
  refine m_objI hx hb hml hown hts hl.1 tb_368 tb_26 tb_27 dX3_init_1 (Nat.le_of_ble_eq_true rfl) (Nat.le_of_ble_eq_true rfl) ?_
  refine lv_aload_n hx hb dX3_init_4 rfl (lv_at hl 0 rfl) ?_
  refine lv_sipush (v := (400)) hx hb dX3_init_5 (by decide) ?_
  refine m_newi (b + 1) (t0 := 0) hx hb hts hE hM hS hA (by simp [f0]) (by omega) (kW _ hk).2.1 (by decide) rfl (fun _ _ h => h) tb_121 rfl rfl (by decide) rfl (by decide) (Nat.le_of_ble_eq_true rfl) (Nat.le_of_ble_eq_true rfl) dX3_init_8 (fun H ad1 had hM hS => ?_)
  rw [← had (b) hm] at hl
  rw [← had (b) hm]
  have hac : ∀ x ∈ ns, ad1 x = ad x := fun x hx => (had x hx).trans (hac x hx)
  refine m_putF (b) 0 (b + 1) hx hb hts hown hin hE oc3 hM hS (List.mem_append_left _ hm) (kW _ hk).1 (by decide) rfl (by omega) (List.mem_append_right _ (List.mem_singleton.mpr rfl)) rfl rfl rfl rfl tb_369 dX3_init_10 (fun H locs G3 eG3 hM hS => ?_)
  subst eG3
  refine lv_aload_n hx hb dX3_init_13 rfl (lv_at hl 0 rfl) ?_
  refine lv_bipush (v := (12)) hx hb dX3_init_14 (by decide) ?_
  refine m_newi (b + 2) (t0 := 0) hx hb hts hE hM hS hA (by simp [f1]) (by omega) (kW _ hk).2.2.1 (by decide) rfl (fun _ _ h => h) tb_121 rfl rfl (by decide) rfl (by decide) (Nat.le_of_ble_eq_true rfl) (Nat.le_of_ble_eq_true rfl) dX3_init_16 (fun H ad4 had hM hS => ?_)
  rw [← had (b) (List.mem_append_left _ hm)] at hl
  rw [← had (b) (List.mem_append_left _ hm)]
  have hac : ∀ x ∈ ns, ad4 x = ad x := fun x hx => (had x (List.mem_append_left _ hx)).trans (hac x hx)
  refine m_putF (b) 1 (b + 2) hx hb hts hown hin hE oc3 hM hS (List.mem_append_left _ (List.mem_append_left _ hm)) (kW _ hk).1 (by decide) rfl (by omega) (List.mem_append_right _ (List.mem_singleton.mpr rfl)) rfl rfl rfl rfl tb_371 dX3_init_18 (fun H locs G6 eG6 hM hS => ?_)
  subst eG6
  refine lv_aload_n hx hb dX3_init_21 rfl (lv_at hl 0 rfl) ?_
  refine lv_bipush (v := (12)) hx hb dX3_init_22 (by decide) ?_
  refine m_newi (b + 3) (t0 := 0) hx hb hts hE hM hS hA (by simp [f2]) (by omega) (kW _ hk).2.2.2.1 (by decide) rfl (fun _ _ h => h) tb_121 rfl rfl (by decide) rfl (by decide) (Nat.le_of_ble_eq_true rfl) (Nat.le_of_ble_eq_true rfl) dX3_init_24 (fun H ad7 had hM hS => ?_)
  rw [← had (b) (List.mem_append_left _ (List.mem_append_left _ hm))] at hl
  rw [← had (b) (List.mem_append_left _ (List.mem_append_left _ hm))]
  have hac : ∀ x ∈ ns, ad7 x = ad x := fun x hx => (had x (List.mem_append_left _ (List.mem_append_left _ hx))).trans (hac x hx)
  refine m_putF (b) 2 (b + 3) hx hb hts hown hin hE oc3 hM hS (List.mem_append_left _ (List.mem_append_left _ (List.mem_append_left _ hm))) (kW _ hk).1 (by decide) rfl (by omega) (List.mem_append_right _ (List.mem_singleton.mpr rfl)) rfl rfl rfl rfl tb_373 dX3_init_26 (fun H locs G9 eG9 hM hS => ?_)
  subst eG9
  refine lv_aload_n hx hb dX3_init_29 rfl (lv_at hl 0 rfl) ?_
  refine lv_bipush (v := (12)) hx hb dX3_init_30 (by decide) ?_
  refine m_newi (b + 4) (t0 := 0) hx hb hts hE hM hS hA (by simp [f3]) (by omega) (kW _ hk).2.2.2.2.1 (by decide) rfl (fun _ _ h => h) tb_121 rfl rfl (by decide) rfl (by decide) (Nat.le_of_ble_eq_true rfl) (Nat.le_of_ble_eq_true rfl) dX3_init_32 (fun H ad10 had hM hS => ?_)
  rw [← had (b) (List.mem_append_left _ (List.mem_append_left _ (List.mem_append_left _ hm)))] at hl
  rw [← had (b) (List.mem_append_left _ (List.mem_append_left _ (List.mem_append_left _ hm)))]
  have hac : ∀ x ∈ ns, ad10 x = ad x := fun x hx => (had x (List.mem_append_left _ (List.mem_append_left _ (List.mem_append_left _ hx)))).trans (hac x hx)
  refine m_putF (b) 3 (b + 4) hx hb hts hown hin hE oc3 hM hS (List.mem_append_left _ (List.mem_append_left _ (List.mem_append_left _ (List.mem_append_left _ hm)))) (kW _ hk).1 (by decide) rfl (by omega) (List.mem_append_right _ (List.mem_singleton.mpr rfl)) rfl rfl rfl rfl tb_375 dX3_init_34 (fun H locs G12 eG12 hM hS => ?_)
  subst eG12
  refine lv_aload_n hx hb dX3_init_37 rfl (lv_at hl 0 rfl) ?_
  refine lv_bipush (v := (12)) hx hb dX3_init_38 (by decide) ?_
  refine m_newi (b + 5) (t0 := 0) hx hb hts hE hM hS hA (by simp [f4]) (by omega) (kW _ hk).2.2.2.2.2.1 (by decide) rfl (fun _ _ h => h) tb_121 rfl rfl (by decide) rfl (by decide) (Nat.le_of_ble_eq_true rfl) (Nat.le_of_ble_eq_true rfl) dX3_init_40 (fun H ad13 had hM hS => ?_)
  rw [← had (b) (List.mem_append_left _ (List.mem_append_left _ (List.mem_append_left _ (List.mem_append_left _ hm))))] at hl
  rw [← had (b) (List.mem_append_left _ (List.mem_append_left _ (List.mem_append_left _ (List.mem_append_left _ hm))))]
  have hac : ∀ x ∈ ns, ad13 x = ad x := fun x hx => (had x (List.mem_append_left _ (List.mem_append_left _ (List.mem_append_left _ (List.mem_append_left _ hx))))).trans (hac x hx)
  refine m_putF (b) 4 (b + 5) hx hb hts hown hin hE oc3 hM hS (List.mem_append_left _ (List.mem_append_left _ (List.mem_append_left _ (List.mem_append_left _ (List.mem_append_left _ hm))))) (kW _ hk).1 (by decide) rfl (by omega) (List.mem_append_right _ (List.mem_singleton.mpr rfl)) rfl rfl rfl rfl tb_377 dX3_init_42 (fun H locs G15 eG15 hM hS => ?_)
  subst eG15
  exact m_vret hx hb hr hlocks hM hS (Nat.le_of_ble_eq_true rfl) (Nat.le_of_ble_eq_true rfl) ⟨_, rfl, hac⟩ dX3_init_45
theorem dX1_init_0 : decode cX1_init 0 = .ok (.aload_n 0, 1) := by decide +kernel
theorem dX1_init_1 : decode cX1_init 1 = .ok (.invokespecial 3, 3) := by decide +kernel
theorem dX1_init_4 : decode cX1_init 4 = .ok (.aload_n 0, 1) := by decide +kernel
theorem dX1_init_5 : decode cX1_init 5 = .ok (.bipush 8, 2) := by decide +kernel
theorem dX1_init_7 : decode cX1_init 7 = .ok (.newarray .int, 2) := by decide +kernel
theorem dX1_init_9 : decode cX1_init 9 = .ok (.putfield 9, 3) := by decide +kernel
theorem dX1_init_12 : decode cX1_init 12 = .ok (.aload_n 0, 1) := by decide +kernel
theorem dX1_init_13 : decode cX1_init 13 = .ok (.sipush 576, 3) := by decide +kernel
theorem dX1_init_16 : decode cX1_init 16 = .ok (.newarray .int, 2) := by decide +kernel
theorem dX1_init_18 : decode cX1_init 18 = .ok (.putfield 15, 3) := by decide +kernel
theorem dX1_init_21 : decode cX1_init 21 = .ok (.aload_n 0, 1) := by decide +kernel
theorem dX1_init_22 : decode cX1_init 22 = .ok (.bipush 60, 2) := by decide +kernel
theorem dX1_init_24 : decode cX1_init 24 = .ok (.newarray .int, 2) := by decide +kernel
theorem dX1_init_26 : decode cX1_init 26 = .ok (.putfield 18, 3) := by decide +kernel
theorem dX1_init_29 : decode cX1_init 29 = .ok (.aload_n 0, 1) := by decide +kernel
theorem dX1_init_30 : decode cX1_init 30 = .ok (.bipush 60, 2) := by decide +kernel
theorem dX1_init_32 : decode cX1_init 32 = .ok (.newarray .int, 2) := by decide +kernel
theorem dX1_init_34 : decode cX1_init 34 = .ok (.putfield 21, 3) := by decide +kernel
theorem dX1_init_37 : decode cX1_init 37 = .ok (.return_, 1) := by decide +kernel
theorem ce_X1_init : CeI yX1_init cX1_init 1 0 := ⟨tb_126, tb_3, tb_127, by decide, by decide, by decide, by decide +kernel⟩
set_option maxHeartbeats 4000000 in
set_option maxRecDepth 20000 in
theorem C_X1_init (l : Launch) (D : va_G) (A : Nat → Prop) (ad : Nat → Nat) (ns : List Nat) (I : MI) (L : ML) (G : MG) (hm : 10 ∈ ns) (f0 : 11 ∉ ns) (f1 : 12 ∉ ns) (f2 : 13 ∉ ns) (f3 : 14 ∉ ns) : Met l yX1_init (wd yX1_init cX1_init 1 none) ({ frames := 1, cells := 4, slots := 704, locals := 12 }) (va_Pc [.ref (ad (10))] (PM D A ad ns I L G)) (va_Qv (fun u => ∃ ad2, u = (ad2, ((((ns ++ [11]) ++ [12]) ++ [13]) ++ [14]), I, L, (u2 (u2 (u2 (u2 G (10) 0 (11)) (10) 1 (12)) (10) 9 (13)) (10) 10 (14))) ∧ ∀ x ∈ ns, ad2 x = ad x) (BM D A) A) 4 704 A := by
  refine m_ofW (by decide) (Nat.le_of_ble_eq_true rfl) ?_
  intro p e s m below meth c ls args hC hE hM hA hS hl
  obtain ⟨hx, hb, hml, hown, hts, hr, hlocks, hin⟩ := hC
  have k0 : (0 : Int32).toInt = 0 := by decide
  have k8 : (8 : Int32).toInt = 8 := by decide
  have k60 : (60 : Int32).toInt = 60 := by decide
  have k576 : (576 : Int32).toInt = 576 := by decide
  have hac : ∀ x ∈ ns, ad x = ad x := fun _ _ => rfl
  have hl : lv_has ls 1 [(0, .ref (ad (10)))] := hl
  refine lv_aload_n hx hb dX1_init_0 rfl (lv_at hl 0 rfl) ?_
  refine m_objI hx hb hml hown hts hl.1 tb_128 tb_26 tb_27 dX1_init_1 (Nat.le_of_ble_eq_true rfl) (Nat.le_of_ble_eq_true rfl) ?_
  refine lv_aload_n hx hb dX1_init_4 rfl (lv_at hl 0 rfl) ?_
  refine lv_bipush (v := (8)) hx hb dX1_init_5 (by decide) ?_
  refine m_newi (11) (t0 := 0) hx hb hts hE hM hS hA (by simp [f0]) (by decide) rfl (by decide) rfl (fun _ _ h => h) tb_121 rfl rfl (by decide) rfl (by decide) (Nat.le_of_ble_eq_true rfl) (Nat.le_of_ble_eq_true rfl) dX1_init_7 (fun H ad1 had hM hS => ?_)
  rw [← had (10) hm] at hl
  rw [← had (10) hm]
  have hac : ∀ x ∈ ns, ad1 x = ad x := fun x hx => (had x hx).trans (hac x hx)
  refine m_putF (10) 0 (11) hx hb hts hown hin hE oc1 hM hS (List.mem_append_left _ hm) rfl (by decide) rfl (by decide) (List.mem_append_right _ (List.mem_singleton.mpr rfl)) rfl rfl rfl rfl tb_129 dX1_init_9 (fun H locs G3 eG3 hM hS => ?_)
  subst eG3
  refine lv_aload_n hx hb dX1_init_12 rfl (lv_at hl 0 rfl) ?_
  refine lv_sipush (v := (576)) hx hb dX1_init_13 (by decide) ?_
  refine m_newi (12) (t0 := 0) hx hb hts hE hM hS hA (by simp [f1]) (by decide) rfl (by decide) rfl (fun _ _ h => h) tb_121 rfl rfl (by decide) rfl (by decide) (Nat.le_of_ble_eq_true rfl) (Nat.le_of_ble_eq_true rfl) dX1_init_16 (fun H ad4 had hM hS => ?_)
  rw [← had (10) (List.mem_append_left _ hm)] at hl
  rw [← had (10) (List.mem_append_left _ hm)]
  have hac : ∀ x ∈ ns, ad4 x = ad x := fun x hx => (had x (List.mem_append_left _ hx)).trans (hac x hx)
  refine m_putF (10) 1 (12) hx hb hts hown hin hE oc1 hM hS (List.mem_append_left _ (List.mem_append_left _ hm)) rfl (by decide) rfl (by decide) (List.mem_append_right _ (List.mem_singleton.mpr rfl)) rfl rfl rfl rfl tb_134 dX1_init_18 (fun H locs G6 eG6 hM hS => ?_)
  subst eG6
  refine lv_aload_n hx hb dX1_init_21 rfl (lv_at hl 0 rfl) ?_
  refine lv_bipush (v := (60)) hx hb dX1_init_22 (by decide) ?_
  refine m_newi (13) (t0 := 0) hx hb hts hE hM hS hA (by simp [f2]) (by decide) rfl (by decide) rfl (fun _ _ h => h) tb_121 rfl rfl (by decide) rfl (by decide) (Nat.le_of_ble_eq_true rfl) (Nat.le_of_ble_eq_true rfl) dX1_init_24 (fun H ad7 had hM hS => ?_)
  rw [← had (10) (List.mem_append_left _ (List.mem_append_left _ hm))] at hl
  rw [← had (10) (List.mem_append_left _ (List.mem_append_left _ hm))]
  have hac : ∀ x ∈ ns, ad7 x = ad x := fun x hx => (had x (List.mem_append_left _ (List.mem_append_left _ hx))).trans (hac x hx)
  refine m_putF (10) 9 (13) hx hb hts hown hin hE oc1 hM hS (List.mem_append_left _ (List.mem_append_left _ (List.mem_append_left _ hm))) rfl (by decide) rfl (by decide) (List.mem_append_right _ (List.mem_singleton.mpr rfl)) rfl rfl rfl rfl tb_148 dX1_init_26 (fun H locs G9 eG9 hM hS => ?_)
  subst eG9
  refine lv_aload_n hx hb dX1_init_29 rfl (lv_at hl 0 rfl) ?_
  refine lv_bipush (v := (60)) hx hb dX1_init_30 (by decide) ?_
  refine m_newi (14) (t0 := 0) hx hb hts hE hM hS hA (by simp [f3]) (by decide) rfl (by decide) rfl (fun _ _ h => h) tb_121 rfl rfl (by decide) rfl (by decide) (Nat.le_of_ble_eq_true rfl) (Nat.le_of_ble_eq_true rfl) dX1_init_32 (fun H ad10 had hM hS => ?_)
  rw [← had (10) (List.mem_append_left _ (List.mem_append_left _ (List.mem_append_left _ hm)))] at hl
  rw [← had (10) (List.mem_append_left _ (List.mem_append_left _ (List.mem_append_left _ hm)))]
  have hac : ∀ x ∈ ns, ad10 x = ad x := fun x hx => (had x (List.mem_append_left _ (List.mem_append_left _ (List.mem_append_left _ hx)))).trans (hac x hx)
  refine m_putF (10) 10 (14) hx hb hts hown hin hE oc1 hM hS (List.mem_append_left _ (List.mem_append_left _ (List.mem_append_left _ (List.mem_append_left _ hm)))) rfl (by decide) rfl (by decide) (List.mem_append_right _ (List.mem_singleton.mpr rfl)) rfl rfl rfl rfl tb_149 dX1_init_34 (fun H locs G12 eG12 hM hS => ?_)
  subst eG12
  exact m_vret hx hb hr hlocks hM hS (Nat.le_of_ble_eq_true rfl) (Nat.le_of_ble_eq_true rfl) ⟨_, rfl, hac⟩ dX1_init_37
theorem dX2_init_0 : decode cX2_init 0 = .ok (.aload_n 0, 1) := by decide +kernel
theorem dX2_init_1 : decode cX2_init 1 = .ok (.invokespecial 3, 3) := by decide +kernel
theorem dX2_init_4 : decode cX2_init 4 = .ok (.aload_n 0, 1) := by decide +kernel
theorem dX2_init_5 : decode cX2_init 5 = .ok (.bipush 8, 2) := by decide +kernel
theorem dX2_init_7 : decode cX2_init 7 = .ok (.newarray .int, 2) := by decide +kernel
theorem dX2_init_9 : decode cX2_init 9 = .ok (.putfield 9, 3) := by decide +kernel
theorem dX2_init_12 : decode cX2_init 12 = .ok (.aload_n 0, 1) := by decide +kernel
theorem dX2_init_13 : decode cX2_init 13 = .ok (.bipush 64, 2) := by decide +kernel
theorem dX2_init_15 : decode cX2_init 15 = .ok (.newarray .long, 2) := by decide +kernel
theorem dX2_init_17 : decode cX2_init 17 = .ok (.putfield 15, 3) := by decide +kernel
theorem dX2_init_20 : decode cX2_init 20 = .ok (.aload_n 0, 1) := by decide +kernel
theorem dX2_init_21 : decode cX2_init 21 = .ok (.aload_n 1, 1) := by decide +kernel
theorem dX2_init_22 : decode cX2_init 22 = .ok (.putfield 19, 3) := by decide +kernel
theorem dX2_init_25 : decode cX2_init 25 = .ok (.return_, 1) := by decide +kernel
theorem ce_X2_init : CeI yX2_init cX2_init 2 1 := ⟨tb_182, tb_4, tb_183, by decide, by decide, by decide, by decide +kernel⟩
set_option maxHeartbeats 4000000 in
set_option maxRecDepth 20000 in
theorem C_X2_init (l : Launch) (D : va_G) (A : Nat → Prop) (ad : Nat → Nat) (ns : List Nat) (I : MI) (L : ML) (G : MG) (hm : 20 ∈ ns) (hr0 : 10 ∈ ns) (f0 : 21 ∉ ns) (f1 : 22 ∉ ns) : Met l yX2_init (wd yX2_init cX2_init 2 none) ({ frames := 1, cells := 2, slots := 72, locals := 12 }) (va_Pc [.ref (ad (20)), .ref (ad (10))] (PM D A ad ns I L G)) (va_Qv (fun u => ∃ ad2, u = (ad2, ((ns ++ [21]) ++ [22]), I, L, (u2 (u2 (u2 G (20) 1 (21)) (20) 2 (22)) (20) 0 (10))) ∧ ∀ x ∈ ns, ad2 x = ad x) (BM D A) A) 2 72 A := by
  refine m_ofW (by decide) (Nat.le_of_ble_eq_true rfl) ?_
  intro p e s m below meth c ls args hC hE hM hA hS hl
  obtain ⟨hx, hb, hml, hown, hts, hr, hlocks, hin⟩ := hC
  have k0 : (0 : Int32).toInt = 0 := by decide
  have k8 : (8 : Int32).toInt = 8 := by decide
  have k64 : (64 : Int32).toInt = 64 := by decide
  have hac : ∀ x ∈ ns, ad x = ad x := fun _ _ => rfl
  have hl : lv_has ls 2 [(0, .ref (ad (20))), (1, .ref (ad (10)))] := hl
  refine lv_aload_n hx hb dX2_init_0 rfl (lv_at hl 0 rfl) ?_
  refine m_objI hx hb hml hown hts hl.1 tb_184 tb_26 tb_27 dX2_init_1 (Nat.le_of_ble_eq_true rfl) (Nat.le_of_ble_eq_true rfl) ?_
  refine lv_aload_n hx hb dX2_init_4 rfl (lv_at hl 0 rfl) ?_
  refine lv_bipush (v := (8)) hx hb dX2_init_5 (by decide) ?_
  refine m_newi (21) (t0 := 0) hx hb hts hE hM hS hA (by simp [f0]) (by decide) rfl (by decide) rfl (fun _ _ h => h) tb_121 rfl rfl (by decide) rfl (by decide) (Nat.le_of_ble_eq_true rfl) (Nat.le_of_ble_eq_true rfl) dX2_init_7 (fun H ad1 had hM hS => ?_)
  rw [← had (20) hm] at hl
  rw [← had (10) hr0] at hl
  rw [← had (20) hm]
  have hac : ∀ x ∈ ns, ad1 x = ad x := fun x hx => (had x hx).trans (hac x hx)
  refine m_putF (20) 1 (21) hx hb hts hown hin hE oc2 hM hS (List.mem_append_left _ hm) rfl (by decide) rfl (by decide) (List.mem_append_right _ (List.mem_singleton.mpr rfl)) rfl rfl rfl rfl tb_186 dX2_init_9 (fun H locs G3 eG3 hM hS => ?_)
  subst eG3
  refine lv_aload_n hx hb dX2_init_12 rfl (lv_at hl 0 rfl) ?_
  refine lv_bipush (v := (64)) hx hb dX2_init_13 (by decide) ?_
  refine m_newl (22) hx hb hts hE hM hS hA (by simp [f1]) (by decide) rfl tb_198 (by decide) rfl (by decide) (Nat.le_of_ble_eq_true rfl) (Nat.le_of_ble_eq_true rfl) dX2_init_15 (fun H ad4 had hM hS => ?_)
  rw [← had (20) (List.mem_append_left _ hm)] at hl
  rw [← had (10) (List.mem_append_left _ hr0)] at hl
  rw [← had (20) (List.mem_append_left _ hm)]
  have hac : ∀ x ∈ ns, ad4 x = ad x := fun x hx => (had x (List.mem_append_left _ hx)).trans (hac x hx)
  refine m_putF (20) 2 (22) hx hb hts hown hin hE oc2 hM hS (List.mem_append_left _ (List.mem_append_left _ hm)) rfl (by decide) rfl (by decide) (List.mem_append_right _ (List.mem_singleton.mpr rfl)) rfl rfl rfl rfl tb_187 dX2_init_17 (fun H locs G6 eG6 hM hS => ?_)
  subst eG6
  refine lv_aload_n hx hb dX2_init_20 rfl (lv_at hl 0 rfl) ?_
  refine lv_aload_n hx hb dX2_init_21 rfl (lv_at hl 1 rfl) ?_
  refine m_putF (20) 0 (10) hx hb hts hown hin hE oc2 hM hS (List.mem_append_left _ (List.mem_append_left _ hm)) rfl (by decide) rfl (by decide) (List.mem_append_left _ (List.mem_append_left _ hr0)) rfl rfl rfl rfl tb_185 dX2_init_22 (fun H locs G8 eG8 hM hS => ?_)
  subst eG8
  exact m_vret hx hb hr hlocks hM hS (Nat.le_of_ble_eq_true rfl) (Nat.le_of_ble_eq_true rfl) ⟨_, rfl, hac⟩ dX2_init_25
theorem dX0_init_0 : decode cX0_init 0 = .ok (.aload_n 0, 1) := by decide +kernel
theorem dX0_init_1 : decode cX0_init 1 = .ok (.invokespecial 3, 3) := by decide +kernel
theorem dX0_init_4 : decode cX0_init 4 = .ok (.aload_n 0, 1) := by decide +kernel
theorem dX0_init_5 : decode cX0_init 5 = .ok (.iconst 4, 1) := by decide +kernel
theorem dX0_init_6 : decode cX0_init 6 = .ok (.newarray .int, 2) := by decide +kernel
theorem dX0_init_8 : decode cX0_init 8 = .ok (.putfield 9, 3) := by decide +kernel
theorem dX0_init_11 : decode cX0_init 11 = .ok (.aload_n 0, 1) := by decide +kernel
theorem dX0_init_12 : decode cX0_init 12 = .ok (.iconst 4, 1) := by decide +kernel
theorem dX0_init_13 : decode cX0_init 13 = .ok (.newarray .int, 2) := by decide +kernel
theorem dX0_init_15 : decode cX0_init 15 = .ok (.putfield 15, 3) := by decide +kernel
theorem dX0_init_18 : decode cX0_init 18 = .ok (.aload_n 0, 1) := by decide +kernel
theorem dX0_init_19 : decode cX0_init 19 = .ok (.iconst 4, 1) := by decide +kernel
theorem dX0_init_20 : decode cX0_init 20 = .ok (.newarray .int, 2) := by decide +kernel
theorem dX0_init_22 : decode cX0_init 22 = .ok (.putfield 18, 3) := by decide +kernel
theorem dX0_init_25 : decode cX0_init 25 = .ok (.aload_n 0, 1) := by decide +kernel
theorem dX0_init_26 : decode cX0_init 26 = .ok (.iconst 4, 1) := by decide +kernel
theorem dX0_init_27 : decode cX0_init 27 = .ok (.newarray .int, 2) := by decide +kernel
theorem dX0_init_29 : decode cX0_init 29 = .ok (.putfield 21, 3) := by decide +kernel
theorem dX0_init_32 : decode cX0_init 32 = .ok (.aload_n 0, 1) := by decide +kernel
theorem dX0_init_33 : decode cX0_init 33 = .ok (.aload_n 1, 1) := by decide +kernel
theorem dX0_init_34 : decode cX0_init 34 = .ok (.putfield 24, 3) := by decide +kernel
theorem dX0_init_37 : decode cX0_init 37 = .ok (.return_, 1) := by decide +kernel
theorem ce_X0_init : CeI yX0_init cX0_init 2 1 := ⟨tb_202, tb_5, tb_203, by decide, by decide, by decide, by decide +kernel⟩
set_option maxHeartbeats 4000000 in
set_option maxRecDepth 20000 in
theorem C_X0_init (l : Launch) (D : va_G) (A : Nat → Prop) (ad : Nat → Nat) (ns : List Nat) (I : MI) (L : ML) (G : MG) (hm : 30 ∈ ns) (hr0 : 10 ∈ ns) (f0 : 31 ∉ ns) (f1 : 32 ∉ ns) (f2 : 33 ∉ ns) (f3 : 34 ∉ ns) : Met l yX0_init (wd yX0_init cX0_init 2 none) ({ frames := 1, cells := 4, slots := 16, locals := 12 }) (va_Pc [.ref (ad (30)), .ref (ad (10))] (PM D A ad ns I L G)) (va_Qv (fun u => ∃ ad2, u = (ad2, ((((ns ++ [31]) ++ [32]) ++ [33]) ++ [34]), I, L, (u2 (u2 (u2 (u2 (u2 G (30) 1 (31)) (30) 2 (32)) (30) 3 (33)) (30) 4 (34)) (30) 0 (10))) ∧ ∀ x ∈ ns, ad2 x = ad x) (BM D A) A) 4 16 A := by
  refine m_ofW (by decide) (Nat.le_of_ble_eq_true rfl) ?_
  intro p e s m below meth c ls args hC hE hM hA hS hl
  obtain ⟨hx, hb, hml, hown, hts, hr, hlocks, hin⟩ := hC
  have k0 : (0 : Int32).toInt = 0 := by decide
  have k4 : (4 : Int32).toInt = 4 := by decide
  have hac : ∀ x ∈ ns, ad x = ad x := fun _ _ => rfl
  have hl : lv_has ls 2 [(0, .ref (ad (30))), (1, .ref (ad (10)))] := hl
  refine lv_aload_n hx hb dX0_init_0 rfl (lv_at hl 0 rfl) ?_
  refine m_objI hx hb hml hown hts hl.1 tb_204 tb_26 tb_27 dX0_init_1 (Nat.le_of_ble_eq_true rfl) (Nat.le_of_ble_eq_true rfl) ?_
  refine lv_aload_n hx hb dX0_init_4 rfl (lv_at hl 0 rfl) ?_
  refine lv_iconst (v := (4)) hx hb dX0_init_5 (by decide) ?_
  refine m_newi (31) (t0 := 0) hx hb hts hE hM hS hA (by simp [f0]) (by decide) rfl (by decide) rfl (fun _ _ h => h) tb_121 rfl rfl (by decide) rfl (by decide) (Nat.le_of_ble_eq_true rfl) (Nat.le_of_ble_eq_true rfl) dX0_init_6 (fun H ad1 had hM hS => ?_)
  rw [← had (30) hm] at hl
  rw [← had (10) hr0] at hl
  rw [← had (30) hm]
  have hac : ∀ x ∈ ns, ad1 x = ad x := fun x hx => (had x hx).trans (hac x hx)
  refine m_putF (30) 1 (31) hx hb hts hown hin hE oc0 hM hS (List.mem_append_left _ hm) rfl (by decide) rfl (by decide) (List.mem_append_right _ (List.mem_singleton.mpr rfl)) rfl rfl rfl rfl tb_206 dX0_init_8 (fun H locs G3 eG3 hM hS => ?_)
  subst eG3
  refine lv_aload_n hx hb dX0_init_11 rfl (lv_at hl 0 rfl) ?_
  refine lv_iconst (v := (4)) hx hb dX0_init_12 (by decide) ?_
  refine m_newi (32) (t0 := 0) hx hb hts hE hM hS hA (by simp [f1]) (by decide) rfl (by decide) rfl (fun _ _ h => h) tb_121 rfl rfl (by decide) rfl (by decide) (Nat.le_of_ble_eq_true rfl) (Nat.le_of_ble_eq_true rfl) dX0_init_13 (fun H ad4 had hM hS => ?_)
  rw [← had (30) (List.mem_append_left _ hm)] at hl
  rw [← had (10) (List.mem_append_left _ hr0)] at hl
  rw [← had (30) (List.mem_append_left _ hm)]
  have hac : ∀ x ∈ ns, ad4 x = ad x := fun x hx => (had x (List.mem_append_left _ hx)).trans (hac x hx)
  refine m_putF (30) 2 (32) hx hb hts hown hin hE oc0 hM hS (List.mem_append_left _ (List.mem_append_left _ hm)) rfl (by decide) rfl (by decide) (List.mem_append_right _ (List.mem_singleton.mpr rfl)) rfl rfl rfl rfl tb_207 dX0_init_15 (fun H locs G6 eG6 hM hS => ?_)
  subst eG6
  refine lv_aload_n hx hb dX0_init_18 rfl (lv_at hl 0 rfl) ?_
  refine lv_iconst (v := (4)) hx hb dX0_init_19 (by decide) ?_
  refine m_newi (33) (t0 := 0) hx hb hts hE hM hS hA (by simp [f2]) (by decide) rfl (by decide) rfl (fun _ _ h => h) tb_121 rfl rfl (by decide) rfl (by decide) (Nat.le_of_ble_eq_true rfl) (Nat.le_of_ble_eq_true rfl) dX0_init_20 (fun H ad7 had hM hS => ?_)
  rw [← had (30) (List.mem_append_left _ (List.mem_append_left _ hm))] at hl
  rw [← had (10) (List.mem_append_left _ (List.mem_append_left _ hr0))] at hl
  rw [← had (30) (List.mem_append_left _ (List.mem_append_left _ hm))]
  have hac : ∀ x ∈ ns, ad7 x = ad x := fun x hx => (had x (List.mem_append_left _ (List.mem_append_left _ hx))).trans (hac x hx)
  refine m_putF (30) 3 (33) hx hb hts hown hin hE oc0 hM hS (List.mem_append_left _ (List.mem_append_left _ (List.mem_append_left _ hm))) rfl (by decide) rfl (by decide) (List.mem_append_right _ (List.mem_singleton.mpr rfl)) rfl rfl rfl rfl tb_208 dX0_init_22 (fun H locs G9 eG9 hM hS => ?_)
  subst eG9
  refine lv_aload_n hx hb dX0_init_25 rfl (lv_at hl 0 rfl) ?_
  refine lv_iconst (v := (4)) hx hb dX0_init_26 (by decide) ?_
  refine m_newi (34) (t0 := 0) hx hb hts hE hM hS hA (by simp [f3]) (by decide) rfl (by decide) rfl (fun _ _ h => h) tb_121 rfl rfl (by decide) rfl (by decide) (Nat.le_of_ble_eq_true rfl) (Nat.le_of_ble_eq_true rfl) dX0_init_27 (fun H ad10 had hM hS => ?_)
  rw [← had (30) (List.mem_append_left _ (List.mem_append_left _ (List.mem_append_left _ hm)))] at hl
  rw [← had (10) (List.mem_append_left _ (List.mem_append_left _ (List.mem_append_left _ hr0)))] at hl
  rw [← had (30) (List.mem_append_left _ (List.mem_append_left _ (List.mem_append_left _ hm)))]
  have hac : ∀ x ∈ ns, ad10 x = ad x := fun x hx => (had x (List.mem_append_left _ (List.mem_append_left _ (List.mem_append_left _ hx)))).trans (hac x hx)
  refine m_putF (30) 4 (34) hx hb hts hown hin hE oc0 hM hS (List.mem_append_left _ (List.mem_append_left _ (List.mem_append_left _ (List.mem_append_left _ hm)))) rfl (by decide) rfl (by decide) (List.mem_append_right _ (List.mem_singleton.mpr rfl)) rfl rfl rfl rfl tb_209 dX0_init_29 (fun H locs G12 eG12 hM hS => ?_)
  subst eG12
  refine lv_aload_n hx hb dX0_init_32 rfl (lv_at hl 0 rfl) ?_
  refine lv_aload_n hx hb dX0_init_33 rfl (lv_at hl 1 rfl) ?_
  refine m_putF (30) 0 (10) hx hb hts hown hin hE oc0 hM hS (List.mem_append_left _ (List.mem_append_left _ (List.mem_append_left _ (List.mem_append_left _ hm)))) rfl (by decide) rfl (by decide) (List.mem_append_left _ (List.mem_append_left _ (List.mem_append_left _ (List.mem_append_left _ hr0)))) rfl rfl rfl rfl tb_205 dX0_init_34 (fun H locs G14 eG14 hM hS => ?_)
  subst eG14
  exact m_vret hx hb hr hlocks hM hS (Nat.le_of_ble_eq_true rfl) (Nat.le_of_ble_eq_true rfl) ⟨_, rfl, hac⟩ dX0_init_37
theorem dX5_init_0 : decode cX5_init 0 = .ok (.aload_n 0, 1) := by decide +kernel
theorem dX5_init_1 : decode cX5_init 1 = .ok (.invokespecial 3, 3) := by decide +kernel
theorem dX5_init_4 : decode cX5_init 4 = .ok (.aload_n 0, 1) := by decide +kernel
theorem dX5_init_5 : decode cX5_init 5 = .ok (.iconst 5, 1) := by decide +kernel
theorem dX5_init_6 : decode cX5_init 6 = .ok (.newarray .int, 2) := by decide +kernel
theorem dX5_init_8 : decode cX5_init 8 = .ok (.putfield 11, 3) := by decide +kernel
theorem dX5_init_11 : decode cX5_init 11 = .ok (.aload_n 0, 1) := by decide +kernel
theorem dX5_init_12 : decode cX5_init 12 = .ok (.bipush 8, 2) := by decide +kernel
theorem dX5_init_14 : decode cX5_init 14 = .ok (.newarray .int, 2) := by decide +kernel
theorem dX5_init_16 : decode cX5_init 16 = .ok (.putfield 15, 3) := by decide +kernel
theorem dX5_init_19 : decode cX5_init 19 = .ok (.aload_n 0, 1) := by decide +kernel
theorem dX5_init_20 : decode cX5_init 20 = .ok (.sipush 192, 3) := by decide +kernel
theorem dX5_init_23 : decode cX5_init 23 = .ok (.newarray .int, 2) := by decide +kernel
theorem dX5_init_25 : decode cX5_init 25 = .ok (.putfield 18, 3) := by decide +kernel
theorem dX5_init_28 : decode cX5_init 28 = .ok (.aload_n 0, 1) := by decide +kernel
theorem dX5_init_29 : decode cX5_init 29 = .ok (.aload_n 1, 1) := by decide +kernel
theorem dX5_init_30 : decode cX5_init 30 = .ok (.putfield 21, 3) := by decide +kernel
theorem dX5_init_33 : decode cX5_init 33 = .ok (.aload_n 0, 1) := by decide +kernel
theorem dX5_init_34 : decode cX5_init 34 = .ok (.aload_n 2, 1) := by decide +kernel
theorem dX5_init_35 : decode cX5_init 35 = .ok (.putfield 25, 3) := by decide +kernel
theorem dX5_init_38 : decode cX5_init 38 = .ok (.return_, 1) := by decide +kernel
theorem ce_X5_init : CeI yX5_init cX5_init 3 2 := ⟨tb_230, tb_6, tb_231, by decide, by decide, by decide, by decide +kernel⟩
set_option maxHeartbeats 4000000 in
set_option maxRecDepth 20000 in
theorem C_X5_init (l : Launch) (D : va_G) (A : Nat → Prop) (ad : Nat → Nat) (ns : List Nat) (I : MI) (L : ML) (G : MG) (hm : 40 ∈ ns) (hr0 : 100 ∈ ns) (hr1 : 10 ∈ ns) (f0 : 41 ∉ ns) (f1 : 42 ∉ ns) (f2 : 43 ∉ ns) : Met l yX5_init (wd yX5_init cX5_init 3 none) ({ frames := 1, cells := 3, slots := 205, locals := 12 }) (va_Pc [.ref (ad (40)), .ref (ad (100)), .ref (ad (10))] (PM D A ad ns I L G)) (va_Qv (fun u => ∃ ad2, u = (ad2, (((ns ++ [41]) ++ [42]) ++ [43]), I, L, (u2 (u2 (u2 (u2 (u2 G (40) 0 (41)) (40) 3 (42)) (40) 4 (43)) (40) 1 (100)) (40) 2 (10))) ∧ ∀ x ∈ ns, ad2 x = ad x) (BM D A) A) 3 205 A := by
  refine m_ofW (by decide) (Nat.le_of_ble_eq_true rfl) ?_
  intro p e s m below meth c ls args hC hE hM hA hS hl
  obtain ⟨hx, hb, hml, hown, hts, hr, hlocks, hin⟩ := hC
  have k0 : (0 : Int32).toInt = 0 := by decide
  have k5 : (5 : Int32).toInt = 5 := by decide
  have k8 : (8 : Int32).toInt = 8 := by decide
  have k192 : (192 : Int32).toInt = 192 := by decide
  have hac : ∀ x ∈ ns, ad x = ad x := fun _ _ => rfl
  have hl : lv_has ls 3 [(0, .ref (ad (40))), (1, .ref (ad (100))), (2, .ref (ad (10)))] := hl
  refine lv_aload_n hx hb dX5_init_0 rfl (lv_at hl 0 rfl) ?_
  refine m_objI hx hb hml hown hts hl.1 tb_232 tb_26 tb_27 dX5_init_1 (Nat.le_of_ble_eq_true rfl) (Nat.le_of_ble_eq_true rfl) ?_
  refine lv_aload_n hx hb dX5_init_4 rfl (lv_at hl 0 rfl) ?_
  refine lv_iconst (v := (5)) hx hb dX5_init_5 (by decide) ?_
  refine m_newi (41) (t0 := 0) hx hb hts hE hM hS hA (by simp [f0]) (by decide) rfl (by decide) rfl (fun _ _ h => h) tb_121 rfl rfl (by decide) rfl (by decide) (Nat.le_of_ble_eq_true rfl) (Nat.le_of_ble_eq_true rfl) dX5_init_6 (fun H ad1 had hM hS => ?_)
  rw [← had (40) hm] at hl
  rw [← had (100) hr0] at hl
  rw [← had (10) hr1] at hl
  rw [← had (40) hm]
  have hac : ∀ x ∈ ns, ad1 x = ad x := fun x hx => (had x hx).trans (hac x hx)
  refine m_putF (40) 0 (41) hx hb hts hown hin hE oc5 hM hS (List.mem_append_left _ hm) rfl (by decide) rfl (by decide) (List.mem_append_right _ (List.mem_singleton.mpr rfl)) rfl rfl rfl rfl tb_233 dX5_init_8 (fun H locs G3 eG3 hM hS => ?_)
  subst eG3
  refine lv_aload_n hx hb dX5_init_11 rfl (lv_at hl 0 rfl) ?_
  refine lv_bipush (v := (8)) hx hb dX5_init_12 (by decide) ?_
  refine m_newi (42) (t0 := 0) hx hb hts hE hM hS hA (by simp [f1]) (by decide) rfl (by decide) rfl (fun _ _ h => h) tb_121 rfl rfl (by decide) rfl (by decide) (Nat.le_of_ble_eq_true rfl) (Nat.le_of_ble_eq_true rfl) dX5_init_14 (fun H ad4 had hM hS => ?_)
  rw [← had (40) (List.mem_append_left _ hm)] at hl
  rw [← had (100) (List.mem_append_left _ hr0)] at hl
  rw [← had (10) (List.mem_append_left _ hr1)] at hl
  rw [← had (40) (List.mem_append_left _ hm)]
  have hac : ∀ x ∈ ns, ad4 x = ad x := fun x hx => (had x (List.mem_append_left _ hx)).trans (hac x hx)
  refine m_putF (40) 3 (42) hx hb hts hown hin hE oc5 hM hS (List.mem_append_left _ (List.mem_append_left _ hm)) rfl (by decide) rfl (by decide) (List.mem_append_right _ (List.mem_singleton.mpr rfl)) rfl rfl rfl rfl tb_237 dX5_init_16 (fun H locs G6 eG6 hM hS => ?_)
  subst eG6
  refine lv_aload_n hx hb dX5_init_19 rfl (lv_at hl 0 rfl) ?_
  refine lv_sipush (v := (192)) hx hb dX5_init_20 (by decide) ?_
  refine m_newi (43) (t0 := 0) hx hb hts hE hM hS hA (by simp [f2]) (by decide) rfl (by decide) rfl (fun _ _ h => h) tb_121 rfl rfl (by decide) rfl (by decide) (Nat.le_of_ble_eq_true rfl) (Nat.le_of_ble_eq_true rfl) dX5_init_23 (fun H ad7 had hM hS => ?_)
  rw [← had (40) (List.mem_append_left _ (List.mem_append_left _ hm))] at hl
  rw [← had (100) (List.mem_append_left _ (List.mem_append_left _ hr0))] at hl
  rw [← had (10) (List.mem_append_left _ (List.mem_append_left _ hr1))] at hl
  rw [← had (40) (List.mem_append_left _ (List.mem_append_left _ hm))]
  have hac : ∀ x ∈ ns, ad7 x = ad x := fun x hx => (had x (List.mem_append_left _ (List.mem_append_left _ hx))).trans (hac x hx)
  refine m_putF (40) 4 (43) hx hb hts hown hin hE oc5 hM hS (List.mem_append_left _ (List.mem_append_left _ (List.mem_append_left _ hm))) rfl (by decide) rfl (by decide) (List.mem_append_right _ (List.mem_singleton.mpr rfl)) rfl rfl rfl rfl tb_238 dX5_init_25 (fun H locs G9 eG9 hM hS => ?_)
  subst eG9
  refine lv_aload_n hx hb dX5_init_28 rfl (lv_at hl 0 rfl) ?_
  refine lv_aload_n hx hb dX5_init_29 rfl (lv_at hl 1 rfl) ?_
  refine m_putF (40) 1 (100) hx hb hts hown hin hE oc5 hM hS (List.mem_append_left _ (List.mem_append_left _ (List.mem_append_left _ hm))) rfl (by decide) rfl (by decide) (List.mem_append_left _ (List.mem_append_left _ (List.mem_append_left _ hr0))) rfl rfl rfl rfl tb_235 dX5_init_30 (fun H locs G11 eG11 hM hS => ?_)
  subst eG11
  refine lv_aload_n hx hb dX5_init_33 rfl (lv_at hl 0 rfl) ?_
  refine lv_aload_n hx hb dX5_init_34 rfl (lv_at hl 2 rfl) ?_
  refine m_putF (40) 2 (10) hx hb hts hown hin hE oc5 hM hS (List.mem_append_left _ (List.mem_append_left _ (List.mem_append_left _ hm))) rfl (by decide) rfl (by decide) (List.mem_append_left _ (List.mem_append_left _ (List.mem_append_left _ hr1))) rfl rfl rfl rfl tb_236 dX5_init_35 (fun H locs G13 eG13 hM hS => ?_)
  subst eG13
  exact m_vret hx hb hr hlocks hM hS (Nat.le_of_ble_eq_true rfl) (Nat.le_of_ble_eq_true rfl) ⟨_, rfl, hac⟩ dX5_init_38
theorem dX6_init_0 : decode cX6_init 0 = .ok (.aload_n 0, 1) := by decide +kernel
theorem dX6_init_1 : decode cX6_init 1 = .ok (.invokespecial 3, 3) := by decide +kernel
theorem dX6_init_4 : decode cX6_init 4 = .ok (.aload_n 0, 1) := by decide +kernel
theorem dX6_init_5 : decode cX6_init 5 = .ok (.aload_n 1, 1) := by decide +kernel
theorem dX6_init_6 : decode cX6_init 6 = .ok (.putfield 9, 3) := by decide +kernel
theorem dX6_init_9 : decode cX6_init 9 = .ok (.return_, 1) := by decide +kernel
theorem ce_X6_init : CeI yX6_init cX6_init 2 1 := ⟨tb_265, tb_7, tb_266, by decide, by decide, by decide, by decide +kernel⟩
set_option maxHeartbeats 4000000 in
set_option maxRecDepth 20000 in
theorem C_X6_init (l : Launch) (D : va_G) (A : Nat → Prop) (ad : Nat → Nat) (ns : List Nat) (I : MI) (L : ML) (G : MG) (hm : 50 ∈ ns) (hr0 : 10 ∈ ns) : Met l yX6_init (wd yX6_init cX6_init 2 none) ({ frames := 1, cells := 0, slots := 0, locals := 12 }) (va_Pc [.ref (ad (50)), .ref (ad (10))] (PM D A ad ns I L G)) (va_Qv (fun u => ∃ ad2, u = (ad2, ns, I, L, (u2 G (50) 3 (10))) ∧ ∀ x ∈ ns, ad2 x = ad x) (BM D A) A) 0 0 A := by
  refine m_ofW (by decide) (Nat.le_of_ble_eq_true rfl) ?_
  intro p e s m below meth c ls args hC hE hM hA hS hl
  obtain ⟨hx, hb, hml, hown, hts, hr, hlocks, hin⟩ := hC
  have k0 : (0 : Int32).toInt = 0 := by decide
  have hac : ∀ x ∈ ns, ad x = ad x := fun _ _ => rfl
  have hl : lv_has ls 2 [(0, .ref (ad (50))), (1, .ref (ad (10)))] := hl
  refine lv_aload_n hx hb dX6_init_0 rfl (lv_at hl 0 rfl) ?_
  refine m_objI hx hb hml hown hts hl.1 tb_267 tb_26 tb_27 dX6_init_1 (Nat.le_of_ble_eq_true rfl) (Nat.le_of_ble_eq_true rfl) ?_
  refine lv_aload_n hx hb dX6_init_4 rfl (lv_at hl 0 rfl) ?_
  refine lv_aload_n hx hb dX6_init_5 rfl (lv_at hl 1 rfl) ?_
  refine m_putF (50) 3 (10) hx hb hts hown hin hE oc6 hM hS hm rfl (by decide) rfl (by decide) hr0 rfl rfl rfl rfl tb_274 dX6_init_6 (fun H locs G2 eG2 hM hS => ?_)
  subst eG2
  exact m_vret hx hb hr hlocks hM hS (Nat.le_of_ble_eq_true rfl) (Nat.le_of_ble_eq_true rfl) ⟨_, rfl, hac⟩ dX6_init_9
theorem dX7_init_0 : decode cX7_init 0 = .ok (.aload_n 0, 1) := by decide +kernel
theorem dX7_init_1 : decode cX7_init 1 = .ok (.invokespecial 3, 3) := by decide +kernel
theorem dX7_init_4 : decode cX7_init 4 = .ok (.aload_n 0, 1) := by decide +kernel
theorem dX7_init_5 : decode cX7_init 5 = .ok (.bipush 24, 2) := by decide +kernel
theorem dX7_init_7 : decode cX7_init 7 = .ok (.newarray .int, 2) := by decide +kernel
theorem dX7_init_9 : decode cX7_init 9 = .ok (.putfield 9, 3) := by decide +kernel
theorem dX7_init_12 : decode cX7_init 12 = .ok (.aload_n 0, 1) := by decide +kernel
theorem dX7_init_13 : decode cX7_init 13 = .ok (.bipush 24, 2) := by decide +kernel
theorem dX7_init_15 : decode cX7_init 15 = .ok (.newarray .int, 2) := by decide +kernel
theorem dX7_init_17 : decode cX7_init 17 = .ok (.putfield 15, 3) := by decide +kernel
theorem dX7_init_20 : decode cX7_init 20 = .ok (.return_, 1) := by decide +kernel
theorem ce_X7_init : CeI yX7_init cX7_init 1 0 := ⟨tb_287, tb_8, tb_288, by decide, by decide, by decide, by decide +kernel⟩
set_option maxHeartbeats 4000000 in
set_option maxRecDepth 20000 in
theorem C_X7_init (l : Launch) (D : va_G) (A : Nat → Prop) (ad : Nat → Nat) (ns : List Nat) (I : MI) (L : ML) (G : MG) (hm : 60 ∈ ns) (f0 : 61 ∉ ns) (f1 : 62 ∉ ns) : Met l yX7_init (wd yX7_init cX7_init 1 none) ({ frames := 1, cells := 2, slots := 48, locals := 12 }) (va_Pc [.ref (ad (60))] (PM D A ad ns I L G)) (va_Qv (fun u => ∃ ad2, u = (ad2, ((ns ++ [61]) ++ [62]), I, L, (u2 (u2 G (60) 3 (61)) (60) 4 (62))) ∧ ∀ x ∈ ns, ad2 x = ad x) (BM D A) A) 2 48 A := by
  refine m_ofW (by decide) (Nat.le_of_ble_eq_true rfl) ?_
  intro p e s m below meth c ls args hC hE hM hA hS hl
  obtain ⟨hx, hb, hml, hown, hts, hr, hlocks, hin⟩ := hC
  have k0 : (0 : Int32).toInt = 0 := by decide
  have k24 : (24 : Int32).toInt = 24 := by decide
  have hac : ∀ x ∈ ns, ad x = ad x := fun _ _ => rfl
  have hl : lv_has ls 1 [(0, .ref (ad (60)))] := hl
  refine lv_aload_n hx hb dX7_init_0 rfl (lv_at hl 0 rfl) ?_
  refine m_objI hx hb hml hown hts hl.1 tb_289 tb_26 tb_27 dX7_init_1 (Nat.le_of_ble_eq_true rfl) (Nat.le_of_ble_eq_true rfl) ?_
  refine lv_aload_n hx hb dX7_init_4 rfl (lv_at hl 0 rfl) ?_
  refine lv_bipush (v := (24)) hx hb dX7_init_5 (by decide) ?_
  refine m_newi (61) (t0 := 0) hx hb hts hE hM hS hA (by simp [f0]) (by decide) rfl (by decide) rfl (fun _ _ h => h) tb_121 rfl rfl (by decide) rfl (by decide) (Nat.le_of_ble_eq_true rfl) (Nat.le_of_ble_eq_true rfl) dX7_init_7 (fun H ad1 had hM hS => ?_)
  rw [← had (60) hm] at hl
  rw [← had (60) hm]
  have hac : ∀ x ∈ ns, ad1 x = ad x := fun x hx => (had x hx).trans (hac x hx)
  refine m_putF (60) 3 (61) hx hb hts hown hin hE oc7 hM hS (List.mem_append_left _ hm) rfl (by decide) rfl (by decide) (List.mem_append_right _ (List.mem_singleton.mpr rfl)) rfl rfl rfl rfl tb_296 dX7_init_9 (fun H locs G3 eG3 hM hS => ?_)
  subst eG3
  refine lv_aload_n hx hb dX7_init_12 rfl (lv_at hl 0 rfl) ?_
  refine lv_bipush (v := (24)) hx hb dX7_init_13 (by decide) ?_
  refine m_newi (62) (t0 := 0) hx hb hts hE hM hS hA (by simp [f1]) (by decide) rfl (by decide) rfl (fun _ _ h => h) tb_121 rfl rfl (by decide) rfl (by decide) (Nat.le_of_ble_eq_true rfl) (Nat.le_of_ble_eq_true rfl) dX7_init_15 (fun H ad4 had hM hS => ?_)
  rw [← had (60) (List.mem_append_left _ hm)] at hl
  rw [← had (60) (List.mem_append_left _ hm)]
  have hac : ∀ x ∈ ns, ad4 x = ad x := fun x hx => (had x (List.mem_append_left _ hx)).trans (hac x hx)
  refine m_putF (60) 4 (62) hx hb hts hown hin hE oc7 hM hS (List.mem_append_left _ (List.mem_append_left _ hm)) rfl (by decide) rfl (by decide) (List.mem_append_right _ (List.mem_singleton.mpr rfl)) rfl rfl rfl rfl tb_297 dX7_init_17 (fun H locs G6 eG6 hM hS => ?_)
  subst eG6
  exact m_vret hx hb hr hlocks hM hS (Nat.le_of_ble_eq_true rfl) (Nat.le_of_ble_eq_true rfl) ⟨_, rfl, hac⟩ dX7_init_20
theorem dX4_init_0 : decode cX4_init 0 = .ok (.aload_n 0, 1) := by decide +kernel
theorem dX4_init_1 : decode cX4_init 1 = .ok (.invokespecial 3, 3) := by decide +kernel
theorem dX4_init_4 : decode cX4_init 4 = .ok (.aload_n 0, 1) := by decide +kernel
theorem dX4_init_5 : decode cX4_init 5 = .ok (.sipush 400, 3) := by decide +kernel
theorem dX4_init_8 : decode cX4_init 8 = .ok (.newarray .byte, 2) := by decide +kernel
theorem dX4_init_10 : decode cX4_init 10 = .ok (.putfield 9, 3) := by decide +kernel
theorem dX4_init_13 : decode cX4_init 13 = .ok (.aload_n 0, 1) := by decide +kernel
theorem dX4_init_14 : decode cX4_init 14 = .ok (.bipush 64, 2) := by decide +kernel
theorem dX4_init_16 : decode cX4_init 16 = .ok (.newarray .int, 2) := by decide +kernel
theorem dX4_init_18 : decode cX4_init 18 = .ok (.putfield 15, 3) := by decide +kernel
theorem dX4_init_21 : decode cX4_init 21 = .ok (.return_, 1) := by decide +kernel
theorem ce_X4_init : CeI yX4_init cX4_init 1 0 := ⟨tb_315, tb_9, tb_316, by decide, by decide, by decide, by decide +kernel⟩
set_option maxHeartbeats 4000000 in
set_option maxRecDepth 20000 in
theorem C_X4_init (l : Launch) (D : va_G) (A : Nat → Prop) (ad : Nat → Nat) (ns : List Nat) (I : MI) (L : ML) (G : MG) (hm : 70 ∈ ns) (f0 : 71 ∉ ns) (f1 : 72 ∉ ns) : Met l yX4_init (wd yX4_init cX4_init 1 none) ({ frames := 1, cells := 2, slots := 464, locals := 12 }) (va_Pc [.ref (ad (70))] (PM D A ad ns I L G)) (va_Qv (fun u => ∃ ad2, u = (ad2, ((ns ++ [71]) ++ [72]), I, L, (u2 (u2 G (70) 0 (71)) (70) 1 (72))) ∧ ∀ x ∈ ns, ad2 x = ad x) (BM D A) A) 2 464 A := by
  refine m_ofW (by decide) (Nat.le_of_ble_eq_true rfl) ?_
  intro p e s m below meth c ls args hC hE hM hA hS hl
  obtain ⟨hx, hb, hml, hown, hts, hr, hlocks, hin⟩ := hC
  have k0 : (0 : Int32).toInt = 0 := by decide
  have k64 : (64 : Int32).toInt = 64 := by decide
  have k400 : (400 : Int32).toInt = 400 := by decide
  have hac : ∀ x ∈ ns, ad x = ad x := fun _ _ => rfl
  have hl : lv_has ls 1 [(0, .ref (ad (70)))] := hl
  refine lv_aload_n hx hb dX4_init_0 rfl (lv_at hl 0 rfl) ?_
  refine m_objI hx hb hml hown hts hl.1 tb_317 tb_26 tb_27 dX4_init_1 (Nat.le_of_ble_eq_true rfl) (Nat.le_of_ble_eq_true rfl) ?_
  refine lv_aload_n hx hb dX4_init_4 rfl (lv_at hl 0 rfl) ?_
  refine lv_sipush (v := (400)) hx hb dX4_init_5 (by decide) ?_
  refine m_newi (71) (t0 := 1) hx hb hts hE hM hS hA (by simp [f0]) (by decide) rfl (by decide) rfl (fun _ _ h => h) tb_361 rfl rfl (by decide) rfl (by decide) (Nat.le_of_ble_eq_true rfl) (Nat.le_of_ble_eq_true rfl) dX4_init_8 (fun H ad1 had hM hS => ?_)
  rw [← had (70) hm] at hl
  rw [← had (70) hm]
  have hac : ∀ x ∈ ns, ad1 x = ad x := fun x hx => (had x hx).trans (hac x hx)
  refine m_putF (70) 0 (71) hx hb hts hown hin hE oc4 hM hS (List.mem_append_left _ hm) rfl (by decide) rfl (by decide) (List.mem_append_right _ (List.mem_singleton.mpr rfl)) rfl rfl rfl rfl tb_318 dX4_init_10 (fun H locs G3 eG3 hM hS => ?_)
  subst eG3
  refine lv_aload_n hx hb dX4_init_13 rfl (lv_at hl 0 rfl) ?_
  refine lv_bipush (v := (64)) hx hb dX4_init_14 (by decide) ?_
  refine m_newi (72) (t0 := 0) hx hb hts hE hM hS hA (by simp [f1]) (by decide) rfl (by decide) rfl (fun _ _ h => h) tb_121 rfl rfl (by decide) rfl (by decide) (Nat.le_of_ble_eq_true rfl) (Nat.le_of_ble_eq_true rfl) dX4_init_16 (fun H ad4 had hM hS => ?_)
  rw [← had (70) (List.mem_append_left _ hm)] at hl
  rw [← had (70) (List.mem_append_left _ hm)]
  have hac : ∀ x ∈ ns, ad4 x = ad x := fun x hx => (had x (List.mem_append_left _ hx)).trans (hac x hx)
  refine m_putF (70) 1 (72) hx hb hts hown hin hE oc4 hM hS (List.mem_append_left _ (List.mem_append_left _ hm)) rfl (by decide) rfl (by decide) (List.mem_append_right _ (List.mem_singleton.mpr rfl)) rfl rfl rfl rfl tb_319 dX4_init_18 (fun H locs G6 eG6 hM hS => ?_)
  subst eG6
  exact m_vret hx hb hr hlocks hM hS (Nat.le_of_ble_eq_true rfl) (Nat.le_of_ble_eq_true rfl) ⟨_, rfl, hac⟩ dX4_init_21
theorem dX9_init_0 : decode cX9_init 0 = .ok (.aload_n 0, 1) := by decide +kernel
theorem dX9_init_1 : decode cX9_init 1 = .ok (.invokespecial 1, 3) := by decide +kernel
theorem dX9_init_4 : decode cX9_init 4 = .ok (.aload_n 0, 1) := by decide +kernel
theorem dX9_init_5 : decode cX9_init 5 = .ok (.new 7, 3) := by decide +kernel
theorem dX9_init_8 : decode cX9_init 8 = .ok (.dup, 1) := by decide +kernel
theorem dX9_init_9 : decode cX9_init 9 = .ok (.invokespecial 9, 3) := by decide +kernel
theorem dX9_init_12 : decode cX9_init 12 = .ok (.putfield 10, 3) := by decide +kernel
theorem dX9_init_15 : decode cX9_init 15 = .ok (.aload_n 0, 1) := by decide +kernel
theorem dX9_init_16 : decode cX9_init 16 = .ok (.new 7, 3) := by decide +kernel
theorem dX9_init_19 : decode cX9_init 19 = .ok (.dup, 1) := by decide +kernel
theorem dX9_init_20 : decode cX9_init 20 = .ok (.invokespecial 9, 3) := by decide +kernel
theorem dX9_init_23 : decode cX9_init 23 = .ok (.putfield 16, 3) := by decide +kernel
theorem dX9_init_26 : decode cX9_init 26 = .ok (.aload_n 0, 1) := by decide +kernel
theorem dX9_init_27 : decode cX9_init 27 = .ok (.iconst 4, 1) := by decide +kernel
theorem dX9_init_28 : decode cX9_init 28 = .ok (.anewarray 7, 3) := by decide +kernel
theorem dX9_init_31 : decode cX9_init 31 = .ok (.putfield 19, 3) := by decide +kernel
theorem dX9_init_34 : decode cX9_init 34 = .ok (.aload_n 0, 1) := by decide +kernel
theorem dX9_init_35 : decode cX9_init 35 = .ok (.new 23, 3) := by decide +kernel
theorem dX9_init_38 : decode cX9_init 38 = .ok (.dup, 1) := by decide +kernel
theorem dX9_init_39 : decode cX9_init 39 = .ok (.invokespecial 25, 3) := by decide +kernel
theorem dX9_init_42 : decode cX9_init 42 = .ok (.putfield 26, 3) := by decide +kernel
theorem dX9_init_45 : decode cX9_init 45 = .ok (.aload_n 0, 1) := by decide +kernel
theorem dX9_init_46 : decode cX9_init 46 = .ok (.new 30, 3) := by decide +kernel
theorem dX9_init_49 : decode cX9_init 49 = .ok (.dup, 1) := by decide +kernel
theorem dX9_init_50 : decode cX9_init 50 = .ok (.aload_n 0, 1) := by decide +kernel
theorem dX9_init_51 : decode cX9_init 51 = .ok (.getfield 26, 3) := by decide +kernel
theorem dX9_init_54 : decode cX9_init 54 = .ok (.invokespecial 32, 3) := by decide +kernel
theorem dX9_init_57 : decode cX9_init 57 = .ok (.putfield 35, 3) := by decide +kernel
theorem dX9_init_60 : decode cX9_init 60 = .ok (.aload_n 0, 1) := by decide +kernel
theorem dX9_init_61 : decode cX9_init 61 = .ok (.new 39, 3) := by decide +kernel
theorem dX9_init_64 : decode cX9_init 64 = .ok (.dup, 1) := by decide +kernel
theorem dX9_init_65 : decode cX9_init 65 = .ok (.aload_n 0, 1) := by decide +kernel
theorem dX9_init_66 : decode cX9_init 66 = .ok (.getfield 26, 3) := by decide +kernel
theorem dX9_init_69 : decode cX9_init 69 = .ok (.invokespecial 41, 3) := by decide +kernel
theorem dX9_init_72 : decode cX9_init 72 = .ok (.putfield 42, 3) := by decide +kernel
theorem dX9_init_75 : decode cX9_init 75 = .ok (.aload_n 0, 1) := by decide +kernel
theorem dX9_init_76 : decode cX9_init 76 = .ok (.new 46, 3) := by decide +kernel
theorem dX9_init_79 : decode cX9_init 79 = .ok (.dup, 1) := by decide +kernel
theorem dX9_init_80 : decode cX9_init 80 = .ok (.aload_n 0, 1) := by decide +kernel
theorem dX9_init_81 : decode cX9_init 81 = .ok (.getfield 10, 3) := by decide +kernel
theorem dX9_init_84 : decode cX9_init 84 = .ok (.aload_n 0, 1) := by decide +kernel
theorem dX9_init_85 : decode cX9_init 85 = .ok (.getfield 26, 3) := by decide +kernel
theorem dX9_init_88 : decode cX9_init 88 = .ok (.invokespecial 48, 3) := by decide +kernel
theorem dX9_init_91 : decode cX9_init 91 = .ok (.putfield 51, 3) := by decide +kernel
theorem dX9_init_94 : decode cX9_init 94 = .ok (.aload_n 0, 1) := by decide +kernel
theorem dX9_init_95 : decode cX9_init 95 = .ok (.new 55, 3) := by decide +kernel
theorem dX9_init_98 : decode cX9_init 98 = .ok (.dup, 1) := by decide +kernel
theorem dX9_init_99 : decode cX9_init 99 = .ok (.aload_n 0, 1) := by decide +kernel
theorem dX9_init_100 : decode cX9_init 100 = .ok (.getfield 26, 3) := by decide +kernel
theorem dX9_init_103 : decode cX9_init 103 = .ok (.invokespecial 57, 3) := by decide +kernel
theorem dX9_init_106 : decode cX9_init 106 = .ok (.putfield 58, 3) := by decide +kernel
theorem dX9_init_109 : decode cX9_init 109 = .ok (.aload_n 0, 1) := by decide +kernel
theorem dX9_init_110 : decode cX9_init 110 = .ok (.new 62, 3) := by decide +kernel
theorem dX9_init_113 : decode cX9_init 113 = .ok (.dup, 1) := by decide +kernel
theorem dX9_init_114 : decode cX9_init 114 = .ok (.invokespecial 64, 3) := by decide +kernel
theorem dX9_init_117 : decode cX9_init 117 = .ok (.putfield 65, 3) := by decide +kernel
theorem dX9_init_120 : decode cX9_init 120 = .ok (.aload_n 0, 1) := by decide +kernel
theorem dX9_init_121 : decode cX9_init 121 = .ok (.new 69, 3) := by decide +kernel
theorem dX9_init_124 : decode cX9_init 124 = .ok (.dup, 1) := by decide +kernel
theorem dX9_init_125 : decode cX9_init 125 = .ok (.invokespecial 71, 3) := by decide +kernel
theorem dX9_init_128 : decode cX9_init 128 = .ok (.putfield 72, 3) := by decide +kernel
theorem dX9_init_131 : decode cX9_init 131 = .ok (.aload_n 0, 1) := by decide +kernel
theorem dX9_init_132 : decode cX9_init 132 = .ok (.bipush 6, 2) := by decide +kernel
theorem dX9_init_134 : decode cX9_init 134 = .ok (.anewarray 76, 3) := by decide +kernel
theorem dX9_init_137 : decode cX9_init 137 = .ok (.putfield 78, 3) := by decide +kernel
theorem dX9_init_140 : decode cX9_init 140 = .ok (.aload_n 0, 1) := by decide +kernel
theorem dX9_init_141 : decode cX9_init 141 = .ok (.sipush 400, 3) := by decide +kernel
theorem dX9_init_144 : decode cX9_init 144 = .ok (.newarray .byte, 2) := by decide +kernel
theorem dX9_init_146 : decode cX9_init 146 = .ok (.putfield 82, 3) := by decide +kernel
theorem dX9_init_149 : decode cX9_init 149 = .ok (.aload_n 0, 1) := by decide +kernel
theorem dX9_init_150 : decode cX9_init 150 = .ok (.bipush 8, 2) := by decide +kernel
theorem dX9_init_152 : decode cX9_init 152 = .ok (.newarray .int, 2) := by decide +kernel
theorem dX9_init_154 : decode cX9_init 154 = .ok (.putfield 86, 3) := by decide +kernel
theorem dX9_init_157 : decode cX9_init 157 = .ok (.aload_n 0, 1) := by decide +kernel
theorem dX9_init_158 : decode cX9_init 158 = .ok (.new 76, 3) := by decide +kernel
theorem dX9_init_161 : decode cX9_init 161 = .ok (.dup, 1) := by decide +kernel
theorem dX9_init_162 : decode cX9_init 162 = .ok (.invokespecial 90, 3) := by decide +kernel
theorem dX9_init_165 : decode cX9_init 165 = .ok (.putfield 91, 3) := by decide +kernel
theorem dX9_init_168 : decode cX9_init 168 = .ok (.return_, 1) := by decide +kernel
theorem ce_X9_init : CeI yX9_init cX9_init 1 0 := ⟨tb_23, tb_1, tb_24, by decide, by decide, by decide, by decide +kernel⟩
def nsC0 : List Nat := (((((((((((((((((((((((((((((((((((((((((((((((((((([0] ++ [100]) ++ [100 + 1]) ++ [100 + 2]) ++ [100 + 3]) ++ [100 + 4]) ++ [100 + 5]) ++ [100 + 6]) ++ [100 + 7]) ++ [100 + 8]) ++ [110]) ++ [110 + 1]) ++ [110 + 2]) ++ [110 + 3]) ++ [110 + 4]) ++ [110 + 5]) ++ [110 + 6]) ++ [110 + 7]) ++ [110 + 8]) ++ [1]) ++ [10]) ++ [11]) ++ [12]) ++ [13]) ++ [14]) ++ [20]) ++ [21]) ++ [22]) ++ [30]) ++ [31]) ++ [32]) ++ [33]) ++ [34]) ++ [40]) ++ [41]) ++ [42]) ++ [43]) ++ [50]) ++ [60]) ++ [61]) ++ [62]) ++ [70]) ++ [71]) ++ [72]) ++ [2]) ++ [3]) ++ [4]) ++ [200]) ++ [200 + 1]) ++ [200 + 2]) ++ [200 + 3]) ++ [200 + 4]) ++ [200 + 5])
def gC0 : MG := (u2 (u2 (u2 (u2 (u2 (u2 (u2 (u2 (u2 (u2 (u2 (u2 (u2 (u2 (u2 (u2 (u2 (u2 (u2 (u2 (u2 (u2 (u2 (u2 (u2 (u2 (u2 (u2 (u2 (u2 (u2 (u2 (u2 (u2 (u2 (u2 (u2 (u2 (u2 (u2 (u2 (u2 (u2 (u2 (u2 (u2 (u2 (u2 (u2 (u2 (u2 (u2 (u2 (u2 (u2 (u2 (u2 zG (100) 10 (100 + 1)) (100) 11 (100 + 2)) (100) 12 (100 + 3)) (100) 13 (100 + 4)) (100) 14 (100 + 5)) (100) 15 (100 + 6)) (100) 16 (100 + 7)) (100) 17 (100 + 8)) (0) 0 (100)) (110) 10 (110 + 1)) (110) 11 (110 + 2)) (110) 12 (110 + 3)) (110) 13 (110 + 4)) (110) 14 (110 + 5)) (110) 15 (110 + 6)) (110) 16 (110 + 7)) (110) 17 (110 + 8)) (0) 1 (110)) (0) 2 (1)) (10) 0 (11)) (10) 1 (12)) (10) 9 (13)) (10) 10 (14)) (0) 3 (10)) (20) 1 (21)) (20) 2 (22)) (20) 0 (10)) (0) 4 (20)) (30) 1 (31)) (30) 2 (32)) (30) 3 (33)) (30) 4 (34)) (30) 0 (10)) (0) 5 (30)) (40) 0 (41)) (40) 3 (42)) (40) 4 (43)) (40) 1 (100)) (40) 2 (10)) (0) 6 (40)) (50) 3 (10)) (0) 7 (50)) (60) 3 (61)) (60) 4 (62)) (0) 8 (60)) (70) 0 (71)) (70) 1 (72)) (0) 9 (70)) (0) 10 (2)) (0) 11 (3)) (0) 12 (4)) (200) 0 (200 + 1)) (200) 1 (200 + 2)) (200) 2 (200 + 3)) (200) 3 (200 + 4)) (200) 4 (200 + 5)) (0) 13 (200))
set_option maxHeartbeats 4000000 in
set_option maxRecDepth 20000 in
theorem C_X9_init (l : Launch) (D : va_G) (A : Nat → Prop) (ad : Nat → Nat)  : Met l yX9_init (wd yX9_init cX9_init 1 none) ({ frames := 2, cells := 52, slots := 8827, locals := 34 }) (va_Pc [.ref (ad 0)] (PM D A ad [0] zI zL zG)) (va_Qv (fun u => ∃ ad2, u = (ad2, nsC0, zI, zL, gC0) ∧ ∀ x ∈ [0], ad2 x = ad x) (BM D A) A) 52 8827 A := by
  refine m_ofW (by decide) (Nat.le_of_ble_eq_true rfl) ?_
  intro p e s m below meth c ls args hC hE hM hA hS hl
  obtain ⟨hx, hb, hml, hown, hts, hr, hlocks, hin⟩ := hC
  have k0 : (0 : Int32).toInt = 0 := by decide
  have k4 : (4 : Int32).toInt = 4 := by decide
  have k6 : (6 : Int32).toInt = 6 := by decide
  have k8 : (8 : Int32).toInt = 8 := by decide
  have k400 : (400 : Int32).toInt = 400 := by decide
  have hac : ∀ x ∈ [0], ad x = ad x := fun _ _ => rfl
  have hl : lv_has ls 1 [(0, .ref (ad (0)))] := hl
  refine lv_aload_n hx hb dX9_init_0 rfl (lv_at hl 0 rfl) ?_
  refine m_objI hx hb hml hown hts hl.1 tb_25 tb_26 tb_27 dX9_init_1 (Nat.le_of_ble_eq_true rfl) (Nat.le_of_ble_eq_true rfl) ?_
  refine lv_aload_n hx hb dX9_init_4 rfl (lv_at hl 0 rfl) ?_
  refine m_new (100) hx hb hts hown hE oc8 hM hS hA (by decide) (by decide) rfl df8 tb_28 tb_29 tb_2 (Nat.le_of_ble_eq_true rfl) (Nat.le_of_ble_eq_true rfl) dX9_init_5 (fun H ad1 had hM hS => ?_)
  rw [← had (0) (by decide)] at hl
  rw [← had (0) (by decide)]
  have hac : ∀ x ∈ [0], ad1 x = ad x := fun x hx => (had x (by simp at hx; subst hx; decide)).trans (hac x hx)
  refine lv_dup hx hb dX9_init_8 rfl ?_
  refine m_callv (m_runIN (100) (As := []) (rest := [.ref (ad1 (100)), .ref (ad1 (0))]) hx hb hml hown hts hE hM hS hA ce_X8_init (List.mem_of_getElem? (i := 0) rfl) (C_X8_init l D A ad1 ([0] ++ [100]) zI zL zG (100) (by decide) (by decide) (by decide) (by decide) (by decide) (by decide) (by decide) (by decide) (by decide) (by decide)) rfl rfl ⟨Nat.le_of_ble_eq_true rfl, Nat.le_of_ble_eq_true rfl⟩  rfl hl.1 rfl (Nat.le_of_ble_eq_true rfl) dX9_init_9 ⟨Nat.le_of_ble_eq_true rfl, Nat.le_of_ble_eq_true rfl⟩) hS (fun u H locs hw hM hS => ?_)
  obtain ⟨ad2, rfl, had⟩ := hw
  have hM : Mem D A ad2 ((((((((([0] ++ [100]) ++ [100 + 1]) ++ [100 + 2]) ++ [100 + 3]) ++ [100 + 4]) ++ [100 + 5]) ++ [100 + 6]) ++ [100 + 7]) ++ [100 + 8]) zI zL (u2 (u2 (u2 (u2 (u2 (u2 (u2 (u2 zG (100) 10 (100 + 1)) (100) 11 (100 + 2)) (100) 12 (100 + 3)) (100) 13 (100 + 4)) (100) 14 (100 + 5)) (100) 15 (100 + 6)) (100) 16 (100 + 7)) (100) 17 (100 + 8)) H := hM
  rw [← had (0) (by decide)] at hl
  rw [← had (100) (by decide)]
  rw [← had (0) (by decide)]
  have hac : ∀ x ∈ [0], ad2 x = ad x := fun x hx => (had x (by simp at hx; subst hx; decide)).trans (hac x hx)
  refine m_putF (0) 0 (100) hx hb hts hown hin hE oc9 hM hS (by decide) rfl (by decide) rfl (by decide) (by decide) rfl rfl rfl rfl tb_398 dX9_init_12 (fun H locs G4 eG4 hM hS => ?_)
  subst eG4
  refine lv_aload_n hx hb dX9_init_15 rfl (lv_at hl 0 rfl) ?_
  refine m_new (110) hx hb hts hown hE oc8 hM hS hA (by decide) (by decide) rfl df8 tb_28 tb_29 tb_2 (Nat.le_of_ble_eq_true rfl) (Nat.le_of_ble_eq_true rfl) dX9_init_16 (fun H ad5 had hM hS => ?_)
  rw [← had (0) (by decide)] at hl
  rw [← had (0) (by decide)]
  have hac : ∀ x ∈ [0], ad5 x = ad x := fun x hx => (had x (by simp at hx; subst hx; decide)).trans (hac x hx)
  refine lv_dup hx hb dX9_init_19 rfl ?_
  refine m_callv (m_runIN (110) (As := []) (rest := [.ref (ad5 (110)), .ref (ad5 (0))]) hx hb hml hown hts hE hM hS hA ce_X8_init (List.mem_of_getElem? (i := 0) rfl) (C_X8_init l D A ad5 (((((((((([0] ++ [100]) ++ [100 + 1]) ++ [100 + 2]) ++ [100 + 3]) ++ [100 + 4]) ++ [100 + 5]) ++ [100 + 6]) ++ [100 + 7]) ++ [100 + 8]) ++ [110]) zI zL (u2 (u2 (u2 (u2 (u2 (u2 (u2 (u2 (u2 zG (100) 10 (100 + 1)) (100) 11 (100 + 2)) (100) 12 (100 + 3)) (100) 13 (100 + 4)) (100) 14 (100 + 5)) (100) 15 (100 + 6)) (100) 16 (100 + 7)) (100) 17 (100 + 8)) (0) 0 (100)) (110) (by decide) (by decide) (by decide) (by decide) (by decide) (by decide) (by decide) (by decide) (by decide) (by decide)) rfl rfl ⟨Nat.le_of_ble_eq_true rfl, Nat.le_of_ble_eq_true rfl⟩  rfl hl.1 rfl (Nat.le_of_ble_eq_true rfl) dX9_init_20 ⟨Nat.le_of_ble_eq_true rfl, Nat.le_of_ble_eq_true rfl⟩) hS (fun u H locs hw hM hS => ?_)
  obtain ⟨ad6, rfl, had⟩ := hw
  have hM : Mem D A ad6 (((((((((((((((((([0] ++ [100]) ++ [100 + 1]) ++ [100 + 2]) ++ [100 + 3]) ++ [100 + 4]) ++ [100 + 5]) ++ [100 + 6]) ++ [100 + 7]) ++ [100 + 8]) ++ [110]) ++ [110 + 1]) ++ [110 + 2]) ++ [110 + 3]) ++ [110 + 4]) ++ [110 + 5]) ++ [110 + 6]) ++ [110 + 7]) ++ [110 + 8]) zI zL (u2 (u2 (u2 (u2 (u2 (u2 (u2 (u2 (u2 (u2 (u2 (u2 (u2 (u2 (u2 (u2 (u2 zG (100) 10 (100 + 1)) (100) 11 (100 + 2)) (100) 12 (100 + 3)) (100) 13 (100 + 4)) (100) 14 (100 + 5)) (100) 15 (100 + 6)) (100) 16 (100 + 7)) (100) 17 (100 + 8)) (0) 0 (100)) (110) 10 (110 + 1)) (110) 11 (110 + 2)) (110) 12 (110 + 3)) (110) 13 (110 + 4)) (110) 14 (110 + 5)) (110) 15 (110 + 6)) (110) 16 (110 + 7)) (110) 17 (110 + 8)) H := hM
  rw [← had (0) (by decide)] at hl
  rw [← had (110) (by decide)]
  rw [← had (0) (by decide)]
  have hac : ∀ x ∈ [0], ad6 x = ad x := fun x hx => (had x (by simp at hx; subst hx; decide)).trans (hac x hx)
  refine m_putF (0) 1 (110) hx hb hts hown hin hE oc9 hM hS (by decide) rfl (by decide) rfl (by decide) (by decide) rfl rfl rfl rfl tb_399 dX9_init_23 (fun H locs G8 eG8 hM hS => ?_)
  subst eG8
  refine lv_aload_n hx hb dX9_init_26 rfl (lv_at hl 0 rfl) ?_
  refine lv_iconst (v := (4)) hx hb dX9_init_27 (by decide) ?_
  refine m_newq (1) (t0 := 4) hx hb hts hown hE hM hS hA (by decide) (by decide) rfl (by decide) rfl hE.2.2.1 tb_28 (by decide) rfl (by decide) (Nat.le_of_ble_eq_true rfl) (Nat.le_of_ble_eq_true rfl) dX9_init_28 (fun H ad9 had hM hS => ?_)
  rw [← had (0) (by decide)] at hl
  rw [← had (0) (by decide)]
  have hac : ∀ x ∈ [0], ad9 x = ad x := fun x hx => (had x (by simp at hx; subst hx; decide)).trans (hac x hx)
  refine m_putF (0) 2 (1) hx hb hts hown hin hE oc9 hM hS (by decide) rfl (by decide) rfl (by decide) (by decide) rfl rfl rfl rfl tb_400 dX9_init_31 (fun H locs G11 eG11 hM hS => ?_)
  subst eG11
  refine lv_aload_n hx hb dX9_init_34 rfl (lv_at hl 0 rfl) ?_
  refine m_new (10) hx hb hts hown hE oc1 hM hS hA (by decide) (by decide) rfl df1 tb_123 tb_124 tb_3 (Nat.le_of_ble_eq_true rfl) (Nat.le_of_ble_eq_true rfl) dX9_init_35 (fun H ad12 had hM hS => ?_)
  rw [← had (0) (by decide)] at hl
  rw [← had (0) (by decide)]
  have hac : ∀ x ∈ [0], ad12 x = ad x := fun x hx => (had x (by simp at hx; subst hx; decide)).trans (hac x hx)
  refine lv_dup hx hb dX9_init_38 rfl ?_
  refine m_callv (m_runIN (10) (As := []) (rest := [.ref (ad12 (10)), .ref (ad12 (0))]) hx hb hml hown hts hE hM hS hA ce_X1_init (List.mem_of_getElem? (i := 1) rfl) (C_X1_init l D A ad12 (((((((((((((((((((([0] ++ [100]) ++ [100 + 1]) ++ [100 + 2]) ++ [100 + 3]) ++ [100 + 4]) ++ [100 + 5]) ++ [100 + 6]) ++ [100 + 7]) ++ [100 + 8]) ++ [110]) ++ [110 + 1]) ++ [110 + 2]) ++ [110 + 3]) ++ [110 + 4]) ++ [110 + 5]) ++ [110 + 6]) ++ [110 + 7]) ++ [110 + 8]) ++ [1]) ++ [10]) zI zL (u2 (u2 (u2 (u2 (u2 (u2 (u2 (u2 (u2 (u2 (u2 (u2 (u2 (u2 (u2 (u2 (u2 (u2 (u2 zG (100) 10 (100 + 1)) (100) 11 (100 + 2)) (100) 12 (100 + 3)) (100) 13 (100 + 4)) (100) 14 (100 + 5)) (100) 15 (100 + 6)) (100) 16 (100 + 7)) (100) 17 (100 + 8)) (0) 0 (100)) (110) 10 (110 + 1)) (110) 11 (110 + 2)) (110) 12 (110 + 3)) (110) 13 (110 + 4)) (110) 14 (110 + 5)) (110) 15 (110 + 6)) (110) 16 (110 + 7)) (110) 17 (110 + 8)) (0) 1 (110)) (0) 2 (1)) (by decide) (by decide) (by decide) (by decide) (by decide)) rfl rfl ⟨Nat.le_of_ble_eq_true rfl, Nat.le_of_ble_eq_true rfl⟩  rfl hl.1 rfl (Nat.le_of_ble_eq_true rfl) dX9_init_39 ⟨Nat.le_of_ble_eq_true rfl, Nat.le_of_ble_eq_true rfl⟩) hS (fun u H locs hw hM hS => ?_)
  obtain ⟨ad13, rfl, had⟩ := hw
  have hM : Mem D A ad13 (((((((((((((((((((((((([0] ++ [100]) ++ [100 + 1]) ++ [100 + 2]) ++ [100 + 3]) ++ [100 + 4]) ++ [100 + 5]) ++ [100 + 6]) ++ [100 + 7]) ++ [100 + 8]) ++ [110]) ++ [110 + 1]) ++ [110 + 2]) ++ [110 + 3]) ++ [110 + 4]) ++ [110 + 5]) ++ [110 + 6]) ++ [110 + 7]) ++ [110 + 8]) ++ [1]) ++ [10]) ++ [11]) ++ [12]) ++ [13]) ++ [14]) zI zL (u2 (u2 (u2 (u2 (u2 (u2 (u2 (u2 (u2 (u2 (u2 (u2 (u2 (u2 (u2 (u2 (u2 (u2 (u2 (u2 (u2 (u2 (u2 zG (100) 10 (100 + 1)) (100) 11 (100 + 2)) (100) 12 (100 + 3)) (100) 13 (100 + 4)) (100) 14 (100 + 5)) (100) 15 (100 + 6)) (100) 16 (100 + 7)) (100) 17 (100 + 8)) (0) 0 (100)) (110) 10 (110 + 1)) (110) 11 (110 + 2)) (110) 12 (110 + 3)) (110) 13 (110 + 4)) (110) 14 (110 + 5)) (110) 15 (110 + 6)) (110) 16 (110 + 7)) (110) 17 (110 + 8)) (0) 1 (110)) (0) 2 (1)) (10) 0 (11)) (10) 1 (12)) (10) 9 (13)) (10) 10 (14)) H := hM
  rw [← had (0) (by decide)] at hl
  rw [← had (10) (by decide)]
  rw [← had (0) (by decide)]
  have hac : ∀ x ∈ [0], ad13 x = ad x := fun x hx => (had x (by simp at hx; subst hx; decide)).trans (hac x hx)
  refine m_putF (0) 3 (10) hx hb hts hown hin hE oc9 hM hS (by decide) rfl (by decide) rfl (by decide) (by decide) rfl rfl rfl rfl tb_401 dX9_init_42 (fun H locs G15 eG15 hM hS => ?_)
  subst eG15
  refine lv_aload_n hx hb dX9_init_45 rfl (lv_at hl 0 rfl) ?_
  refine m_new (20) hx hb hts hown hE oc2 hM hS hA (by decide) (by decide) rfl df2 tb_179 tb_180 tb_4 (Nat.le_of_ble_eq_true rfl) (Nat.le_of_ble_eq_true rfl) dX9_init_46 (fun H ad16 had hM hS => ?_)
  rw [← had (0) (by decide)] at hl
  rw [← had (0) (by decide)]
  have hac : ∀ x ∈ [0], ad16 x = ad x := fun x hx => (had x (by simp at hx; subst hx; decide)).trans (hac x hx)
  refine lv_dup hx hb dX9_init_49 rfl ?_
  refine lv_aload_n hx hb dX9_init_50 rfl (lv_at hl 0 rfl) ?_
  refine m_getr (0) 3 (10) hx hb hts hown hE oc9 hM (by decide) rfl (by decide) rfl (by decide) (by decide) tb_401 dX9_init_51 ?_
  refine m_callv (m_runI (20) (As := [.ref (ad16 (10))]) (rest := [.ref (ad16 (20)), .ref (ad16 (0))]) hx hb hml hown hts hE hM hS hA ce_X2_init tb_181 (C_X2_init l D A ad16 ((((((((((((((((((((((((([0] ++ [100]) ++ [100 + 1]) ++ [100 + 2]) ++ [100 + 3]) ++ [100 + 4]) ++ [100 + 5]) ++ [100 + 6]) ++ [100 + 7]) ++ [100 + 8]) ++ [110]) ++ [110 + 1]) ++ [110 + 2]) ++ [110 + 3]) ++ [110 + 4]) ++ [110 + 5]) ++ [110 + 6]) ++ [110 + 7]) ++ [110 + 8]) ++ [1]) ++ [10]) ++ [11]) ++ [12]) ++ [13]) ++ [14]) ++ [20]) zI zL (u2 (u2 (u2 (u2 (u2 (u2 (u2 (u2 (u2 (u2 (u2 (u2 (u2 (u2 (u2 (u2 (u2 (u2 (u2 (u2 (u2 (u2 (u2 (u2 zG (100) 10 (100 + 1)) (100) 11 (100 + 2)) (100) 12 (100 + 3)) (100) 13 (100 + 4)) (100) 14 (100 + 5)) (100) 15 (100 + 6)) (100) 16 (100 + 7)) (100) 17 (100 + 8)) (0) 0 (100)) (110) 10 (110 + 1)) (110) 11 (110 + 2)) (110) 12 (110 + 3)) (110) 13 (110 + 4)) (110) 14 (110 + 5)) (110) 15 (110 + 6)) (110) 16 (110 + 7)) (110) 17 (110 + 8)) (0) 1 (110)) (0) 2 (1)) (10) 0 (11)) (10) 1 (12)) (10) 9 (13)) (10) 10 (14)) (0) 3 (10)) (by decide) (by decide) (by decide) (by decide)) rfl rfl ⟨Nat.le_of_ble_eq_true rfl, Nat.le_of_ble_eq_true rfl⟩  rfl hl.1 rfl (Nat.le_of_ble_eq_true rfl) dX9_init_54 ⟨Nat.le_of_ble_eq_true rfl, Nat.le_of_ble_eq_true rfl⟩) hS (fun u H locs hw hM hS => ?_)
  obtain ⟨ad17, rfl, had⟩ := hw
  have hM : Mem D A ad17 ((((((((((((((((((((((((((([0] ++ [100]) ++ [100 + 1]) ++ [100 + 2]) ++ [100 + 3]) ++ [100 + 4]) ++ [100 + 5]) ++ [100 + 6]) ++ [100 + 7]) ++ [100 + 8]) ++ [110]) ++ [110 + 1]) ++ [110 + 2]) ++ [110 + 3]) ++ [110 + 4]) ++ [110 + 5]) ++ [110 + 6]) ++ [110 + 7]) ++ [110 + 8]) ++ [1]) ++ [10]) ++ [11]) ++ [12]) ++ [13]) ++ [14]) ++ [20]) ++ [21]) ++ [22]) zI zL (u2 (u2 (u2 (u2 (u2 (u2 (u2 (u2 (u2 (u2 (u2 (u2 (u2 (u2 (u2 (u2 (u2 (u2 (u2 (u2 (u2 (u2 (u2 (u2 (u2 (u2 (u2 zG (100) 10 (100 + 1)) (100) 11 (100 + 2)) (100) 12 (100 + 3)) (100) 13 (100 + 4)) (100) 14 (100 + 5)) (100) 15 (100 + 6)) (100) 16 (100 + 7)) (100) 17 (100 + 8)) (0) 0 (100)) (110) 10 (110 + 1)) (110) 11 (110 + 2)) (110) 12 (110 + 3)) (110) 13 (110 + 4)) (110) 14 (110 + 5)) (110) 15 (110 + 6)) (110) 16 (110 + 7)) (110) 17 (110 + 8)) (0) 1 (110)) (0) 2 (1)) (10) 0 (11)) (10) 1 (12)) (10) 9 (13)) (10) 10 (14)) (0) 3 (10)) (20) 1 (21)) (20) 2 (22)) (20) 0 (10)) H := hM
  rw [← had (0) (by decide)] at hl
  rw [← had (20) (by decide)]
  rw [← had (0) (by decide)]
  have hac : ∀ x ∈ [0], ad17 x = ad x := fun x hx => (had x (by simp at hx; subst hx; decide)).trans (hac x hx)
  refine m_putF (0) 4 (20) hx hb hts hown hin hE oc9 hM hS (by decide) rfl (by decide) rfl (by decide) (by decide) rfl rfl rfl rfl tb_402 dX9_init_57 (fun H locs G19 eG19 hM hS => ?_)
  subst eG19
  refine lv_aload_n hx hb dX9_init_60 rfl (lv_at hl 0 rfl) ?_
  refine m_new (30) hx hb hts hown hE oc0 hM hS hA (by decide) (by decide) rfl df0 tb_199 tb_200 tb_5 (Nat.le_of_ble_eq_true rfl) (Nat.le_of_ble_eq_true rfl) dX9_init_61 (fun H ad20 had hM hS => ?_)
  rw [← had (0) (by decide)] at hl
  rw [← had (0) (by decide)]
  have hac : ∀ x ∈ [0], ad20 x = ad x := fun x hx => (had x (by simp at hx; subst hx; decide)).trans (hac x hx)
  refine lv_dup hx hb dX9_init_64 rfl ?_
  refine lv_aload_n hx hb dX9_init_65 rfl (lv_at hl 0 rfl) ?_
  refine m_getr (0) 3 (10) hx hb hts hown hE oc9 hM (by decide) rfl (by decide) rfl (by decide) (by decide) tb_401 dX9_init_66 ?_
  refine m_callv (m_runI (30) (As := [.ref (ad20 (10))]) (rest := [.ref (ad20 (30)), .ref (ad20 (0))]) hx hb hml hown hts hE hM hS hA ce_X0_init tb_201 (C_X0_init l D A ad20 (((((((((((((((((((((((((((([0] ++ [100]) ++ [100 + 1]) ++ [100 + 2]) ++ [100 + 3]) ++ [100 + 4]) ++ [100 + 5]) ++ [100 + 6]) ++ [100 + 7]) ++ [100 + 8]) ++ [110]) ++ [110 + 1]) ++ [110 + 2]) ++ [110 + 3]) ++ [110 + 4]) ++ [110 + 5]) ++ [110 + 6]) ++ [110 + 7]) ++ [110 + 8]) ++ [1]) ++ [10]) ++ [11]) ++ [12]) ++ [13]) ++ [14]) ++ [20]) ++ [21]) ++ [22]) ++ [30]) zI zL (u2 (u2 (u2 (u2 (u2 (u2 (u2 (u2 (u2 (u2 (u2 (u2 (u2 (u2 (u2 (u2 (u2 (u2 (u2 (u2 (u2 (u2 (u2 (u2 (u2 (u2 (u2 (u2 zG (100) 10 (100 + 1)) (100) 11 (100 + 2)) (100) 12 (100 + 3)) (100) 13 (100 + 4)) (100) 14 (100 + 5)) (100) 15 (100 + 6)) (100) 16 (100 + 7)) (100) 17 (100 + 8)) (0) 0 (100)) (110) 10 (110 + 1)) (110) 11 (110 + 2)) (110) 12 (110 + 3)) (110) 13 (110 + 4)) (110) 14 (110 + 5)) (110) 15 (110 + 6)) (110) 16 (110 + 7)) (110) 17 (110 + 8)) (0) 1 (110)) (0) 2 (1)) (10) 0 (11)) (10) 1 (12)) (10) 9 (13)) (10) 10 (14)) (0) 3 (10)) (20) 1 (21)) (20) 2 (22)) (20) 0 (10)) (0) 4 (20)) (by decide) (by decide) (by decide) (by decide) (by decide) (by decide)) rfl rfl ⟨Nat.le_of_ble_eq_true rfl, Nat.le_of_ble_eq_true rfl⟩  rfl hl.1 rfl (Nat.le_of_ble_eq_true rfl) dX9_init_69 ⟨Nat.le_of_ble_eq_true rfl, Nat.le_of_ble_eq_true rfl⟩) hS (fun u H locs hw hM hS => ?_)
  obtain ⟨ad21, rfl, had⟩ := hw
  have hM : Mem D A ad21 (((((((((((((((((((((((((((((((([0] ++ [100]) ++ [100 + 1]) ++ [100 + 2]) ++ [100 + 3]) ++ [100 + 4]) ++ [100 + 5]) ++ [100 + 6]) ++ [100 + 7]) ++ [100 + 8]) ++ [110]) ++ [110 + 1]) ++ [110 + 2]) ++ [110 + 3]) ++ [110 + 4]) ++ [110 + 5]) ++ [110 + 6]) ++ [110 + 7]) ++ [110 + 8]) ++ [1]) ++ [10]) ++ [11]) ++ [12]) ++ [13]) ++ [14]) ++ [20]) ++ [21]) ++ [22]) ++ [30]) ++ [31]) ++ [32]) ++ [33]) ++ [34]) zI zL (u2 (u2 (u2 (u2 (u2 (u2 (u2 (u2 (u2 (u2 (u2 (u2 (u2 (u2 (u2 (u2 (u2 (u2 (u2 (u2 (u2 (u2 (u2 (u2 (u2 (u2 (u2 (u2 (u2 (u2 (u2 (u2 (u2 zG (100) 10 (100 + 1)) (100) 11 (100 + 2)) (100) 12 (100 + 3)) (100) 13 (100 + 4)) (100) 14 (100 + 5)) (100) 15 (100 + 6)) (100) 16 (100 + 7)) (100) 17 (100 + 8)) (0) 0 (100)) (110) 10 (110 + 1)) (110) 11 (110 + 2)) (110) 12 (110 + 3)) (110) 13 (110 + 4)) (110) 14 (110 + 5)) (110) 15 (110 + 6)) (110) 16 (110 + 7)) (110) 17 (110 + 8)) (0) 1 (110)) (0) 2 (1)) (10) 0 (11)) (10) 1 (12)) (10) 9 (13)) (10) 10 (14)) (0) 3 (10)) (20) 1 (21)) (20) 2 (22)) (20) 0 (10)) (0) 4 (20)) (30) 1 (31)) (30) 2 (32)) (30) 3 (33)) (30) 4 (34)) (30) 0 (10)) H := hM
  rw [← had (0) (by decide)] at hl
  rw [← had (30) (by decide)]
  rw [← had (0) (by decide)]
  have hac : ∀ x ∈ [0], ad21 x = ad x := fun x hx => (had x (by simp at hx; subst hx; decide)).trans (hac x hx)
  refine m_putF (0) 5 (30) hx hb hts hown hin hE oc9 hM hS (by decide) rfl (by decide) rfl (by decide) (by decide) rfl rfl rfl rfl tb_403 dX9_init_72 (fun H locs G23 eG23 hM hS => ?_)
  subst eG23
  refine lv_aload_n hx hb dX9_init_75 rfl (lv_at hl 0 rfl) ?_
  refine m_new (40) hx hb hts hown hE oc5 hM hS hA (by decide) (by decide) rfl df5 tb_227 tb_228 tb_6 (Nat.le_of_ble_eq_true rfl) (Nat.le_of_ble_eq_true rfl) dX9_init_76 (fun H ad24 had hM hS => ?_)
  rw [← had (0) (by decide)] at hl
  rw [← had (0) (by decide)]
  have hac : ∀ x ∈ [0], ad24 x = ad x := fun x hx => (had x (by simp at hx; subst hx; decide)).trans (hac x hx)
  refine lv_dup hx hb dX9_init_79 rfl ?_
  refine lv_aload_n hx hb dX9_init_80 rfl (lv_at hl 0 rfl) ?_
  refine m_getr (0) 0 (100) hx hb hts hown hE oc9 hM (by decide) rfl (by decide) rfl (by decide) (by decide) tb_398 dX9_init_81 ?_
  refine lv_aload_n hx hb dX9_init_84 rfl (lv_at hl 0 rfl) ?_
  refine m_getr (0) 3 (10) hx hb hts hown hE oc9 hM (by decide) rfl (by decide) rfl (by decide) (by decide) tb_401 dX9_init_85 ?_
  refine m_callv (m_runI (40) (As := [.ref (ad24 (100)), .ref (ad24 (10))]) (rest := [.ref (ad24 (40)), .ref (ad24 (0))]) hx hb hml hown hts hE hM hS hA ce_X5_init tb_229 (C_X5_init l D A ad24 ((((((((((((((((((((((((((((((((([0] ++ [100]) ++ [100 + 1]) ++ [100 + 2]) ++ [100 + 3]) ++ [100 + 4]) ++ [100 + 5]) ++ [100 + 6]) ++ [100 + 7]) ++ [100 + 8]) ++ [110]) ++ [110 + 1]) ++ [110 + 2]) ++ [110 + 3]) ++ [110 + 4]) ++ [110 + 5]) ++ [110 + 6]) ++ [110 + 7]) ++ [110 + 8]) ++ [1]) ++ [10]) ++ [11]) ++ [12]) ++ [13]) ++ [14]) ++ [20]) ++ [21]) ++ [22]) ++ [30]) ++ [31]) ++ [32]) ++ [33]) ++ [34]) ++ [40]) zI zL (u2 (u2 (u2 (u2 (u2 (u2 (u2 (u2 (u2 (u2 (u2 (u2 (u2 (u2 (u2 (u2 (u2 (u2 (u2 (u2 (u2 (u2 (u2 (u2 (u2 (u2 (u2 (u2 (u2 (u2 (u2 (u2 (u2 (u2 zG (100) 10 (100 + 1)) (100) 11 (100 + 2)) (100) 12 (100 + 3)) (100) 13 (100 + 4)) (100) 14 (100 + 5)) (100) 15 (100 + 6)) (100) 16 (100 + 7)) (100) 17 (100 + 8)) (0) 0 (100)) (110) 10 (110 + 1)) (110) 11 (110 + 2)) (110) 12 (110 + 3)) (110) 13 (110 + 4)) (110) 14 (110 + 5)) (110) 15 (110 + 6)) (110) 16 (110 + 7)) (110) 17 (110 + 8)) (0) 1 (110)) (0) 2 (1)) (10) 0 (11)) (10) 1 (12)) (10) 9 (13)) (10) 10 (14)) (0) 3 (10)) (20) 1 (21)) (20) 2 (22)) (20) 0 (10)) (0) 4 (20)) (30) 1 (31)) (30) 2 (32)) (30) 3 (33)) (30) 4 (34)) (30) 0 (10)) (0) 5 (30)) (by decide) (by decide) (by decide) (by decide) (by decide) (by decide)) rfl rfl ⟨Nat.le_of_ble_eq_true rfl, Nat.le_of_ble_eq_true rfl⟩  rfl hl.1 rfl (Nat.le_of_ble_eq_true rfl) dX9_init_88 ⟨Nat.le_of_ble_eq_true rfl, Nat.le_of_ble_eq_true rfl⟩) hS (fun u H locs hw hM hS => ?_)
  obtain ⟨ad25, rfl, had⟩ := hw
  have hM : Mem D A ad25 (((((((((((((((((((((((((((((((((((([0] ++ [100]) ++ [100 + 1]) ++ [100 + 2]) ++ [100 + 3]) ++ [100 + 4]) ++ [100 + 5]) ++ [100 + 6]) ++ [100 + 7]) ++ [100 + 8]) ++ [110]) ++ [110 + 1]) ++ [110 + 2]) ++ [110 + 3]) ++ [110 + 4]) ++ [110 + 5]) ++ [110 + 6]) ++ [110 + 7]) ++ [110 + 8]) ++ [1]) ++ [10]) ++ [11]) ++ [12]) ++ [13]) ++ [14]) ++ [20]) ++ [21]) ++ [22]) ++ [30]) ++ [31]) ++ [32]) ++ [33]) ++ [34]) ++ [40]) ++ [41]) ++ [42]) ++ [43]) zI zL (u2 (u2 (u2 (u2 (u2 (u2 (u2 (u2 (u2 (u2 (u2 (u2 (u2 (u2 (u2 (u2 (u2 (u2 (u2 (u2 (u2 (u2 (u2 (u2 (u2 (u2 (u2 (u2 (u2 (u2 (u2 (u2 (u2 (u2 (u2 (u2 (u2 (u2 (u2 zG (100) 10 (100 + 1)) (100) 11 (100 + 2)) (100) 12 (100 + 3)) (100) 13 (100 + 4)) (100) 14 (100 + 5)) (100) 15 (100 + 6)) (100) 16 (100 + 7)) (100) 17 (100 + 8)) (0) 0 (100)) (110) 10 (110 + 1)) (110) 11 (110 + 2)) (110) 12 (110 + 3)) (110) 13 (110 + 4)) (110) 14 (110 + 5)) (110) 15 (110 + 6)) (110) 16 (110 + 7)) (110) 17 (110 + 8)) (0) 1 (110)) (0) 2 (1)) (10) 0 (11)) (10) 1 (12)) (10) 9 (13)) (10) 10 (14)) (0) 3 (10)) (20) 1 (21)) (20) 2 (22)) (20) 0 (10)) (0) 4 (20)) (30) 1 (31)) (30) 2 (32)) (30) 3 (33)) (30) 4 (34)) (30) 0 (10)) (0) 5 (30)) (40) 0 (41)) (40) 3 (42)) (40) 4 (43)) (40) 1 (100)) (40) 2 (10)) H := hM
  rw [← had (0) (by decide)] at hl
  rw [← had (40) (by decide)]
  rw [← had (0) (by decide)]
  have hac : ∀ x ∈ [0], ad25 x = ad x := fun x hx => (had x (by simp at hx; subst hx; decide)).trans (hac x hx)
  refine m_putF (0) 6 (40) hx hb hts hown hin hE oc9 hM hS (by decide) rfl (by decide) rfl (by decide) (by decide) rfl rfl rfl rfl tb_404 dX9_init_91 (fun H locs G27 eG27 hM hS => ?_)
  subst eG27
  refine lv_aload_n hx hb dX9_init_94 rfl (lv_at hl 0 rfl) ?_
  refine m_new (50) hx hb hts hown hE oc6 hM hS hA (by decide) (by decide) rfl df6 tb_262 tb_263 tb_7 (Nat.le_of_ble_eq_true rfl) (Nat.le_of_ble_eq_true rfl) dX9_init_95 (fun H ad28 had hM hS => ?_)
  rw [← had (0) (by decide)] at hl
  rw [← had (0) (by decide)]
  have hac : ∀ x ∈ [0], ad28 x = ad x := fun x hx => (had x (by simp at hx; subst hx; decide)).trans (hac x hx)
  refine lv_dup hx hb dX9_init_98 rfl ?_
  refine lv_aload_n hx hb dX9_init_99 rfl (lv_at hl 0 rfl) ?_
  refine m_getr (0) 3 (10) hx hb hts hown hE oc9 hM (by decide) rfl (by decide) rfl (by decide) (by decide) tb_401 dX9_init_100 ?_
  refine m_callv (m_runI (50) (As := [.ref (ad28 (10))]) (rest := [.ref (ad28 (50)), .ref (ad28 (0))]) hx hb hml hown hts hE hM hS hA ce_X6_init tb_264 (C_X6_init l D A ad28 ((((((((((((((((((((((((((((((((((((([0] ++ [100]) ++ [100 + 1]) ++ [100 + 2]) ++ [100 + 3]) ++ [100 + 4]) ++ [100 + 5]) ++ [100 + 6]) ++ [100 + 7]) ++ [100 + 8]) ++ [110]) ++ [110 + 1]) ++ [110 + 2]) ++ [110 + 3]) ++ [110 + 4]) ++ [110 + 5]) ++ [110 + 6]) ++ [110 + 7]) ++ [110 + 8]) ++ [1]) ++ [10]) ++ [11]) ++ [12]) ++ [13]) ++ [14]) ++ [20]) ++ [21]) ++ [22]) ++ [30]) ++ [31]) ++ [32]) ++ [33]) ++ [34]) ++ [40]) ++ [41]) ++ [42]) ++ [43]) ++ [50]) zI zL (u2 (u2 (u2 (u2 (u2 (u2 (u2 (u2 (u2 (u2 (u2 (u2 (u2 (u2 (u2 (u2 (u2 (u2 (u2 (u2 (u2 (u2 (u2 (u2 (u2 (u2 (u2 (u2 (u2 (u2 (u2 (u2 (u2 (u2 (u2 (u2 (u2 (u2 (u2 (u2 zG (100) 10 (100 + 1)) (100) 11 (100 + 2)) (100) 12 (100 + 3)) (100) 13 (100 + 4)) (100) 14 (100 + 5)) (100) 15 (100 + 6)) (100) 16 (100 + 7)) (100) 17 (100 + 8)) (0) 0 (100)) (110) 10 (110 + 1)) (110) 11 (110 + 2)) (110) 12 (110 + 3)) (110) 13 (110 + 4)) (110) 14 (110 + 5)) (110) 15 (110 + 6)) (110) 16 (110 + 7)) (110) 17 (110 + 8)) (0) 1 (110)) (0) 2 (1)) (10) 0 (11)) (10) 1 (12)) (10) 9 (13)) (10) 10 (14)) (0) 3 (10)) (20) 1 (21)) (20) 2 (22)) (20) 0 (10)) (0) 4 (20)) (30) 1 (31)) (30) 2 (32)) (30) 3 (33)) (30) 4 (34)) (30) 0 (10)) (0) 5 (30)) (40) 0 (41)) (40) 3 (42)) (40) 4 (43)) (40) 1 (100)) (40) 2 (10)) (0) 6 (40)) (by decide) (by decide)) rfl rfl ⟨Nat.le_of_ble_eq_true rfl, Nat.le_of_ble_eq_true rfl⟩  rfl hl.1 rfl (Nat.le_of_ble_eq_true rfl) dX9_init_103 ⟨Nat.le_of_ble_eq_true rfl, Nat.le_of_ble_eq_true rfl⟩) hS (fun u H locs hw hM hS => ?_)
  obtain ⟨ad29, rfl, had⟩ := hw
  have hM : Mem D A ad29 ((((((((((((((((((((((((((((((((((((([0] ++ [100]) ++ [100 + 1]) ++ [100 + 2]) ++ [100 + 3]) ++ [100 + 4]) ++ [100 + 5]) ++ [100 + 6]) ++ [100 + 7]) ++ [100 + 8]) ++ [110]) ++ [110 + 1]) ++ [110 + 2]) ++ [110 + 3]) ++ [110 + 4]) ++ [110 + 5]) ++ [110 + 6]) ++ [110 + 7]) ++ [110 + 8]) ++ [1]) ++ [10]) ++ [11]) ++ [12]) ++ [13]) ++ [14]) ++ [20]) ++ [21]) ++ [22]) ++ [30]) ++ [31]) ++ [32]) ++ [33]) ++ [34]) ++ [40]) ++ [41]) ++ [42]) ++ [43]) ++ [50]) zI zL (u2 (u2 (u2 (u2 (u2 (u2 (u2 (u2 (u2 (u2 (u2 (u2 (u2 (u2 (u2 (u2 (u2 (u2 (u2 (u2 (u2 (u2 (u2 (u2 (u2 (u2 (u2 (u2 (u2 (u2 (u2 (u2 (u2 (u2 (u2 (u2 (u2 (u2 (u2 (u2 (u2 zG (100) 10 (100 + 1)) (100) 11 (100 + 2)) (100) 12 (100 + 3)) (100) 13 (100 + 4)) (100) 14 (100 + 5)) (100) 15 (100 + 6)) (100) 16 (100 + 7)) (100) 17 (100 + 8)) (0) 0 (100)) (110) 10 (110 + 1)) (110) 11 (110 + 2)) (110) 12 (110 + 3)) (110) 13 (110 + 4)) (110) 14 (110 + 5)) (110) 15 (110 + 6)) (110) 16 (110 + 7)) (110) 17 (110 + 8)) (0) 1 (110)) (0) 2 (1)) (10) 0 (11)) (10) 1 (12)) (10) 9 (13)) (10) 10 (14)) (0) 3 (10)) (20) 1 (21)) (20) 2 (22)) (20) 0 (10)) (0) 4 (20)) (30) 1 (31)) (30) 2 (32)) (30) 3 (33)) (30) 4 (34)) (30) 0 (10)) (0) 5 (30)) (40) 0 (41)) (40) 3 (42)) (40) 4 (43)) (40) 1 (100)) (40) 2 (10)) (0) 6 (40)) (50) 3 (10)) H := hM
  rw [← had (0) (by decide)] at hl
  rw [← had (50) (by decide)]
  rw [← had (0) (by decide)]
  have hac : ∀ x ∈ [0], ad29 x = ad x := fun x hx => (had x (by simp at hx; subst hx; decide)).trans (hac x hx)
  refine m_putF (0) 7 (50) hx hb hts hown hin hE oc9 hM hS (by decide) rfl (by decide) rfl (by decide) (by decide) rfl rfl rfl rfl tb_405 dX9_init_106 (fun H locs G31 eG31 hM hS => ?_)
  subst eG31
  refine lv_aload_n hx hb dX9_init_109 rfl (lv_at hl 0 rfl) ?_
  refine m_new (60) hx hb hts hown hE oc7 hM hS hA (by decide) (by decide) rfl df7 tb_284 tb_285 tb_8 (Nat.le_of_ble_eq_true rfl) (Nat.le_of_ble_eq_true rfl) dX9_init_110 (fun H ad32 had hM hS => ?_)
  rw [← had (0) (by decide)] at hl
  rw [← had (0) (by decide)]
  have hac : ∀ x ∈ [0], ad32 x = ad x := fun x hx => (had x (by simp at hx; subst hx; decide)).trans (hac x hx)
  refine lv_dup hx hb dX9_init_113 rfl ?_
  refine m_callv (m_runIN (60) (As := []) (rest := [.ref (ad32 (60)), .ref (ad32 (0))]) hx hb hml hown hts hE hM hS hA ce_X7_init (List.mem_of_getElem? (i := 2) rfl) (C_X7_init l D A ad32 (((((((((((((((((((((((((((((((((((((([0] ++ [100]) ++ [100 + 1]) ++ [100 + 2]) ++ [100 + 3]) ++ [100 + 4]) ++ [100 + 5]) ++ [100 + 6]) ++ [100 + 7]) ++ [100 + 8]) ++ [110]) ++ [110 + 1]) ++ [110 + 2]) ++ [110 + 3]) ++ [110 + 4]) ++ [110 + 5]) ++ [110 + 6]) ++ [110 + 7]) ++ [110 + 8]) ++ [1]) ++ [10]) ++ [11]) ++ [12]) ++ [13]) ++ [14]) ++ [20]) ++ [21]) ++ [22]) ++ [30]) ++ [31]) ++ [32]) ++ [33]) ++ [34]) ++ [40]) ++ [41]) ++ [42]) ++ [43]) ++ [50]) ++ [60]) zI zL (u2 (u2 (u2 (u2 (u2 (u2 (u2 (u2 (u2 (u2 (u2 (u2 (u2 (u2 (u2 (u2 (u2 (u2 (u2 (u2 (u2 (u2 (u2 (u2 (u2 (u2 (u2 (u2 (u2 (u2 (u2 (u2 (u2 (u2 (u2 (u2 (u2 (u2 (u2 (u2 (u2 (u2 zG (100) 10 (100 + 1)) (100) 11 (100 + 2)) (100) 12 (100 + 3)) (100) 13 (100 + 4)) (100) 14 (100 + 5)) (100) 15 (100 + 6)) (100) 16 (100 + 7)) (100) 17 (100 + 8)) (0) 0 (100)) (110) 10 (110 + 1)) (110) 11 (110 + 2)) (110) 12 (110 + 3)) (110) 13 (110 + 4)) (110) 14 (110 + 5)) (110) 15 (110 + 6)) (110) 16 (110 + 7)) (110) 17 (110 + 8)) (0) 1 (110)) (0) 2 (1)) (10) 0 (11)) (10) 1 (12)) (10) 9 (13)) (10) 10 (14)) (0) 3 (10)) (20) 1 (21)) (20) 2 (22)) (20) 0 (10)) (0) 4 (20)) (30) 1 (31)) (30) 2 (32)) (30) 3 (33)) (30) 4 (34)) (30) 0 (10)) (0) 5 (30)) (40) 0 (41)) (40) 3 (42)) (40) 4 (43)) (40) 1 (100)) (40) 2 (10)) (0) 6 (40)) (50) 3 (10)) (0) 7 (50)) (by decide) (by decide) (by decide)) rfl rfl ⟨Nat.le_of_ble_eq_true rfl, Nat.le_of_ble_eq_true rfl⟩  rfl hl.1 rfl (Nat.le_of_ble_eq_true rfl) dX9_init_114 ⟨Nat.le_of_ble_eq_true rfl, Nat.le_of_ble_eq_true rfl⟩) hS (fun u H locs hw hM hS => ?_)
  obtain ⟨ad33, rfl, had⟩ := hw
  have hM : Mem D A ad33 (((((((((((((((((((((((((((((((((((((((([0] ++ [100]) ++ [100 + 1]) ++ [100 + 2]) ++ [100 + 3]) ++ [100 + 4]) ++ [100 + 5]) ++ [100 + 6]) ++ [100 + 7]) ++ [100 + 8]) ++ [110]) ++ [110 + 1]) ++ [110 + 2]) ++ [110 + 3]) ++ [110 + 4]) ++ [110 + 5]) ++ [110 + 6]) ++ [110 + 7]) ++ [110 + 8]) ++ [1]) ++ [10]) ++ [11]) ++ [12]) ++ [13]) ++ [14]) ++ [20]) ++ [21]) ++ [22]) ++ [30]) ++ [31]) ++ [32]) ++ [33]) ++ [34]) ++ [40]) ++ [41]) ++ [42]) ++ [43]) ++ [50]) ++ [60]) ++ [61]) ++ [62]) zI zL (u2 (u2 (u2 (u2 (u2 (u2 (u2 (u2 (u2 (u2 (u2 (u2 (u2 (u2 (u2 (u2 (u2 (u2 (u2 (u2 (u2 (u2 (u2 (u2 (u2 (u2 (u2 (u2 (u2 (u2 (u2 (u2 (u2 (u2 (u2 (u2 (u2 (u2 (u2 (u2 (u2 (u2 (u2 (u2 zG (100) 10 (100 + 1)) (100) 11 (100 + 2)) (100) 12 (100 + 3)) (100) 13 (100 + 4)) (100) 14 (100 + 5)) (100) 15 (100 + 6)) (100) 16 (100 + 7)) (100) 17 (100 + 8)) (0) 0 (100)) (110) 10 (110 + 1)) (110) 11 (110 + 2)) (110) 12 (110 + 3)) (110) 13 (110 + 4)) (110) 14 (110 + 5)) (110) 15 (110 + 6)) (110) 16 (110 + 7)) (110) 17 (110 + 8)) (0) 1 (110)) (0) 2 (1)) (10) 0 (11)) (10) 1 (12)) (10) 9 (13)) (10) 10 (14)) (0) 3 (10)) (20) 1 (21)) (20) 2 (22)) (20) 0 (10)) (0) 4 (20)) (30) 1 (31)) (30) 2 (32)) (30) 3 (33)) (30) 4 (34)) (30) 0 (10)) (0) 5 (30)) (40) 0 (41)) (40) 3 (42)) (40) 4 (43)) (40) 1 (100)) (40) 2 (10)) (0) 6 (40)) (50) 3 (10)) (0) 7 (50)) (60) 3 (61)) (60) 4 (62)) H := hM
  rw [← had (0) (by decide)] at hl
  rw [← had (60) (by decide)]
  rw [← had (0) (by decide)]
  have hac : ∀ x ∈ [0], ad33 x = ad x := fun x hx => (had x (by simp at hx; subst hx; decide)).trans (hac x hx)
  refine m_putF (0) 8 (60) hx hb hts hown hin hE oc9 hM hS (by decide) rfl (by decide) rfl (by decide) (by decide) rfl rfl rfl rfl tb_406 dX9_init_117 (fun H locs G35 eG35 hM hS => ?_)
  subst eG35
  refine lv_aload_n hx hb dX9_init_120 rfl (lv_at hl 0 rfl) ?_
  refine m_new (70) hx hb hts hown hE oc4 hM hS hA (by decide) (by decide) rfl df4 tb_312 tb_313 tb_9 (Nat.le_of_ble_eq_true rfl) (Nat.le_of_ble_eq_true rfl) dX9_init_121 (fun H ad36 had hM hS => ?_)
  rw [← had (0) (by decide)] at hl
  rw [← had (0) (by decide)]
  have hac : ∀ x ∈ [0], ad36 x = ad x := fun x hx => (had x (by simp at hx; subst hx; decide)).trans (hac x hx)
  refine lv_dup hx hb dX9_init_124 rfl ?_
  refine m_callv (m_runIN (70) (As := []) (rest := [.ref (ad36 (70)), .ref (ad36 (0))]) hx hb hml hown hts hE hM hS hA ce_X4_init (List.mem_of_getElem? (i := 3) rfl) (C_X4_init l D A ad36 ((((((((((((((((((((((((((((((((((((((((([0] ++ [100]) ++ [100 + 1]) ++ [100 + 2]) ++ [100 + 3]) ++ [100 + 4]) ++ [100 + 5]) ++ [100 + 6]) ++ [100 + 7]) ++ [100 + 8]) ++ [110]) ++ [110 + 1]) ++ [110 + 2]) ++ [110 + 3]) ++ [110 + 4]) ++ [110 + 5]) ++ [110 + 6]) ++ [110 + 7]) ++ [110 + 8]) ++ [1]) ++ [10]) ++ [11]) ++ [12]) ++ [13]) ++ [14]) ++ [20]) ++ [21]) ++ [22]) ++ [30]) ++ [31]) ++ [32]) ++ [33]) ++ [34]) ++ [40]) ++ [41]) ++ [42]) ++ [43]) ++ [50]) ++ [60]) ++ [61]) ++ [62]) ++ [70]) zI zL (u2 (u2 (u2 (u2 (u2 (u2 (u2 (u2 (u2 (u2 (u2 (u2 (u2 (u2 (u2 (u2 (u2 (u2 (u2 (u2 (u2 (u2 (u2 (u2 (u2 (u2 (u2 (u2 (u2 (u2 (u2 (u2 (u2 (u2 (u2 (u2 (u2 (u2 (u2 (u2 (u2 (u2 (u2 (u2 (u2 zG (100) 10 (100 + 1)) (100) 11 (100 + 2)) (100) 12 (100 + 3)) (100) 13 (100 + 4)) (100) 14 (100 + 5)) (100) 15 (100 + 6)) (100) 16 (100 + 7)) (100) 17 (100 + 8)) (0) 0 (100)) (110) 10 (110 + 1)) (110) 11 (110 + 2)) (110) 12 (110 + 3)) (110) 13 (110 + 4)) (110) 14 (110 + 5)) (110) 15 (110 + 6)) (110) 16 (110 + 7)) (110) 17 (110 + 8)) (0) 1 (110)) (0) 2 (1)) (10) 0 (11)) (10) 1 (12)) (10) 9 (13)) (10) 10 (14)) (0) 3 (10)) (20) 1 (21)) (20) 2 (22)) (20) 0 (10)) (0) 4 (20)) (30) 1 (31)) (30) 2 (32)) (30) 3 (33)) (30) 4 (34)) (30) 0 (10)) (0) 5 (30)) (40) 0 (41)) (40) 3 (42)) (40) 4 (43)) (40) 1 (100)) (40) 2 (10)) (0) 6 (40)) (50) 3 (10)) (0) 7 (50)) (60) 3 (61)) (60) 4 (62)) (0) 8 (60)) (by decide) (by decide) (by decide)) rfl rfl ⟨Nat.le_of_ble_eq_true rfl, Nat.le_of_ble_eq_true rfl⟩  rfl hl.1 rfl (Nat.le_of_ble_eq_true rfl) dX9_init_125 ⟨Nat.le_of_ble_eq_true rfl, Nat.le_of_ble_eq_true rfl⟩) hS (fun u H locs hw hM hS => ?_)
  obtain ⟨ad37, rfl, had⟩ := hw
  have hM : Mem D A ad37 ((((((((((((((((((((((((((((((((((((((((((([0] ++ [100]) ++ [100 + 1]) ++ [100 + 2]) ++ [100 + 3]) ++ [100 + 4]) ++ [100 + 5]) ++ [100 + 6]) ++ [100 + 7]) ++ [100 + 8]) ++ [110]) ++ [110 + 1]) ++ [110 + 2]) ++ [110 + 3]) ++ [110 + 4]) ++ [110 + 5]) ++ [110 + 6]) ++ [110 + 7]) ++ [110 + 8]) ++ [1]) ++ [10]) ++ [11]) ++ [12]) ++ [13]) ++ [14]) ++ [20]) ++ [21]) ++ [22]) ++ [30]) ++ [31]) ++ [32]) ++ [33]) ++ [34]) ++ [40]) ++ [41]) ++ [42]) ++ [43]) ++ [50]) ++ [60]) ++ [61]) ++ [62]) ++ [70]) ++ [71]) ++ [72]) zI zL (u2 (u2 (u2 (u2 (u2 (u2 (u2 (u2 (u2 (u2 (u2 (u2 (u2 (u2 (u2 (u2 (u2 (u2 (u2 (u2 (u2 (u2 (u2 (u2 (u2 (u2 (u2 (u2 (u2 (u2 (u2 (u2 (u2 (u2 (u2 (u2 (u2 (u2 (u2 (u2 (u2 (u2 (u2 (u2 (u2 (u2 (u2 zG (100) 10 (100 + 1)) (100) 11 (100 + 2)) (100) 12 (100 + 3)) (100) 13 (100 + 4)) (100) 14 (100 + 5)) (100) 15 (100 + 6)) (100) 16 (100 + 7)) (100) 17 (100 + 8)) (0) 0 (100)) (110) 10 (110 + 1)) (110) 11 (110 + 2)) (110) 12 (110 + 3)) (110) 13 (110 + 4)) (110) 14 (110 + 5)) (110) 15 (110 + 6)) (110) 16 (110 + 7)) (110) 17 (110 + 8)) (0) 1 (110)) (0) 2 (1)) (10) 0 (11)) (10) 1 (12)) (10) 9 (13)) (10) 10 (14)) (0) 3 (10)) (20) 1 (21)) (20) 2 (22)) (20) 0 (10)) (0) 4 (20)) (30) 1 (31)) (30) 2 (32)) (30) 3 (33)) (30) 4 (34)) (30) 0 (10)) (0) 5 (30)) (40) 0 (41)) (40) 3 (42)) (40) 4 (43)) (40) 1 (100)) (40) 2 (10)) (0) 6 (40)) (50) 3 (10)) (0) 7 (50)) (60) 3 (61)) (60) 4 (62)) (0) 8 (60)) (70) 0 (71)) (70) 1 (72)) H := hM
  rw [← had (0) (by decide)] at hl
  rw [← had (70) (by decide)]
  rw [← had (0) (by decide)]
  have hac : ∀ x ∈ [0], ad37 x = ad x := fun x hx => (had x (by simp at hx; subst hx; decide)).trans (hac x hx)
  refine m_putF (0) 9 (70) hx hb hts hown hin hE oc9 hM hS (by decide) rfl (by decide) rfl (by decide) (by decide) rfl rfl rfl rfl tb_407 dX9_init_128 (fun H locs G39 eG39 hM hS => ?_)
  subst eG39
  refine lv_aload_n hx hb dX9_init_131 rfl (lv_at hl 0 rfl) ?_
  refine lv_bipush (v := (6)) hx hb dX9_init_132 (by decide) ?_
  refine m_newq (2) (t0 := 5) hx hb hts hown hE hM hS hA (by decide) (by decide) rfl (by decide) rfl hE.2.2.2.1 tb_362 (by decide) rfl (by decide) (Nat.le_of_ble_eq_true rfl) (Nat.le_of_ble_eq_true rfl) dX9_init_134 (fun H ad40 had hM hS => ?_)
  rw [← had (0) (by decide)] at hl
  rw [← had (0) (by decide)]
  have hac : ∀ x ∈ [0], ad40 x = ad x := fun x hx => (had x (by simp at hx; subst hx; decide)).trans (hac x hx)
  refine m_putF (0) 10 (2) hx hb hts hown hin hE oc9 hM hS (by decide) rfl (by decide) rfl (by decide) (by decide) rfl rfl rfl rfl tb_408 dX9_init_137 (fun H locs G42 eG42 hM hS => ?_)
  subst eG42
  refine lv_aload_n hx hb dX9_init_140 rfl (lv_at hl 0 rfl) ?_
  refine lv_sipush (v := (400)) hx hb dX9_init_141 (by decide) ?_
  refine m_newi (3) (t0 := 1) hx hb hts hE hM hS hA (by decide) (by decide) rfl (by decide) rfl (fun _ _ h => h) tb_361 rfl rfl (by decide) rfl (by decide) (Nat.le_of_ble_eq_true rfl) (Nat.le_of_ble_eq_true rfl) dX9_init_144 (fun H ad43 had hM hS => ?_)
  rw [← had (0) (by decide)] at hl
  rw [← had (0) (by decide)]
  have hac : ∀ x ∈ [0], ad43 x = ad x := fun x hx => (had x (by simp at hx; subst hx; decide)).trans (hac x hx)
  refine m_putF (0) 11 (3) hx hb hts hown hin hE oc9 hM hS (by decide) rfl (by decide) rfl (by decide) (by decide) rfl rfl rfl rfl tb_409 dX9_init_146 (fun H locs G45 eG45 hM hS => ?_)
  subst eG45
  refine lv_aload_n hx hb dX9_init_149 rfl (lv_at hl 0 rfl) ?_
  refine lv_bipush (v := (8)) hx hb dX9_init_150 (by decide) ?_
  refine m_newi (4) (t0 := 0) hx hb hts hE hM hS hA (by decide) (by decide) rfl (by decide) rfl (fun _ _ h => h) tb_121 rfl rfl (by decide) rfl (by decide) (Nat.le_of_ble_eq_true rfl) (Nat.le_of_ble_eq_true rfl) dX9_init_152 (fun H ad46 had hM hS => ?_)
  rw [← had (0) (by decide)] at hl
  rw [← had (0) (by decide)]
  have hac : ∀ x ∈ [0], ad46 x = ad x := fun x hx => (had x (by simp at hx; subst hx; decide)).trans (hac x hx)
  refine m_putF (0) 12 (4) hx hb hts hown hin hE oc9 hM hS (by decide) rfl (by decide) rfl (by decide) (by decide) rfl rfl rfl rfl tb_410 dX9_init_154 (fun H locs G48 eG48 hM hS => ?_)
  subst eG48
  refine lv_aload_n hx hb dX9_init_157 rfl (lv_at hl 0 rfl) ?_
  refine m_new (200) hx hb hts hown hE oc3 hM hS hA (by decide) (by decide) rfl df3 tb_362 tb_364 tb_10 (Nat.le_of_ble_eq_true rfl) (Nat.le_of_ble_eq_true rfl) dX9_init_158 (fun H ad49 had hM hS => ?_)
  rw [← had (0) (by decide)] at hl
  rw [← had (0) (by decide)]
  have hac : ∀ x ∈ [0], ad49 x = ad x := fun x hx => (had x (by simp at hx; subst hx; decide)).trans (hac x hx)
  refine lv_dup hx hb dX9_init_161 rfl ?_
  refine m_callv (m_runIN (200) (As := []) (rest := [.ref (ad49 (200)), .ref (ad49 (0))]) hx hb hml hown hts hE hM hS hA ce_X3_init (List.mem_of_getElem? (i := 4) rfl) (C_X3_init l D A ad49 ((((((((((((((((((((((((((((((((((((((((((((((([0] ++ [100]) ++ [100 + 1]) ++ [100 + 2]) ++ [100 + 3]) ++ [100 + 4]) ++ [100 + 5]) ++ [100 + 6]) ++ [100 + 7]) ++ [100 + 8]) ++ [110]) ++ [110 + 1]) ++ [110 + 2]) ++ [110 + 3]) ++ [110 + 4]) ++ [110 + 5]) ++ [110 + 6]) ++ [110 + 7]) ++ [110 + 8]) ++ [1]) ++ [10]) ++ [11]) ++ [12]) ++ [13]) ++ [14]) ++ [20]) ++ [21]) ++ [22]) ++ [30]) ++ [31]) ++ [32]) ++ [33]) ++ [34]) ++ [40]) ++ [41]) ++ [42]) ++ [43]) ++ [50]) ++ [60]) ++ [61]) ++ [62]) ++ [70]) ++ [71]) ++ [72]) ++ [2]) ++ [3]) ++ [4]) ++ [200]) zI zL (u2 (u2 (u2 (u2 (u2 (u2 (u2 (u2 (u2 (u2 (u2 (u2 (u2 (u2 (u2 (u2 (u2 (u2 (u2 (u2 (u2 (u2 (u2 (u2 (u2 (u2 (u2 (u2 (u2 (u2 (u2 (u2 (u2 (u2 (u2 (u2 (u2 (u2 (u2 (u2 (u2 (u2 (u2 (u2 (u2 (u2 (u2 (u2 (u2 (u2 (u2 zG (100) 10 (100 + 1)) (100) 11 (100 + 2)) (100) 12 (100 + 3)) (100) 13 (100 + 4)) (100) 14 (100 + 5)) (100) 15 (100 + 6)) (100) 16 (100 + 7)) (100) 17 (100 + 8)) (0) 0 (100)) (110) 10 (110 + 1)) (110) 11 (110 + 2)) (110) 12 (110 + 3)) (110) 13 (110 + 4)) (110) 14 (110 + 5)) (110) 15 (110 + 6)) (110) 16 (110 + 7)) (110) 17 (110 + 8)) (0) 1 (110)) (0) 2 (1)) (10) 0 (11)) (10) 1 (12)) (10) 9 (13)) (10) 10 (14)) (0) 3 (10)) (20) 1 (21)) (20) 2 (22)) (20) 0 (10)) (0) 4 (20)) (30) 1 (31)) (30) 2 (32)) (30) 3 (33)) (30) 4 (34)) (30) 0 (10)) (0) 5 (30)) (40) 0 (41)) (40) 3 (42)) (40) 4 (43)) (40) 1 (100)) (40) 2 (10)) (0) 6 (40)) (50) 3 (10)) (0) 7 (50)) (60) 3 (61)) (60) 4 (62)) (0) 8 (60)) (70) 0 (71)) (70) 1 (72)) (0) 9 (70)) (0) 10 (2)) (0) 11 (3)) (0) 12 (4)) (200) (by decide) (by decide) (by decide) (by decide) (by decide) (by decide) (by decide)) rfl rfl ⟨Nat.le_of_ble_eq_true rfl, Nat.le_of_ble_eq_true rfl⟩  rfl hl.1 rfl (Nat.le_of_ble_eq_true rfl) dX9_init_162 ⟨Nat.le_of_ble_eq_true rfl, Nat.le_of_ble_eq_true rfl⟩) hS (fun u H locs hw hM hS => ?_)
  obtain ⟨ad50, rfl, had⟩ := hw
  have hM : Mem D A ad50 (((((((((((((((((((((((((((((((((((((((((((((((((((([0] ++ [100]) ++ [100 + 1]) ++ [100 + 2]) ++ [100 + 3]) ++ [100 + 4]) ++ [100 + 5]) ++ [100 + 6]) ++ [100 + 7]) ++ [100 + 8]) ++ [110]) ++ [110 + 1]) ++ [110 + 2]) ++ [110 + 3]) ++ [110 + 4]) ++ [110 + 5]) ++ [110 + 6]) ++ [110 + 7]) ++ [110 + 8]) ++ [1]) ++ [10]) ++ [11]) ++ [12]) ++ [13]) ++ [14]) ++ [20]) ++ [21]) ++ [22]) ++ [30]) ++ [31]) ++ [32]) ++ [33]) ++ [34]) ++ [40]) ++ [41]) ++ [42]) ++ [43]) ++ [50]) ++ [60]) ++ [61]) ++ [62]) ++ [70]) ++ [71]) ++ [72]) ++ [2]) ++ [3]) ++ [4]) ++ [200]) ++ [200 + 1]) ++ [200 + 2]) ++ [200 + 3]) ++ [200 + 4]) ++ [200 + 5]) zI zL (u2 (u2 (u2 (u2 (u2 (u2 (u2 (u2 (u2 (u2 (u2 (u2 (u2 (u2 (u2 (u2 (u2 (u2 (u2 (u2 (u2 (u2 (u2 (u2 (u2 (u2 (u2 (u2 (u2 (u2 (u2 (u2 (u2 (u2 (u2 (u2 (u2 (u2 (u2 (u2 (u2 (u2 (u2 (u2 (u2 (u2 (u2 (u2 (u2 (u2 (u2 (u2 (u2 (u2 (u2 (u2 zG (100) 10 (100 + 1)) (100) 11 (100 + 2)) (100) 12 (100 + 3)) (100) 13 (100 + 4)) (100) 14 (100 + 5)) (100) 15 (100 + 6)) (100) 16 (100 + 7)) (100) 17 (100 + 8)) (0) 0 (100)) (110) 10 (110 + 1)) (110) 11 (110 + 2)) (110) 12 (110 + 3)) (110) 13 (110 + 4)) (110) 14 (110 + 5)) (110) 15 (110 + 6)) (110) 16 (110 + 7)) (110) 17 (110 + 8)) (0) 1 (110)) (0) 2 (1)) (10) 0 (11)) (10) 1 (12)) (10) 9 (13)) (10) 10 (14)) (0) 3 (10)) (20) 1 (21)) (20) 2 (22)) (20) 0 (10)) (0) 4 (20)) (30) 1 (31)) (30) 2 (32)) (30) 3 (33)) (30) 4 (34)) (30) 0 (10)) (0) 5 (30)) (40) 0 (41)) (40) 3 (42)) (40) 4 (43)) (40) 1 (100)) (40) 2 (10)) (0) 6 (40)) (50) 3 (10)) (0) 7 (50)) (60) 3 (61)) (60) 4 (62)) (0) 8 (60)) (70) 0 (71)) (70) 1 (72)) (0) 9 (70)) (0) 10 (2)) (0) 11 (3)) (0) 12 (4)) (200) 0 (200 + 1)) (200) 1 (200 + 2)) (200) 2 (200 + 3)) (200) 3 (200 + 4)) (200) 4 (200 + 5)) H := hM
  rw [← had (0) (by decide)] at hl
  rw [← had (200) (by decide)]
  rw [← had (0) (by decide)]
  have hac : ∀ x ∈ [0], ad50 x = ad x := fun x hx => (had x (by simp at hx; subst hx; decide)).trans (hac x hx)
  refine m_putr (0) 13 (200) hx hb hts hown hE oc9 hM hS (by decide) rfl (by decide) rfl (by decide) (by decide) rfl rfl rfl tb_411 dX9_init_165 (fun H locs G52 eG52 hM hS => ?_)
  subst eG52
  exact m_vret hx hb hr hlocks hM hS (Nat.le_of_ble_eq_true rfl) (Nat.le_of_ble_eq_true rfl) ⟨_, rfl, hac⟩ dX9_init_168
theorem dX10_init_0 : decode cX10_init 0 = .ok (.aload_n 0, 1) := by decide +kernel
theorem dX10_init_1 : decode cX10_init 1 = .ok (.invokespecial 1, 3) := by decide +kernel
theorem dX10_init_4 : decode cX10_init 4 = .ok (.aload_n 0, 1) := by decide +kernel
theorem dX10_init_5 : decode cX10_init 5 = .ok (.bipush 10, 2) := by decide +kernel
theorem dX10_init_7 : decode cX10_init 7 = .ok (.newarray .int, 2) := by decide +kernel
theorem dX10_init_9 : decode cX10_init 9 = .ok (.putfield 7, 3) := by decide +kernel
theorem dX10_init_12 : decode cX10_init 12 = .ok (.aload_n 0, 1) := by decide +kernel
theorem dX10_init_13 : decode cX10_init 13 = .ok (.sipush 576, 3) := by decide +kernel
theorem dX10_init_16 : decode cX10_init 16 = .ok (.newarray .int, 2) := by decide +kernel
theorem dX10_init_18 : decode cX10_init 18 = .ok (.putfield 13, 3) := by decide +kernel
theorem dX10_init_21 : decode cX10_init 21 = .ok (.aload_n 0, 1) := by decide +kernel
theorem dX10_init_22 : decode cX10_init 22 = .ok (.sipush 576, 3) := by decide +kernel
theorem dX10_init_25 : decode cX10_init 25 = .ok (.newarray .int, 2) := by decide +kernel
theorem dX10_init_27 : decode cX10_init 27 = .ok (.putfield 16, 3) := by decide +kernel
theorem dX10_init_30 : decode cX10_init 30 = .ok (.aload_n 0, 1) := by decide +kernel
theorem dX10_init_31 : decode cX10_init 31 = .ok (.sipush 288, 3) := by decide +kernel
theorem dX10_init_34 : decode cX10_init 34 = .ok (.newarray .int, 2) := by decide +kernel
theorem dX10_init_36 : decode cX10_init 36 = .ok (.putfield 19, 3) := by decide +kernel
theorem dX10_init_39 : decode cX10_init 39 = .ok (.aload_n 0, 1) := by decide +kernel
theorem dX10_init_40 : decode cX10_init 40 = .ok (.sipush 288, 3) := by decide +kernel
theorem dX10_init_43 : decode cX10_init 43 = .ok (.newarray .int, 2) := by decide +kernel
theorem dX10_init_45 : decode cX10_init 45 = .ok (.putfield 22, 3) := by decide +kernel
theorem dX10_init_48 : decode cX10_init 48 = .ok (.aload_n 0, 1) := by decide +kernel
theorem dX10_init_49 : decode cX10_init 49 = .ok (.sipush 576, 3) := by decide +kernel
theorem dX10_init_52 : decode cX10_init 52 = .ok (.newarray .int, 2) := by decide +kernel
theorem dX10_init_54 : decode cX10_init 54 = .ok (.putfield 25, 3) := by decide +kernel
theorem dX10_init_57 : decode cX10_init 57 = .ok (.aload_n 0, 1) := by decide +kernel
theorem dX10_init_58 : decode cX10_init 58 = .ok (.bipush 24, 2) := by decide +kernel
theorem dX10_init_60 : decode cX10_init 60 = .ok (.newarray .int, 2) := by decide +kernel
theorem dX10_init_62 : decode cX10_init 62 = .ok (.putfield 28, 3) := by decide +kernel
theorem dX10_init_65 : decode cX10_init 65 = .ok (.aload_n 0, 1) := by decide +kernel
theorem dX10_init_66 : decode cX10_init 66 = .ok (.bipush 24, 2) := by decide +kernel
theorem dX10_init_68 : decode cX10_init 68 = .ok (.newarray .int, 2) := by decide +kernel
theorem dX10_init_70 : decode cX10_init 70 = .ok (.putfield 31, 3) := by decide +kernel
theorem dX10_init_73 : decode cX10_init 73 = .ok (.aload_n 0, 1) := by decide +kernel
theorem dX10_init_74 : decode cX10_init 74 = .ok (.bipush 24, 2) := by decide +kernel
theorem dX10_init_76 : decode cX10_init 76 = .ok (.newarray .int, 2) := by decide +kernel
theorem dX10_init_78 : decode cX10_init 78 = .ok (.putfield 34, 3) := by decide +kernel
theorem dX10_init_81 : decode cX10_init 81 = .ok (.aload_n 0, 1) := by decide +kernel
theorem dX10_init_82 : decode cX10_init 82 = .ok (.bipush 24, 2) := by decide +kernel
theorem dX10_init_84 : decode cX10_init 84 = .ok (.newarray .int, 2) := by decide +kernel
theorem dX10_init_86 : decode cX10_init 86 = .ok (.putfield 37, 3) := by decide +kernel
theorem dX10_init_89 : decode cX10_init 89 = .ok (.aload_n 0, 1) := by decide +kernel
theorem dX10_init_90 : decode cX10_init 90 = .ok (.bipush 24, 2) := by decide +kernel
theorem dX10_init_92 : decode cX10_init 92 = .ok (.newarray .int, 2) := by decide +kernel
theorem dX10_init_94 : decode cX10_init 94 = .ok (.putfield 40, 3) := by decide +kernel
theorem dX10_init_97 : decode cX10_init 97 = .ok (.aload_n 0, 1) := by decide +kernel
theorem dX10_init_98 : decode cX10_init 98 = .ok (.bipush 24, 2) := by decide +kernel
theorem dX10_init_100 : decode cX10_init 100 = .ok (.newarray .int, 2) := by decide +kernel
theorem dX10_init_102 : decode cX10_init 102 = .ok (.putfield 43, 3) := by decide +kernel
theorem dX10_init_105 : decode cX10_init 105 = .ok (.aload_n 0, 1) := by decide +kernel
theorem dX10_init_106 : decode cX10_init 106 = .ok (.bipush 24, 2) := by decide +kernel
theorem dX10_init_108 : decode cX10_init 108 = .ok (.newarray .int, 2) := by decide +kernel
theorem dX10_init_110 : decode cX10_init 110 = .ok (.putfield 46, 3) := by decide +kernel
theorem dX10_init_113 : decode cX10_init 113 = .ok (.aload_n 0, 1) := by decide +kernel
theorem dX10_init_114 : decode cX10_init 114 = .ok (.bipush 24, 2) := by decide +kernel
theorem dX10_init_116 : decode cX10_init 116 = .ok (.newarray .int, 2) := by decide +kernel
theorem dX10_init_118 : decode cX10_init 118 = .ok (.putfield 49, 3) := by decide +kernel
theorem dX10_init_121 : decode cX10_init 121 = .ok (.aload_n 0, 1) := by decide +kernel
theorem dX10_init_122 : decode cX10_init 122 = .ok (.bipush 24, 2) := by decide +kernel
theorem dX10_init_124 : decode cX10_init 124 = .ok (.newarray .int, 2) := by decide +kernel
theorem dX10_init_126 : decode cX10_init 126 = .ok (.putfield 52, 3) := by decide +kernel
theorem dX10_init_129 : decode cX10_init 129 = .ok (.aload_n 0, 1) := by decide +kernel
theorem dX10_init_130 : decode cX10_init 130 = .ok (.bipush 24, 2) := by decide +kernel
theorem dX10_init_132 : decode cX10_init 132 = .ok (.newarray .int, 2) := by decide +kernel
theorem dX10_init_134 : decode cX10_init 134 = .ok (.putfield 55, 3) := by decide +kernel
theorem dX10_init_137 : decode cX10_init 137 = .ok (.aload_n 0, 1) := by decide +kernel
theorem dX10_init_138 : decode cX10_init 138 = .ok (.bipush 8, 2) := by decide +kernel
theorem dX10_init_140 : decode cX10_init 140 = .ok (.newarray .int, 2) := by decide +kernel
theorem dX10_init_142 : decode cX10_init 142 = .ok (.putfield 58, 3) := by decide +kernel
theorem dX10_init_145 : decode cX10_init 145 = .ok (.aload_n 0, 1) := by decide +kernel
theorem dX10_init_146 : decode cX10_init 146 = .ok (.bipush 8, 2) := by decide +kernel
theorem dX10_init_148 : decode cX10_init 148 = .ok (.newarray .int, 2) := by decide +kernel
theorem dX10_init_150 : decode cX10_init 150 = .ok (.putfield 61, 3) := by decide +kernel
theorem dX10_init_153 : decode cX10_init 153 = .ok (.aload_n 0, 1) := by decide +kernel
theorem dX10_init_154 : decode cX10_init 154 = .ok (.bipush 8, 2) := by decide +kernel
theorem dX10_init_156 : decode cX10_init 156 = .ok (.newarray .int, 2) := by decide +kernel
theorem dX10_init_158 : decode cX10_init 158 = .ok (.putfield 64, 3) := by decide +kernel
theorem dX10_init_161 : decode cX10_init 161 = .ok (.aload_n 0, 1) := by decide +kernel
theorem dX10_init_162 : decode cX10_init 162 = .ok (.bipush 8, 2) := by decide +kernel
theorem dX10_init_164 : decode cX10_init 164 = .ok (.newarray .int, 2) := by decide +kernel
theorem dX10_init_166 : decode cX10_init 166 = .ok (.putfield 67, 3) := by decide +kernel
theorem dX10_init_169 : decode cX10_init 169 = .ok (.aload_n 0, 1) := by decide +kernel
theorem dX10_init_170 : decode cX10_init 170 = .ok (.bipush 8, 2) := by decide +kernel
theorem dX10_init_172 : decode cX10_init 172 = .ok (.newarray .int, 2) := by decide +kernel
theorem dX10_init_174 : decode cX10_init 174 = .ok (.putfield 70, 3) := by decide +kernel
theorem dX10_init_177 : decode cX10_init 177 = .ok (.aload_n 0, 1) := by decide +kernel
theorem dX10_init_178 : decode cX10_init 178 = .ok (.bipush 8, 2) := by decide +kernel
theorem dX10_init_180 : decode cX10_init 180 = .ok (.newarray .int, 2) := by decide +kernel
theorem dX10_init_182 : decode cX10_init 182 = .ok (.putfield 73, 3) := by decide +kernel
theorem dX10_init_185 : decode cX10_init 185 = .ok (.aload_n 0, 1) := by decide +kernel
theorem dX10_init_186 : decode cX10_init 186 = .ok (.bipush 8, 2) := by decide +kernel
theorem dX10_init_188 : decode cX10_init 188 = .ok (.newarray .int, 2) := by decide +kernel
theorem dX10_init_190 : decode cX10_init 190 = .ok (.putfield 76, 3) := by decide +kernel
theorem dX10_init_193 : decode cX10_init 193 = .ok (.aload_n 0, 1) := by decide +kernel
theorem dX10_init_194 : decode cX10_init 194 = .ok (.bipush 13, 2) := by decide +kernel
theorem dX10_init_196 : decode cX10_init 196 = .ok (.putfield 79, 3) := by decide +kernel
theorem dX10_init_199 : decode cX10_init 199 = .ok (.aload_n 0, 1) := by decide +kernel
theorem dX10_init_200 : decode cX10_init 200 = .ok (.sipush 400, 3) := by decide +kernel
theorem dX10_init_203 : decode cX10_init 203 = .ok (.newarray .byte, 2) := by decide +kernel
theorem dX10_init_205 : decode cX10_init 205 = .ok (.putfield 83, 3) := by decide +kernel
theorem dX10_init_208 : decode cX10_init 208 = .ok (.aload_n 0, 1) := by decide +kernel
theorem dX10_init_209 : decode cX10_init 209 = .ok (.sipush 1800, 3) := by decide +kernel
theorem dX10_init_212 : decode cX10_init 212 = .ok (.newarray .int, 2) := by decide +kernel
theorem dX10_init_214 : decode cX10_init 214 = .ok (.putfield 87, 3) := by decide +kernel
theorem dX10_init_217 : decode cX10_init 217 = .ok (.aload_n 0, 1) := by decide +kernel
theorem dX10_init_218 : decode cX10_init 218 = .ok (.sipush 1800, 3) := by decide +kernel
theorem dX10_init_221 : decode cX10_init 221 = .ok (.newarray .int, 2) := by decide +kernel
theorem dX10_init_223 : decode cX10_init 223 = .ok (.putfield 90, 3) := by decide +kernel
theorem dX10_init_226 : decode cX10_init 226 = .ok (.aload_n 0, 1) := by decide +kernel
theorem dX10_init_227 : decode cX10_init 227 = .ok (.bipush 6, 2) := by decide +kernel
theorem dX10_init_229 : decode cX10_init 229 = .ok (.newarray .int, 2) := by decide +kernel
theorem dX10_init_231 : decode cX10_init 231 = .ok (.putfield 93, 3) := by decide +kernel
theorem dX10_init_234 : decode cX10_init 234 = .ok (.aload_n 0, 1) := by decide +kernel
theorem dX10_init_235 : decode cX10_init 235 = .ok (.bipush 72, 2) := by decide +kernel
theorem dX10_init_237 : decode cX10_init 237 = .ok (.newarray .int, 2) := by decide +kernel
theorem dX10_init_239 : decode cX10_init 239 = .ok (.putfield 96, 3) := by decide +kernel
theorem dX10_init_242 : decode cX10_init 242 = .ok (.aload_n 0, 1) := by decide +kernel
theorem dX10_init_243 : decode cX10_init 243 = .ok (.bipush 72, 2) := by decide +kernel
theorem dX10_init_245 : decode cX10_init 245 = .ok (.newarray .int, 2) := by decide +kernel
theorem dX10_init_247 : decode cX10_init 247 = .ok (.putfield 99, 3) := by decide +kernel
theorem dX10_init_250 : decode cX10_init 250 = .ok (.aload_n 0, 1) := by decide +kernel
theorem dX10_init_251 : decode cX10_init 251 = .ok (.bipush 72, 2) := by decide +kernel
theorem dX10_init_253 : decode cX10_init 253 = .ok (.newarray .int, 2) := by decide +kernel
theorem dX10_init_255 : decode cX10_init 255 = .ok (.putfield 102, 3) := by decide +kernel
theorem dX10_init_258 : decode cX10_init 258 = .ok (.aload_n 0, 1) := by decide +kernel
theorem dX10_init_259 : decode cX10_init 259 = .ok (.bipush 72, 2) := by decide +kernel
theorem dX10_init_261 : decode cX10_init 261 = .ok (.newarray .int, 2) := by decide +kernel
theorem dX10_init_263 : decode cX10_init 263 = .ok (.putfield 105, 3) := by decide +kernel
theorem dX10_init_266 : decode cX10_init 266 = .ok (.aload_n 0, 1) := by decide +kernel
theorem dX10_init_267 : decode cX10_init 267 = .ok (.sipush 402, 3) := by decide +kernel
theorem dX10_init_270 : decode cX10_init 270 = .ok (.newarray .int, 2) := by decide +kernel
theorem dX10_init_272 : decode cX10_init 272 = .ok (.putfield 108, 3) := by decide +kernel
theorem dX10_init_275 : decode cX10_init 275 = .ok (.aload_n 0, 1) := by decide +kernel
theorem dX10_init_276 : decode cX10_init 276 = .ok (.bipush 13, 2) := by decide +kernel
theorem dX10_init_278 : decode cX10_init 278 = .ok (.newarray .long, 2) := by decide +kernel
theorem dX10_init_280 : decode cX10_init 280 = .ok (.putfield 111, 3) := by decide +kernel
theorem dX10_init_283 : decode cX10_init 283 = .ok (.aload_n 0, 1) := by decide +kernel
theorem dX10_init_284 : decode cX10_init 284 = .ok (.sipush 300, 3) := by decide +kernel
theorem dX10_init_287 : decode cX10_init 287 = .ok (.newarray .long, 2) := by decide +kernel
theorem dX10_init_289 : decode cX10_init 289 = .ok (.putfield 115, 3) := by decide +kernel
theorem dX10_init_292 : decode cX10_init 292 = .ok (.aload_n 0, 1) := by decide +kernel
theorem dX10_init_293 : decode cX10_init 293 = .ok (.bipush 60, 2) := by decide +kernel
theorem dX10_init_295 : decode cX10_init 295 = .ok (.newarray .int, 2) := by decide +kernel
theorem dX10_init_297 : decode cX10_init 297 = .ok (.putfield 118, 3) := by decide +kernel
theorem dX10_init_300 : decode cX10_init 300 = .ok (.aload_n 0, 1) := by decide +kernel
theorem dX10_init_301 : decode cX10_init 301 = .ok (.bipush 60, 2) := by decide +kernel
theorem dX10_init_303 : decode cX10_init 303 = .ok (.newarray .int, 2) := by decide +kernel
theorem dX10_init_305 : decode cX10_init 305 = .ok (.putfield 121, 3) := by decide +kernel
theorem dX10_init_308 : decode cX10_init 308 = .ok (.aload_n 0, 1) := by decide +kernel
theorem dX10_init_309 : decode cX10_init 309 = .ok (.bipush 60, 2) := by decide +kernel
theorem dX10_init_311 : decode cX10_init 311 = .ok (.newarray .int, 2) := by decide +kernel
theorem dX10_init_313 : decode cX10_init 313 = .ok (.putfield 124, 3) := by decide +kernel
theorem dX10_init_316 : decode cX10_init 316 = .ok (.aload_n 0, 1) := by decide +kernel
theorem dX10_init_317 : decode cX10_init 317 = .ok (.bipush 60, 2) := by decide +kernel
theorem dX10_init_319 : decode cX10_init 319 = .ok (.newarray .int, 2) := by decide +kernel
theorem dX10_init_321 : decode cX10_init 321 = .ok (.putfield 127, 3) := by decide +kernel
theorem dX10_init_324 : decode cX10_init 324 = .ok (.aload_n 0, 1) := by decide +kernel
theorem dX10_init_325 : decode cX10_init 325 = .ok (.sipush 576, 3) := by decide +kernel
theorem dX10_init_328 : decode cX10_init 328 = .ok (.newarray .int, 2) := by decide +kernel
theorem dX10_init_330 : decode cX10_init 330 = .ok (.putfield 130, 3) := by decide +kernel
theorem dX10_init_333 : decode cX10_init 333 = .ok (.aload_n 0, 1) := by decide +kernel
theorem dX10_init_334 : decode cX10_init 334 = .ok (.bipush 8, 2) := by decide +kernel
theorem dX10_init_336 : decode cX10_init 336 = .ok (.newarray .int, 2) := by decide +kernel
theorem dX10_init_338 : decode cX10_init 338 = .ok (.putfield 133, 3) := by decide +kernel
theorem dX10_init_341 : decode cX10_init 341 = .ok (.aload_n 0, 1) := by decide +kernel
theorem dX10_init_342 : decode cX10_init 342 = .ok (.iconst (-1), 1) := by decide +kernel
theorem dX10_init_343 : decode cX10_init 343 = .ok (.putfield 136, 3) := by decide +kernel
theorem dX10_init_346 : decode cX10_init 346 = .ok (.aload_n 0, 1) := by decide +kernel
theorem dX10_init_347 : decode cX10_init 347 = .ok (.bipush 24, 2) := by decide +kernel
theorem dX10_init_349 : decode cX10_init 349 = .ok (.newarray .boolean, 2) := by decide +kernel
theorem dX10_init_351 : decode cX10_init 351 = .ok (.putfield 139, 3) := by decide +kernel
theorem dX10_init_354 : decode cX10_init 354 = .ok (.aload_n 0, 1) := by decide +kernel
theorem dX10_init_355 : decode cX10_init 355 = .ok (.bipush 24, 2) := by decide +kernel
theorem dX10_init_357 : decode cX10_init 357 = .ok (.newarray .int, 2) := by decide +kernel
theorem dX10_init_359 : decode cX10_init 359 = .ok (.putfield 143, 3) := by decide +kernel
theorem dX10_init_362 : decode cX10_init 362 = .ok (.aload_n 0, 1) := by decide +kernel
theorem dX10_init_363 : decode cX10_init 363 = .ok (.bipush 24, 2) := by decide +kernel
theorem dX10_init_365 : decode cX10_init 365 = .ok (.newarray .int, 2) := by decide +kernel
theorem dX10_init_367 : decode cX10_init 367 = .ok (.putfield 146, 3) := by decide +kernel
theorem dX10_init_370 : decode cX10_init 370 = .ok (.aload_n 0, 1) := by decide +kernel
theorem dX10_init_371 : decode cX10_init 371 = .ok (.bipush 24, 2) := by decide +kernel
theorem dX10_init_373 : decode cX10_init 373 = .ok (.newarray .int, 2) := by decide +kernel
theorem dX10_init_375 : decode cX10_init 375 = .ok (.putfield 149, 3) := by decide +kernel
theorem dX10_init_378 : decode cX10_init 378 = .ok (.aload_n 0, 1) := by decide +kernel
theorem dX10_init_379 : decode cX10_init 379 = .ok (.bipush 8, 2) := by decide +kernel
theorem dX10_init_381 : decode cX10_init 381 = .ok (.newarray .int, 2) := by decide +kernel
theorem dX10_init_383 : decode cX10_init 383 = .ok (.putfield 152, 3) := by decide +kernel
theorem dX10_init_386 : decode cX10_init 386 = .ok (.aload_n 0, 1) := by decide +kernel
theorem dX10_init_387 : decode cX10_init 387 = .ok (.bipush 8, 2) := by decide +kernel
theorem dX10_init_389 : decode cX10_init 389 = .ok (.newarray .int, 2) := by decide +kernel
theorem dX10_init_391 : decode cX10_init 391 = .ok (.putfield 155, 3) := by decide +kernel
theorem dX10_init_394 : decode cX10_init 394 = .ok (.aload_n 0, 1) := by decide +kernel
theorem dX10_init_395 : decode cX10_init 395 = .ok (.bipush 24, 2) := by decide +kernel
theorem dX10_init_397 : decode cX10_init 397 = .ok (.newarray .int, 2) := by decide +kernel
theorem dX10_init_399 : decode cX10_init 399 = .ok (.putfield 158, 3) := by decide +kernel
theorem dX10_init_402 : decode cX10_init 402 = .ok (.aload_n 0, 1) := by decide +kernel
theorem dX10_init_403 : decode cX10_init 403 = .ok (.bipush 24, 2) := by decide +kernel
theorem dX10_init_405 : decode cX10_init 405 = .ok (.newarray .int, 2) := by decide +kernel
theorem dX10_init_407 : decode cX10_init 407 = .ok (.putfield 161, 3) := by decide +kernel
theorem dX10_init_410 : decode cX10_init 410 = .ok (.aload_n 0, 1) := by decide +kernel
theorem dX10_init_411 : decode cX10_init 411 = .ok (.bipush 24, 2) := by decide +kernel
theorem dX10_init_413 : decode cX10_init 413 = .ok (.newarray .int, 2) := by decide +kernel
theorem dX10_init_415 : decode cX10_init 415 = .ok (.putfield 164, 3) := by decide +kernel
theorem dX10_init_418 : decode cX10_init 418 = .ok (.aload_n 0, 1) := by decide +kernel
theorem dX10_init_419 : decode cX10_init 419 = .ok (.bipush 8, 2) := by decide +kernel
theorem dX10_init_421 : decode cX10_init 421 = .ok (.newarray .int, 2) := by decide +kernel
theorem dX10_init_423 : decode cX10_init 423 = .ok (.putfield 167, 3) := by decide +kernel
theorem dX10_init_426 : decode cX10_init 426 = .ok (.aload_n 0, 1) := by decide +kernel
theorem dX10_init_427 : decode cX10_init 427 = .ok (.iconst 4, 1) := by decide +kernel
theorem dX10_init_428 : decode cX10_init 428 = .ok (.newarray .int, 2) := by decide +kernel
theorem dX10_init_430 : decode cX10_init 430 = .ok (.putfield 170, 3) := by decide +kernel
theorem dX10_init_433 : decode cX10_init 433 = .ok (.aload_n 0, 1) := by decide +kernel
theorem dX10_init_434 : decode cX10_init 434 = .ok (.iconst 4, 1) := by decide +kernel
theorem dX10_init_435 : decode cX10_init 435 = .ok (.newarray .int, 2) := by decide +kernel
theorem dX10_init_437 : decode cX10_init 437 = .ok (.putfield 173, 3) := by decide +kernel
theorem dX10_init_440 : decode cX10_init 440 = .ok (.aload_n 0, 1) := by decide +kernel
theorem dX10_init_441 : decode cX10_init 441 = .ok (.iconst 5, 1) := by decide +kernel
theorem dX10_init_442 : decode cX10_init 442 = .ok (.newarray .int, 2) := by decide +kernel
theorem dX10_init_444 : decode cX10_init 444 = .ok (.putfield 176, 3) := by decide +kernel
theorem dX10_init_447 : decode cX10_init 447 = .ok (.aload_n 0, 1) := by decide +kernel
theorem dX10_init_448 : decode cX10_init 448 = .ok (.sipush 10880, 3) := by decide +kernel
theorem dX10_init_451 : decode cX10_init 451 = .ok (.newarray .int, 2) := by decide +kernel
theorem dX10_init_453 : decode cX10_init 453 = .ok (.putfield 179, 3) := by decide +kernel
theorem dX10_init_456 : decode cX10_init 456 = .ok (.aload_n 0, 1) := by decide +kernel
theorem dX10_init_457 : decode cX10_init 457 = .ok (.iconst 4, 1) := by decide +kernel
theorem dX10_init_458 : decode cX10_init 458 = .ok (.newarray .boolean, 2) := by decide +kernel
theorem dX10_init_460 : decode cX10_init 460 = .ok (.putfield 182, 3) := by decide +kernel
theorem dX10_init_463 : decode cX10_init 463 = .ok (.return_, 1) := by decide +kernel
theorem ce_X10_init : CeI yX10_init cX10_init 1 0 := ⟨tb_1175, tb_11, tb_1176, by decide, by decide, by decide, by decide +kernel⟩
def nsA0 : List Nat := ((((((((((((((((((((((((((((((((((((((((((((((((((((((((nsC0 ++ [1000]) ++ [1001]) ++ [1002]) ++ [1003]) ++ [1004]) ++ [1005]) ++ [1006]) ++ [1007]) ++ [1008]) ++ [1009]) ++ [1010]) ++ [1011]) ++ [1012]) ++ [1013]) ++ [1014]) ++ [1015]) ++ [1016]) ++ [1017]) ++ [1018]) ++ [1019]) ++ [1020]) ++ [1021]) ++ [1022]) ++ [1023]) ++ [1034]) ++ [1035]) ++ [1036]) ++ [1037]) ++ [1038]) ++ [1039]) ++ [1040]) ++ [1041]) ++ [1042]) ++ [1043]) ++ [1044]) ++ [1045]) ++ [1046]) ++ [1047]) ++ [1048]) ++ [1049]) ++ [1050]) ++ [1058]) ++ [1060]) ++ [1061]) ++ [1062]) ++ [1064]) ++ [1066]) ++ [1067]) ++ [1068]) ++ [1069]) ++ [1070]) ++ [1071]) ++ [1072]) ++ [1073]) ++ [1076]) ++ [1077])
def gA0 : MG := (u2 (u2 (u2 (u2 (u2 (u2 (u2 (u2 (u2 (u2 (u2 (u2 (u2 (u2 (u2 (u2 (u2 (u2 (u2 (u2 (u2 (u2 (u2 (u2 (u2 (u2 (u2 (u2 (u2 (u2 (u2 (u2 (u2 (u2 (u2 (u2 (u2 (u2 (u2 (u2 (u2 (u2 (u2 (u2 (u2 (u2 (u2 (u2 (u2 (u2 (u2 (u2 (u2 (u2 (u2 gC0 (1000) 1 (1001)) (1000) 2 (1002)) (1000) 3 (1003)) (1000) 4 (1004)) (1000) 5 (1005)) (1000) 6 (1006)) (1000) 7 (1007)) (1000) 8 (1008)) (1000) 9 (1009)) (1000) 10 (1010)) (1000) 11 (1011)) (1000) 12 (1012)) (1000) 13 (1013)) (1000) 14 (1014)) (1000) 15 (1015)) (1000) 16 (1016)) (1000) 17 (1017)) (1000) 18 (1018)) (1000) 19 (1019)) (1000) 20 (1020)) (1000) 21 (1021)) (1000) 22 (1022)) (1000) 23 (1023)) (1000) 34 (1034)) (1000) 35 (1035)) (1000) 36 (1036)) (1000) 37 (1037)) (1000) 38 (1038)) (1000) 39 (1039)) (1000) 40 (1040)) (1000) 41 (1041)) (1000) 42 (1042)) (1000) 43 (1043)) (1000) 44 (1044)) (1000) 45 (1045)) (1000) 46 (1046)) (1000) 47 (1047)) (1000) 48 (1048)) (1000) 49 (1049)) (1000) 50 (1050)) (1000) 58 (1058)) (1000) 60 (1060)) (1000) 61 (1061)) (1000) 62 (1062)) (1000) 64 (1064)) (1000) 66 (1066)) (1000) 67 (1067)) (1000) 68 (1068)) (1000) 69 (1069)) (1000) 70 (1070)) (1000) 71 (1071)) (1000) 72 (1072)) (1000) 73 (1073)) (1000) 76 (1076)) (1000) 77 (1077))
def iA0 : MI := (u2 (u2 zI (1000) 33 (13)) (1000) 57 ((-1 : Int32)))
set_option maxHeartbeats 4000000 in
set_option maxRecDepth 20000 in
theorem C_X10_init (l : Launch) (D : va_G) (A : Nat → Prop) (ad : Nat → Nat)  : Met l yX10_init (wd yX10_init cX10_init 1 none) ({ frames := 1, cells := 55, slots := 19532, locals := 12 }) (va_Pc [.ref (ad 1000)] (PM D A ad (nsC0 ++ [1000]) zI zL gC0)) (va_Qv (fun u => ∃ ad2, u = (ad2, nsA0, iA0, zL, gA0) ∧ ∀ x ∈ (nsC0 ++ [1000]), ad2 x = ad x) (BM D A) A) 55 19532 A := by
  refine m_ofW (by decide) (Nat.le_of_ble_eq_true rfl) ?_
  intro p e s m below meth c ls args hC hE hM hA hS hl
  obtain ⟨hx, hb, hml, hown, hts, hr, hlocks, hin⟩ := hC
  have km1 : (-1 : Int32).toInt = -1 := by decide
  have k0 : (0 : Int32).toInt = 0 := by decide
  have k4 : (4 : Int32).toInt = 4 := by decide
  have k5 : (5 : Int32).toInt = 5 := by decide
  have k6 : (6 : Int32).toInt = 6 := by decide
  have k8 : (8 : Int32).toInt = 8 := by decide
  have k10 : (10 : Int32).toInt = 10 := by decide
  have k13 : (13 : Int32).toInt = 13 := by decide
  have k24 : (24 : Int32).toInt = 24 := by decide
  have k60 : (60 : Int32).toInt = 60 := by decide
  have k72 : (72 : Int32).toInt = 72 := by decide
  have k288 : (288 : Int32).toInt = 288 := by decide
  have k300 : (300 : Int32).toInt = 300 := by decide
  have k400 : (400 : Int32).toInt = 400 := by decide
  have k402 : (402 : Int32).toInt = 402 := by decide
  have k576 : (576 : Int32).toInt = 576 := by decide
  have k1800 : (1800 : Int32).toInt = 1800 := by decide
  have k10880 : (10880 : Int32).toInt = 10880 := by decide
  have hac : ∀ x ∈ (nsC0 ++ [1000]), ad x = ad x := fun _ _ => rfl
  have hl : lv_has ls 1 [(0, .ref (ad (1000)))] := hl
  refine lv_aload_n hx hb dX10_init_0 rfl (lv_at hl 0 rfl) ?_
  refine m_objI hx hb hml hown hts hl.1 tb_1177 tb_26 tb_27 dX10_init_1 (Nat.le_of_ble_eq_true rfl) (Nat.le_of_ble_eq_true rfl) ?_
  refine lv_aload_n hx hb dX10_init_4 rfl (lv_at hl 0 rfl) ?_
  refine lv_bipush (v := (10)) hx hb dX10_init_5 (by decide) ?_
  refine m_newi (1001) (t0 := 0) hx hb hts hE hM hS hA (by decide) (by decide) rfl (by decide) rfl (fun _ _ h => h) tb_121 rfl rfl (by decide) rfl (by decide) (Nat.le_of_ble_eq_true rfl) (Nat.le_of_ble_eq_true rfl) dX10_init_7 (fun H ad1 had hM hS => ?_)
  rw [← had (1000) (by decide)] at hl
  rw [← had (1000) (by decide)]
  have hac : ∀ x ∈ (nsC0 ++ [1000]), ad1 x = ad x := fun x hx => (had x hx).trans (hac x hx)
  refine m_putF (1000) 1 (1001) hx hb hts hown hin hE oc10 hM hS (by decide) rfl (by decide) rfl (by decide) (by decide) rfl rfl rfl rfl tb_1178 dX10_init_9 (fun H locs G3 eG3 hM hS => ?_)
  subst eG3
  refine lv_aload_n hx hb dX10_init_12 rfl (lv_at hl 0 rfl) ?_
  refine lv_sipush (v := (576)) hx hb dX10_init_13 (by decide) ?_
  refine m_newi (1002) (t0 := 0) hx hb hts hE hM hS hA (by decide) (by decide) rfl (by decide) rfl (fun _ _ h => h) tb_121 rfl rfl (by decide) rfl (by decide) (Nat.le_of_ble_eq_true rfl) (Nat.le_of_ble_eq_true rfl) dX10_init_16 (fun H ad4 had hM hS => ?_)
  rw [← had (1000) (by decide)] at hl
  rw [← had (1000) (by decide)]
  have hac : ∀ x ∈ (nsC0 ++ [1000]), ad4 x = ad x := fun x hx => (had x (List.mem_append_left _ hx)).trans (hac x hx)
  refine m_putF (1000) 2 (1002) hx hb hts hown hin hE oc10 hM hS (by decide) rfl (by decide) rfl (by decide) (by decide) rfl rfl rfl rfl tb_1179 dX10_init_18 (fun H locs G6 eG6 hM hS => ?_)
  subst eG6
  refine lv_aload_n hx hb dX10_init_21 rfl (lv_at hl 0 rfl) ?_
  refine lv_sipush (v := (576)) hx hb dX10_init_22 (by decide) ?_
  refine m_newi (1003) (t0 := 0) hx hb hts hE hM hS hA (by decide) (by decide) rfl (by decide) rfl (fun _ _ h => h) tb_121 rfl rfl (by decide) rfl (by decide) (Nat.le_of_ble_eq_true rfl) (Nat.le_of_ble_eq_true rfl) dX10_init_25 (fun H ad7 had hM hS => ?_)
  rw [← had (1000) (by decide)] at hl
  rw [← had (1000) (by decide)]
  have hac : ∀ x ∈ (nsC0 ++ [1000]), ad7 x = ad x := fun x hx => (had x (List.mem_append_left _ (List.mem_append_left _ hx))).trans (hac x hx)
  refine m_putF (1000) 3 (1003) hx hb hts hown hin hE oc10 hM hS (by decide) rfl (by decide) rfl (by decide) (by decide) rfl rfl rfl rfl tb_1180 dX10_init_27 (fun H locs G9 eG9 hM hS => ?_)
  subst eG9
  refine lv_aload_n hx hb dX10_init_30 rfl (lv_at hl 0 rfl) ?_
  refine lv_sipush (v := (288)) hx hb dX10_init_31 (by decide) ?_
  refine m_newi (1004) (t0 := 0) hx hb hts hE hM hS hA (by decide) (by decide) rfl (by decide) rfl (fun _ _ h => h) tb_121 rfl rfl (by decide) rfl (by decide) (Nat.le_of_ble_eq_true rfl) (Nat.le_of_ble_eq_true rfl) dX10_init_34 (fun H ad10 had hM hS => ?_)
  rw [← had (1000) (by decide)] at hl
  rw [← had (1000) (by decide)]
  have hac : ∀ x ∈ (nsC0 ++ [1000]), ad10 x = ad x := fun x hx => (had x (List.mem_append_left _ (List.mem_append_left _ (List.mem_append_left _ hx)))).trans (hac x hx)
  refine m_putF (1000) 4 (1004) hx hb hts hown hin hE oc10 hM hS (by decide) rfl (by decide) rfl (by decide) (by decide) rfl rfl rfl rfl tb_1181 dX10_init_36 (fun H locs G12 eG12 hM hS => ?_)
  subst eG12
  refine lv_aload_n hx hb dX10_init_39 rfl (lv_at hl 0 rfl) ?_
  refine lv_sipush (v := (288)) hx hb dX10_init_40 (by decide) ?_
  refine m_newi (1005) (t0 := 0) hx hb hts hE hM hS hA (by decide) (by decide) rfl (by decide) rfl (fun _ _ h => h) tb_121 rfl rfl (by decide) rfl (by decide) (Nat.le_of_ble_eq_true rfl) (Nat.le_of_ble_eq_true rfl) dX10_init_43 (fun H ad13 had hM hS => ?_)
  rw [← had (1000) (by decide)] at hl
  rw [← had (1000) (by decide)]
  have hac : ∀ x ∈ (nsC0 ++ [1000]), ad13 x = ad x := fun x hx => (had x (List.mem_append_left _ (List.mem_append_left _ (List.mem_append_left _ (List.mem_append_left _ hx))))).trans (hac x hx)
  refine m_putF (1000) 5 (1005) hx hb hts hown hin hE oc10 hM hS (by decide) rfl (by decide) rfl (by decide) (by decide) rfl rfl rfl rfl tb_1182 dX10_init_45 (fun H locs G15 eG15 hM hS => ?_)
  subst eG15
  refine lv_aload_n hx hb dX10_init_48 rfl (lv_at hl 0 rfl) ?_
  refine lv_sipush (v := (576)) hx hb dX10_init_49 (by decide) ?_
  refine m_newi (1006) (t0 := 0) hx hb hts hE hM hS hA (by decide) (by decide) rfl (by decide) rfl (fun _ _ h => h) tb_121 rfl rfl (by decide) rfl (by decide) (Nat.le_of_ble_eq_true rfl) (Nat.le_of_ble_eq_true rfl) dX10_init_52 (fun H ad16 had hM hS => ?_)
  rw [← had (1000) (by decide)] at hl
  rw [← had (1000) (by decide)]
  have hac : ∀ x ∈ (nsC0 ++ [1000]), ad16 x = ad x := fun x hx => (had x (List.mem_append_left _ (List.mem_append_left _ (List.mem_append_left _ (List.mem_append_left _ (List.mem_append_left _ hx)))))).trans (hac x hx)
  refine m_putF (1000) 6 (1006) hx hb hts hown hin hE oc10 hM hS (by decide) rfl (by decide) rfl (by decide) (by decide) rfl rfl rfl rfl tb_1183 dX10_init_54 (fun H locs G18 eG18 hM hS => ?_)
  subst eG18
  refine lv_aload_n hx hb dX10_init_57 rfl (lv_at hl 0 rfl) ?_
  refine lv_bipush (v := (24)) hx hb dX10_init_58 (by decide) ?_
  refine m_newi (1007) (t0 := 0) hx hb hts hE hM hS hA (by decide) (by decide) rfl (by decide) rfl (fun _ _ h => h) tb_121 rfl rfl (by decide) rfl (by decide) (Nat.le_of_ble_eq_true rfl) (Nat.le_of_ble_eq_true rfl) dX10_init_60 (fun H ad19 had hM hS => ?_)
  rw [← had (1000) (by decide)] at hl
  rw [← had (1000) (by decide)]
  have hac : ∀ x ∈ (nsC0 ++ [1000]), ad19 x = ad x := fun x hx => (had x (List.mem_append_left _ (List.mem_append_left _ (List.mem_append_left _ (List.mem_append_left _ (List.mem_append_left _ (List.mem_append_left _ hx))))))).trans (hac x hx)
  refine m_putF (1000) 7 (1007) hx hb hts hown hin hE oc10 hM hS (by decide) rfl (by decide) rfl (by decide) (by decide) rfl rfl rfl rfl tb_1184 dX10_init_62 (fun H locs G21 eG21 hM hS => ?_)
  subst eG21
  refine lv_aload_n hx hb dX10_init_65 rfl (lv_at hl 0 rfl) ?_
  refine lv_bipush (v := (24)) hx hb dX10_init_66 (by decide) ?_
  refine m_newi (1008) (t0 := 0) hx hb hts hE hM hS hA (by decide) (by decide) rfl (by decide) rfl (fun _ _ h => h) tb_121 rfl rfl (by decide) rfl (by decide) (Nat.le_of_ble_eq_true rfl) (Nat.le_of_ble_eq_true rfl) dX10_init_68 (fun H ad22 had hM hS => ?_)
  rw [← had (1000) (by decide)] at hl
  rw [← had (1000) (by decide)]
  have hac : ∀ x ∈ (nsC0 ++ [1000]), ad22 x = ad x := fun x hx => (had x (List.mem_append_left _ (List.mem_append_left _ (List.mem_append_left _ (List.mem_append_left _ (List.mem_append_left _ (List.mem_append_left _ (List.mem_append_left _ hx)))))))).trans (hac x hx)
  refine m_putF (1000) 8 (1008) hx hb hts hown hin hE oc10 hM hS (by decide) rfl (by decide) rfl (by decide) (by decide) rfl rfl rfl rfl tb_1185 dX10_init_70 (fun H locs G24 eG24 hM hS => ?_)
  subst eG24
  refine lv_aload_n hx hb dX10_init_73 rfl (lv_at hl 0 rfl) ?_
  refine lv_bipush (v := (24)) hx hb dX10_init_74 (by decide) ?_
  refine m_newi (1009) (t0 := 0) hx hb hts hE hM hS hA (by decide) (by decide) rfl (by decide) rfl (fun _ _ h => h) tb_121 rfl rfl (by decide) rfl (by decide) (Nat.le_of_ble_eq_true rfl) (Nat.le_of_ble_eq_true rfl) dX10_init_76 (fun H ad25 had hM hS => ?_)
  rw [← had (1000) (by decide)] at hl
  rw [← had (1000) (by decide)]
  have hac : ∀ x ∈ (nsC0 ++ [1000]), ad25 x = ad x := fun x hx => (had x (List.mem_append_left _ (List.mem_append_left _ (List.mem_append_left _ (List.mem_append_left _ (List.mem_append_left _ (List.mem_append_left _ (List.mem_append_left _ (List.mem_append_left _ hx))))))))).trans (hac x hx)
  refine m_putF (1000) 9 (1009) hx hb hts hown hin hE oc10 hM hS (by decide) rfl (by decide) rfl (by decide) (by decide) rfl rfl rfl rfl tb_1186 dX10_init_78 (fun H locs G27 eG27 hM hS => ?_)
  subst eG27
  refine lv_aload_n hx hb dX10_init_81 rfl (lv_at hl 0 rfl) ?_
  refine lv_bipush (v := (24)) hx hb dX10_init_82 (by decide) ?_
  refine m_newi (1010) (t0 := 0) hx hb hts hE hM hS hA (by decide) (by decide) rfl (by decide) rfl (fun _ _ h => h) tb_121 rfl rfl (by decide) rfl (by decide) (Nat.le_of_ble_eq_true rfl) (Nat.le_of_ble_eq_true rfl) dX10_init_84 (fun H ad28 had hM hS => ?_)
  rw [← had (1000) (by decide)] at hl
  rw [← had (1000) (by decide)]
  have hac : ∀ x ∈ (nsC0 ++ [1000]), ad28 x = ad x := fun x hx => (had x (List.mem_append_left _ (List.mem_append_left _ (List.mem_append_left _ (List.mem_append_left _ (List.mem_append_left _ (List.mem_append_left _ (List.mem_append_left _ (List.mem_append_left _ (List.mem_append_left _ hx)))))))))).trans (hac x hx)
  refine m_putF (1000) 10 (1010) hx hb hts hown hin hE oc10 hM hS (by decide) rfl (by decide) rfl (by decide) (by decide) rfl rfl rfl rfl tb_1187 dX10_init_86 (fun H locs G30 eG30 hM hS => ?_)
  subst eG30
  refine lv_aload_n hx hb dX10_init_89 rfl (lv_at hl 0 rfl) ?_
  refine lv_bipush (v := (24)) hx hb dX10_init_90 (by decide) ?_
  refine m_newi (1011) (t0 := 0) hx hb hts hE hM hS hA (by decide) (by decide) rfl (by decide) rfl (fun _ _ h => h) tb_121 rfl rfl (by decide) rfl (by decide) (Nat.le_of_ble_eq_true rfl) (Nat.le_of_ble_eq_true rfl) dX10_init_92 (fun H ad31 had hM hS => ?_)
  rw [← had (1000) (by decide)] at hl
  rw [← had (1000) (by decide)]
  have hac : ∀ x ∈ (nsC0 ++ [1000]), ad31 x = ad x := fun x hx => (had x (List.mem_append_left _ (List.mem_append_left _ (List.mem_append_left _ (List.mem_append_left _ (List.mem_append_left _ (List.mem_append_left _ (List.mem_append_left _ (List.mem_append_left _ (List.mem_append_left _ (List.mem_append_left _ hx))))))))))).trans (hac x hx)
  refine m_putF (1000) 11 (1011) hx hb hts hown hin hE oc10 hM hS (by decide) rfl (by decide) rfl (by decide) (by decide) rfl rfl rfl rfl tb_1188 dX10_init_94 (fun H locs G33 eG33 hM hS => ?_)
  subst eG33
  refine lv_aload_n hx hb dX10_init_97 rfl (lv_at hl 0 rfl) ?_
  refine lv_bipush (v := (24)) hx hb dX10_init_98 (by decide) ?_
  refine m_newi (1012) (t0 := 0) hx hb hts hE hM hS hA (by decide) (by decide) rfl (by decide) rfl (fun _ _ h => h) tb_121 rfl rfl (by decide) rfl (by decide) (Nat.le_of_ble_eq_true rfl) (Nat.le_of_ble_eq_true rfl) dX10_init_100 (fun H ad34 had hM hS => ?_)
  rw [← had (1000) (by decide)] at hl
  rw [← had (1000) (by decide)]
  have hac : ∀ x ∈ (nsC0 ++ [1000]), ad34 x = ad x := fun x hx => (had x (List.mem_append_left _ (List.mem_append_left _ (List.mem_append_left _ (List.mem_append_left _ (List.mem_append_left _ (List.mem_append_left _ (List.mem_append_left _ (List.mem_append_left _ (List.mem_append_left _ (List.mem_append_left _ (List.mem_append_left _ hx)))))))))))).trans (hac x hx)
  refine m_putF (1000) 12 (1012) hx hb hts hown hin hE oc10 hM hS (by decide) rfl (by decide) rfl (by decide) (by decide) rfl rfl rfl rfl tb_1189 dX10_init_102 (fun H locs G36 eG36 hM hS => ?_)
  subst eG36
  refine lv_aload_n hx hb dX10_init_105 rfl (lv_at hl 0 rfl) ?_
  refine lv_bipush (v := (24)) hx hb dX10_init_106 (by decide) ?_
  refine m_newi (1013) (t0 := 0) hx hb hts hE hM hS hA (by decide) (by decide) rfl (by decide) rfl (fun _ _ h => h) tb_121 rfl rfl (by decide) rfl (by decide) (Nat.le_of_ble_eq_true rfl) (Nat.le_of_ble_eq_true rfl) dX10_init_108 (fun H ad37 had hM hS => ?_)
  rw [← had (1000) (by decide)] at hl
  rw [← had (1000) (by decide)]
  have hac : ∀ x ∈ (nsC0 ++ [1000]), ad37 x = ad x := fun x hx => (had x (List.mem_append_left _ (List.mem_append_left _ (List.mem_append_left _ (List.mem_append_left _ (List.mem_append_left _ (List.mem_append_left _ (List.mem_append_left _ (List.mem_append_left _ (List.mem_append_left _ (List.mem_append_left _ (List.mem_append_left _ (List.mem_append_left _ hx))))))))))))).trans (hac x hx)
  refine m_putF (1000) 13 (1013) hx hb hts hown hin hE oc10 hM hS (by decide) rfl (by decide) rfl (by decide) (by decide) rfl rfl rfl rfl tb_1190 dX10_init_110 (fun H locs G39 eG39 hM hS => ?_)
  subst eG39
  refine lv_aload_n hx hb dX10_init_113 rfl (lv_at hl 0 rfl) ?_
  refine lv_bipush (v := (24)) hx hb dX10_init_114 (by decide) ?_
  refine m_newi (1014) (t0 := 0) hx hb hts hE hM hS hA (by decide) (by decide) rfl (by decide) rfl (fun _ _ h => h) tb_121 rfl rfl (by decide) rfl (by decide) (Nat.le_of_ble_eq_true rfl) (Nat.le_of_ble_eq_true rfl) dX10_init_116 (fun H ad40 had hM hS => ?_)
  rw [← had (1000) (by decide)] at hl
  rw [← had (1000) (by decide)]
  have hac : ∀ x ∈ (nsC0 ++ [1000]), ad40 x = ad x := fun x hx => (had x (List.mem_append_left _ (List.mem_append_left _ (List.mem_append_left _ (List.mem_append_left _ (List.mem_append_left _ (List.mem_append_left _ (List.mem_append_left _ (List.mem_append_left _ (List.mem_append_left _ (List.mem_append_left _ (List.mem_append_left _ (List.mem_append_left _ (List.mem_append_left _ hx)))))))))))))).trans (hac x hx)
  refine m_putF (1000) 14 (1014) hx hb hts hown hin hE oc10 hM hS (by decide) rfl (by decide) rfl (by decide) (by decide) rfl rfl rfl rfl tb_1191 dX10_init_118 (fun H locs G42 eG42 hM hS => ?_)
  subst eG42
  refine lv_aload_n hx hb dX10_init_121 rfl (lv_at hl 0 rfl) ?_
  refine lv_bipush (v := (24)) hx hb dX10_init_122 (by decide) ?_
  refine m_newi (1015) (t0 := 0) hx hb hts hE hM hS hA (by decide) (by decide) rfl (by decide) rfl (fun _ _ h => h) tb_121 rfl rfl (by decide) rfl (by decide) (Nat.le_of_ble_eq_true rfl) (Nat.le_of_ble_eq_true rfl) dX10_init_124 (fun H ad43 had hM hS => ?_)
  rw [← had (1000) (by decide)] at hl
  rw [← had (1000) (by decide)]
  have hac : ∀ x ∈ (nsC0 ++ [1000]), ad43 x = ad x := fun x hx => (had x (List.mem_append_left _ (List.mem_append_left _ (List.mem_append_left _ (List.mem_append_left _ (List.mem_append_left _ (List.mem_append_left _ (List.mem_append_left _ (List.mem_append_left _ (List.mem_append_left _ (List.mem_append_left _ (List.mem_append_left _ (List.mem_append_left _ (List.mem_append_left _ (List.mem_append_left _ hx))))))))))))))).trans (hac x hx)
  refine m_putF (1000) 15 (1015) hx hb hts hown hin hE oc10 hM hS (by decide) rfl (by decide) rfl (by decide) (by decide) rfl rfl rfl rfl tb_1192 dX10_init_126 (fun H locs G45 eG45 hM hS => ?_)
  subst eG45
  refine lv_aload_n hx hb dX10_init_129 rfl (lv_at hl 0 rfl) ?_
  refine lv_bipush (v := (24)) hx hb dX10_init_130 (by decide) ?_
  refine m_newi (1016) (t0 := 0) hx hb hts hE hM hS hA (by decide) (by decide) rfl (by decide) rfl (fun _ _ h => h) tb_121 rfl rfl (by decide) rfl (by decide) (Nat.le_of_ble_eq_true rfl) (Nat.le_of_ble_eq_true rfl) dX10_init_132 (fun H ad46 had hM hS => ?_)
  rw [← had (1000) (by decide)] at hl
  rw [← had (1000) (by decide)]
  have hac : ∀ x ∈ (nsC0 ++ [1000]), ad46 x = ad x := fun x hx => (had x (List.mem_append_left _ (List.mem_append_left _ (List.mem_append_left _ (List.mem_append_left _ (List.mem_append_left _ (List.mem_append_left _ (List.mem_append_left _ (List.mem_append_left _ (List.mem_append_left _ (List.mem_append_left _ (List.mem_append_left _ (List.mem_append_left _ (List.mem_append_left _ (List.mem_append_left _ (List.mem_append_left _ hx)))))))))))))))).trans (hac x hx)
  refine m_putF (1000) 16 (1016) hx hb hts hown hin hE oc10 hM hS (by decide) rfl (by decide) rfl (by decide) (by decide) rfl rfl rfl rfl tb_1193 dX10_init_134 (fun H locs G48 eG48 hM hS => ?_)
  subst eG48
  refine lv_aload_n hx hb dX10_init_137 rfl (lv_at hl 0 rfl) ?_
  refine lv_bipush (v := (8)) hx hb dX10_init_138 (by decide) ?_
  refine m_newi (1017) (t0 := 0) hx hb hts hE hM hS hA (by decide) (by decide) rfl (by decide) rfl (fun _ _ h => h) tb_121 rfl rfl (by decide) rfl (by decide) (Nat.le_of_ble_eq_true rfl) (Nat.le_of_ble_eq_true rfl) dX10_init_140 (fun H ad49 had hM hS => ?_)
  rw [← had (1000) (by decide)] at hl
  rw [← had (1000) (by decide)]
  have hac : ∀ x ∈ (nsC0 ++ [1000]), ad49 x = ad x := fun x hx => (had x (List.mem_append_left _ (List.mem_append_left _ (List.mem_append_left _ (List.mem_append_left _ (List.mem_append_left _ (List.mem_append_left _ (List.mem_append_left _ (List.mem_append_left _ (List.mem_append_left _ (List.mem_append_left _ (List.mem_append_left _ (List.mem_append_left _ (List.mem_append_left _ (List.mem_append_left _ (List.mem_append_left _ (List.mem_append_left _ hx))))))))))))))))).trans (hac x hx)
  refine m_putF (1000) 17 (1017) hx hb hts hown hin hE oc10 hM hS (by decide) rfl (by decide) rfl (by decide) (by decide) rfl rfl rfl rfl tb_1194 dX10_init_142 (fun H locs G51 eG51 hM hS => ?_)
  subst eG51
  refine lv_aload_n hx hb dX10_init_145 rfl (lv_at hl 0 rfl) ?_
  refine lv_bipush (v := (8)) hx hb dX10_init_146 (by decide) ?_
  refine m_newi (1018) (t0 := 0) hx hb hts hE hM hS hA (by decide) (by decide) rfl (by decide) rfl (fun _ _ h => h) tb_121 rfl rfl (by decide) rfl (by decide) (Nat.le_of_ble_eq_true rfl) (Nat.le_of_ble_eq_true rfl) dX10_init_148 (fun H ad52 had hM hS => ?_)
  rw [← had (1000) (by decide)] at hl
  rw [← had (1000) (by decide)]
  have hac : ∀ x ∈ (nsC0 ++ [1000]), ad52 x = ad x := fun x hx => (had x (List.mem_append_left _ (List.mem_append_left _ (List.mem_append_left _ (List.mem_append_left _ (List.mem_append_left _ (List.mem_append_left _ (List.mem_append_left _ (List.mem_append_left _ (List.mem_append_left _ (List.mem_append_left _ (List.mem_append_left _ (List.mem_append_left _ (List.mem_append_left _ (List.mem_append_left _ (List.mem_append_left _ (List.mem_append_left _ (List.mem_append_left _ hx)))))))))))))))))).trans (hac x hx)
  refine m_putF (1000) 18 (1018) hx hb hts hown hin hE oc10 hM hS (by decide) rfl (by decide) rfl (by decide) (by decide) rfl rfl rfl rfl tb_1195 dX10_init_150 (fun H locs G54 eG54 hM hS => ?_)
  subst eG54
  refine lv_aload_n hx hb dX10_init_153 rfl (lv_at hl 0 rfl) ?_
  refine lv_bipush (v := (8)) hx hb dX10_init_154 (by decide) ?_
  refine m_newi (1019) (t0 := 0) hx hb hts hE hM hS hA (by decide) (by decide) rfl (by decide) rfl (fun _ _ h => h) tb_121 rfl rfl (by decide) rfl (by decide) (Nat.le_of_ble_eq_true rfl) (Nat.le_of_ble_eq_true rfl) dX10_init_156 (fun H ad55 had hM hS => ?_)
  rw [← had (1000) (by decide)] at hl
  rw [← had (1000) (by decide)]
  have hac : ∀ x ∈ (nsC0 ++ [1000]), ad55 x = ad x := fun x hx => (had x (List.mem_append_left _ (List.mem_append_left _ (List.mem_append_left _ (List.mem_append_left _ (List.mem_append_left _ (List.mem_append_left _ (List.mem_append_left _ (List.mem_append_left _ (List.mem_append_left _ (List.mem_append_left _ (List.mem_append_left _ (List.mem_append_left _ (List.mem_append_left _ (List.mem_append_left _ (List.mem_append_left _ (List.mem_append_left _ (List.mem_append_left _ (List.mem_append_left _ hx))))))))))))))))))).trans (hac x hx)
  refine m_putF (1000) 19 (1019) hx hb hts hown hin hE oc10 hM hS (by decide) rfl (by decide) rfl (by decide) (by decide) rfl rfl rfl rfl tb_1196 dX10_init_158 (fun H locs G57 eG57 hM hS => ?_)
  subst eG57
  refine lv_aload_n hx hb dX10_init_161 rfl (lv_at hl 0 rfl) ?_
  refine lv_bipush (v := (8)) hx hb dX10_init_162 (by decide) ?_
  refine m_newi (1020) (t0 := 0) hx hb hts hE hM hS hA (by decide) (by decide) rfl (by decide) rfl (fun _ _ h => h) tb_121 rfl rfl (by decide) rfl (by decide) (Nat.le_of_ble_eq_true rfl) (Nat.le_of_ble_eq_true rfl) dX10_init_164 (fun H ad58 had hM hS => ?_)
  rw [← had (1000) (by decide)] at hl
  rw [← had (1000) (by decide)]
  have hac : ∀ x ∈ (nsC0 ++ [1000]), ad58 x = ad x := fun x hx => (had x (List.mem_append_left _ (List.mem_append_left _ (List.mem_append_left _ (List.mem_append_left _ (List.mem_append_left _ (List.mem_append_left _ (List.mem_append_left _ (List.mem_append_left _ (List.mem_append_left _ (List.mem_append_left _ (List.mem_append_left _ (List.mem_append_left _ (List.mem_append_left _ (List.mem_append_left _ (List.mem_append_left _ (List.mem_append_left _ (List.mem_append_left _ (List.mem_append_left _ (List.mem_append_left _ hx)))))))))))))))))))).trans (hac x hx)
  refine m_putF (1000) 20 (1020) hx hb hts hown hin hE oc10 hM hS (by decide) rfl (by decide) rfl (by decide) (by decide) rfl rfl rfl rfl tb_1197 dX10_init_166 (fun H locs G60 eG60 hM hS => ?_)
  subst eG60
  refine lv_aload_n hx hb dX10_init_169 rfl (lv_at hl 0 rfl) ?_
  refine lv_bipush (v := (8)) hx hb dX10_init_170 (by decide) ?_
  refine m_newi (1021) (t0 := 0) hx hb hts hE hM hS hA (by decide) (by decide) rfl (by decide) rfl (fun _ _ h => h) tb_121 rfl rfl (by decide) rfl (by decide) (Nat.le_of_ble_eq_true rfl) (Nat.le_of_ble_eq_true rfl) dX10_init_172 (fun H ad61 had hM hS => ?_)
  rw [← had (1000) (by decide)] at hl
  rw [← had (1000) (by decide)]
  have hac : ∀ x ∈ (nsC0 ++ [1000]), ad61 x = ad x := fun x hx => (had x (List.mem_append_left _ (List.mem_append_left _ (List.mem_append_left _ (List.mem_append_left _ (List.mem_append_left _ (List.mem_append_left _ (List.mem_append_left _ (List.mem_append_left _ (List.mem_append_left _ (List.mem_append_left _ (List.mem_append_left _ (List.mem_append_left _ (List.mem_append_left _ (List.mem_append_left _ (List.mem_append_left _ (List.mem_append_left _ (List.mem_append_left _ (List.mem_append_left _ (List.mem_append_left _ (List.mem_append_left _ hx))))))))))))))))))))).trans (hac x hx)
  refine m_putF (1000) 21 (1021) hx hb hts hown hin hE oc10 hM hS (by decide) rfl (by decide) rfl (by decide) (by decide) rfl rfl rfl rfl tb_1198 dX10_init_174 (fun H locs G63 eG63 hM hS => ?_)
  subst eG63
  refine lv_aload_n hx hb dX10_init_177 rfl (lv_at hl 0 rfl) ?_
  refine lv_bipush (v := (8)) hx hb dX10_init_178 (by decide) ?_
  refine m_newi (1022) (t0 := 0) hx hb hts hE hM hS hA (by decide) (by decide) rfl (by decide) rfl (fun _ _ h => h) tb_121 rfl rfl (by decide) rfl (by decide) (Nat.le_of_ble_eq_true rfl) (Nat.le_of_ble_eq_true rfl) dX10_init_180 (fun H ad64 had hM hS => ?_)
  rw [← had (1000) (by decide)] at hl
  rw [← had (1000) (by decide)]
  have hac : ∀ x ∈ (nsC0 ++ [1000]), ad64 x = ad x := fun x hx => (had x (List.mem_append_left _ (List.mem_append_left _ (List.mem_append_left _ (List.mem_append_left _ (List.mem_append_left _ (List.mem_append_left _ (List.mem_append_left _ (List.mem_append_left _ (List.mem_append_left _ (List.mem_append_left _ (List.mem_append_left _ (List.mem_append_left _ (List.mem_append_left _ (List.mem_append_left _ (List.mem_append_left _ (List.mem_append_left _ (List.mem_append_left _ (List.mem_append_left _ (List.mem_append_left _ (List.mem_append_left _ (List.mem_append_left _ hx)))))))))))))))))))))).trans (hac x hx)
  refine m_putF (1000) 22 (1022) hx hb hts hown hin hE oc10 hM hS (by decide) rfl (by decide) rfl (by decide) (by decide) rfl rfl rfl rfl tb_1199 dX10_init_182 (fun H locs G66 eG66 hM hS => ?_)
  subst eG66
  refine lv_aload_n hx hb dX10_init_185 rfl (lv_at hl 0 rfl) ?_
  refine lv_bipush (v := (8)) hx hb dX10_init_186 (by decide) ?_
  refine m_newi (1023) (t0 := 0) hx hb hts hE hM hS hA (by decide) (by decide) rfl (by decide) rfl (fun _ _ h => h) tb_121 rfl rfl (by decide) rfl (by decide) (Nat.le_of_ble_eq_true rfl) (Nat.le_of_ble_eq_true rfl) dX10_init_188 (fun H ad67 had hM hS => ?_)
  rw [← had (1000) (by decide)] at hl
  rw [← had (1000) (by decide)]
  have hac : ∀ x ∈ (nsC0 ++ [1000]), ad67 x = ad x := fun x hx => (had x (List.mem_append_left _ (List.mem_append_left _ (List.mem_append_left _ (List.mem_append_left _ (List.mem_append_left _ (List.mem_append_left _ (List.mem_append_left _ (List.mem_append_left _ (List.mem_append_left _ (List.mem_append_left _ (List.mem_append_left _ (List.mem_append_left _ (List.mem_append_left _ (List.mem_append_left _ (List.mem_append_left _ (List.mem_append_left _ (List.mem_append_left _ (List.mem_append_left _ (List.mem_append_left _ (List.mem_append_left _ (List.mem_append_left _ (List.mem_append_left _ hx))))))))))))))))))))))).trans (hac x hx)
  refine m_putF (1000) 23 (1023) hx hb hts hown hin hE oc10 hM hS (by decide) rfl (by decide) rfl (by decide) (by decide) rfl rfl rfl rfl tb_1200 dX10_init_190 (fun H locs G69 eG69 hM hS => ?_)
  subst eG69
  refine lv_aload_n hx hb dX10_init_193 rfl (lv_at hl 0 rfl) ?_
  refine lv_bipush (v := (13)) hx hb dX10_init_194 (by decide) ?_
  refine m_puti (1000) 33 hx hb hts hown hE oc10 hM hS (by decide) rfl (by decide) rfl rfl rfl rfl tb_1210 dX10_init_196 (fun H locs I70 eI70 hM hS => ?_)
  subst eI70
  refine lv_aload_n hx hb dX10_init_199 rfl (lv_at hl 0 rfl) ?_
  refine lv_sipush (v := (400)) hx hb dX10_init_200 (by decide) ?_
  refine m_newi (1034) (t0 := 1) hx hb hts hE hM hS hA (by decide) (by decide) rfl (by decide) rfl (fun _ _ h => h) tb_361 rfl rfl (by decide) rfl (by decide) (Nat.le_of_ble_eq_true rfl) (Nat.le_of_ble_eq_true rfl) dX10_init_203 (fun H ad71 had hM hS => ?_)
  rw [← had (1000) (by decide)] at hl
  rw [← had (1000) (by decide)]
  have hac : ∀ x ∈ (nsC0 ++ [1000]), ad71 x = ad x := fun x hx => (had x (List.mem_append_left _ (List.mem_append_left _ (List.mem_append_left _ (List.mem_append_left _ (List.mem_append_left _ (List.mem_append_left _ (List.mem_append_left _ (List.mem_append_left _ (List.mem_append_left _ (List.mem_append_left _ (List.mem_append_left _ (List.mem_append_left _ (List.mem_append_left _ (List.mem_append_left _ (List.mem_append_left _ (List.mem_append_left _ (List.mem_append_left _ (List.mem_append_left _ (List.mem_append_left _ (List.mem_append_left _ (List.mem_append_left _ (List.mem_append_left _ (List.mem_append_left _ hx)))))))))))))))))))))))).trans (hac x hx)
  refine m_putF (1000) 34 (1034) hx hb hts hown hin hE oc10 hM hS (by decide) rfl (by decide) rfl (by decide) (by decide) rfl rfl rfl rfl tb_1211 dX10_init_205 (fun H locs G73 eG73 hM hS => ?_)
  subst eG73
  refine lv_aload_n hx hb dX10_init_208 rfl (lv_at hl 0 rfl) ?_
  refine lv_sipush (v := (1800)) hx hb dX10_init_209 (by decide) ?_
  refine m_newi (1035) (t0 := 0) hx hb hts hE hM hS hA (by decide) (by decide) rfl (by decide) rfl (fun _ _ h => h) tb_121 rfl rfl (by decide) rfl (by decide) (Nat.le_of_ble_eq_true rfl) (Nat.le_of_ble_eq_true rfl) dX10_init_212 (fun H ad74 had hM hS => ?_)
  rw [← had (1000) (by decide)] at hl
  rw [← had (1000) (by decide)]
  have hac : ∀ x ∈ (nsC0 ++ [1000]), ad74 x = ad x := fun x hx => (had x (List.mem_append_left _ (List.mem_append_left _ (List.mem_append_left _ (List.mem_append_left _ (List.mem_append_left _ (List.mem_append_left _ (List.mem_append_left _ (List.mem_append_left _ (List.mem_append_left _ (List.mem_append_left _ (List.mem_append_left _ (List.mem_append_left _ (List.mem_append_left _ (List.mem_append_left _ (List.mem_append_left _ (List.mem_append_left _ (List.mem_append_left _ (List.mem_append_left _ (List.mem_append_left _ (List.mem_append_left _ (List.mem_append_left _ (List.mem_append_left _ (List.mem_append_left _ (List.mem_append_left _ hx))))))))))))))))))))))))).trans (hac x hx)
  refine m_putF (1000) 35 (1035) hx hb hts hown hin hE oc10 hM hS (by decide) rfl (by decide) rfl (by decide) (by decide) rfl rfl rfl rfl tb_1212 dX10_init_214 (fun H locs G76 eG76 hM hS => ?_)
  subst eG76
  refine lv_aload_n hx hb dX10_init_217 rfl (lv_at hl 0 rfl) ?_
  refine lv_sipush (v := (1800)) hx hb dX10_init_218 (by decide) ?_
  refine m_newi (1036) (t0 := 0) hx hb hts hE hM hS hA (by decide) (by decide) rfl (by decide) rfl (fun _ _ h => h) tb_121 rfl rfl (by decide) rfl (by decide) (Nat.le_of_ble_eq_true rfl) (Nat.le_of_ble_eq_true rfl) dX10_init_221 (fun H ad77 had hM hS => ?_)
  rw [← had (1000) (by decide)] at hl
  rw [← had (1000) (by decide)]
  have hac : ∀ x ∈ (nsC0 ++ [1000]), ad77 x = ad x := fun x hx => (had x (List.mem_append_left _ (List.mem_append_left _ (List.mem_append_left _ (List.mem_append_left _ (List.mem_append_left _ (List.mem_append_left _ (List.mem_append_left _ (List.mem_append_left _ (List.mem_append_left _ (List.mem_append_left _ (List.mem_append_left _ (List.mem_append_left _ (List.mem_append_left _ (List.mem_append_left _ (List.mem_append_left _ (List.mem_append_left _ (List.mem_append_left _ (List.mem_append_left _ (List.mem_append_left _ (List.mem_append_left _ (List.mem_append_left _ (List.mem_append_left _ (List.mem_append_left _ (List.mem_append_left _ (List.mem_append_left _ hx)))))))))))))))))))))))))).trans (hac x hx)
  refine m_putF (1000) 36 (1036) hx hb hts hown hin hE oc10 hM hS (by decide) rfl (by decide) rfl (by decide) (by decide) rfl rfl rfl rfl tb_1213 dX10_init_223 (fun H locs G79 eG79 hM hS => ?_)
  subst eG79
  refine lv_aload_n hx hb dX10_init_226 rfl (lv_at hl 0 rfl) ?_
  refine lv_bipush (v := (6)) hx hb dX10_init_227 (by decide) ?_
  refine m_newi (1037) (t0 := 0) hx hb hts hE hM hS hA (by decide) (by decide) rfl (by decide) rfl (fun _ _ h => h) tb_121 rfl rfl (by decide) rfl (by decide) (Nat.le_of_ble_eq_true rfl) (Nat.le_of_ble_eq_true rfl) dX10_init_229 (fun H ad80 had hM hS => ?_)
  rw [← had (1000) (by decide)] at hl
  rw [← had (1000) (by decide)]
  have hac : ∀ x ∈ (nsC0 ++ [1000]), ad80 x = ad x := fun x hx => (had x (List.mem_append_left _ (List.mem_append_left _ (List.mem_append_left _ (List.mem_append_left _ (List.mem_append_left _ (List.mem_append_left _ (List.mem_append_left _ (List.mem_append_left _ (List.mem_append_left _ (List.mem_append_left _ (List.mem_append_left _ (List.mem_append_left _ (List.mem_append_left _ (List.mem_append_left _ (List.mem_append_left _ (List.mem_append_left _ (List.mem_append_left _ (List.mem_append_left _ (List.mem_append_left _ (List.mem_append_left _ (List.mem_append_left _ (List.mem_append_left _ (List.mem_append_left _ (List.mem_append_left _ (List.mem_append_left _ (List.mem_append_left _ hx))))))))))))))))))))))))))).trans (hac x hx)
  refine m_putF (1000) 37 (1037) hx hb hts hown hin hE oc10 hM hS (by decide) rfl (by decide) rfl (by decide) (by decide) rfl rfl rfl rfl tb_1214 dX10_init_231 (fun H locs G82 eG82 hM hS => ?_)
  subst eG82
  refine lv_aload_n hx hb dX10_init_234 rfl (lv_at hl 0 rfl) ?_
  refine lv_bipush (v := (72)) hx hb dX10_init_235 (by decide) ?_
  refine m_newi (1038) (t0 := 0) hx hb hts hE hM hS hA (by decide) (by decide) rfl (by decide) rfl (fun _ _ h => h) tb_121 rfl rfl (by decide) rfl (by decide) (Nat.le_of_ble_eq_true rfl) (Nat.le_of_ble_eq_true rfl) dX10_init_237 (fun H ad83 had hM hS => ?_)
  rw [← had (1000) (by decide)] at hl
  rw [← had (1000) (by decide)]
  have hac : ∀ x ∈ (nsC0 ++ [1000]), ad83 x = ad x := fun x hx => (had x (List.mem_append_left _ (List.mem_append_left _ (List.mem_append_left _ (List.mem_append_left _ (List.mem_append_left _ (List.mem_append_left _ (List.mem_append_left _ (List.mem_append_left _ (List.mem_append_left _ (List.mem_append_left _ (List.mem_append_left _ (List.mem_append_left _ (List.mem_append_left _ (List.mem_append_left _ (List.mem_append_left _ (List.mem_append_left _ (List.mem_append_left _ (List.mem_append_left _ (List.mem_append_left _ (List.mem_append_left _ (List.mem_append_left _ (List.mem_append_left _ (List.mem_append_left _ (List.mem_append_left _ (List.mem_append_left _ (List.mem_append_left _ (List.mem_append_left _ hx)))))))))))))))))))))))))))).trans (hac x hx)
  refine m_putF (1000) 38 (1038) hx hb hts hown hin hE oc10 hM hS (by decide) rfl (by decide) rfl (by decide) (by decide) rfl rfl rfl rfl tb_1215 dX10_init_239 (fun H locs G85 eG85 hM hS => ?_)
  subst eG85
  refine lv_aload_n hx hb dX10_init_242 rfl (lv_at hl 0 rfl) ?_
  refine lv_bipush (v := (72)) hx hb dX10_init_243 (by decide) ?_
  refine m_newi (1039) (t0 := 0) hx hb hts hE hM hS hA (by decide) (by decide) rfl (by decide) rfl (fun _ _ h => h) tb_121 rfl rfl (by decide) rfl (by decide) (Nat.le_of_ble_eq_true rfl) (Nat.le_of_ble_eq_true rfl) dX10_init_245 (fun H ad86 had hM hS => ?_)
  rw [← had (1000) (by decide)] at hl
  rw [← had (1000) (by decide)]
  have hac : ∀ x ∈ (nsC0 ++ [1000]), ad86 x = ad x := fun x hx => (had x (List.mem_append_left _ (List.mem_append_left _ (List.mem_append_left _ (List.mem_append_left _ (List.mem_append_left _ (List.mem_append_left _ (List.mem_append_left _ (List.mem_append_left _ (List.mem_append_left _ (List.mem_append_left _ (List.mem_append_left _ (List.mem_append_left _ (List.mem_append_left _ (List.mem_append_left _ (List.mem_append_left _ (List.mem_append_left _ (List.mem_append_left _ (List.mem_append_left _ (List.mem_append_left _ (List.mem_append_left _ (List.mem_append_left _ (List.mem_append_left _ (List.mem_append_left _ (List.mem_append_left _ (List.mem_append_left _ (List.mem_append_left _ (List.mem_append_left _ (List.mem_append_left _ hx))))))))))))))))))))))))))))).trans (hac x hx)
  refine m_putF (1000) 39 (1039) hx hb hts hown hin hE oc10 hM hS (by decide) rfl (by decide) rfl (by decide) (by decide) rfl rfl rfl rfl tb_1216 dX10_init_247 (fun H locs G88 eG88 hM hS => ?_)
  subst eG88
  refine lv_aload_n hx hb dX10_init_250 rfl (lv_at hl 0 rfl) ?_
  refine lv_bipush (v := (72)) hx hb dX10_init_251 (by decide) ?_
  refine m_newi (1040) (t0 := 0) hx hb hts hE hM hS hA (by decide) (by decide) rfl (by decide) rfl (fun _ _ h => h) tb_121 rfl rfl (by decide) rfl (by decide) (Nat.le_of_ble_eq_true rfl) (Nat.le_of_ble_eq_true rfl) dX10_init_253 (fun H ad89 had hM hS => ?_)
  rw [← had (1000) (by decide)] at hl
  rw [← had (1000) (by decide)]
  have hac : ∀ x ∈ (nsC0 ++ [1000]), ad89 x = ad x := fun x hx => (had x (List.mem_append_left _ (List.mem_append_left _ (List.mem_append_left _ (List.mem_append_left _ (List.mem_append_left _ (List.mem_append_left _ (List.mem_append_left _ (List.mem_append_left _ (List.mem_append_left _ (List.mem_append_left _ (List.mem_append_left _ (List.mem_append_left _ (List.mem_append_left _ (List.mem_append_left _ (List.mem_append_left _ (List.mem_append_left _ (List.mem_append_left _ (List.mem_append_left _ (List.mem_append_left _ (List.mem_append_left _ (List.mem_append_left _ (List.mem_append_left _ (List.mem_append_left _ (List.mem_append_left _ (List.mem_append_left _ (List.mem_append_left _ (List.mem_append_left _ (List.mem_append_left _ (List.mem_append_left _ hx)))))))))))))))))))))))))))))).trans (hac x hx)
  refine m_putF (1000) 40 (1040) hx hb hts hown hin hE oc10 hM hS (by decide) rfl (by decide) rfl (by decide) (by decide) rfl rfl rfl rfl tb_1217 dX10_init_255 (fun H locs G91 eG91 hM hS => ?_)
  subst eG91
  refine lv_aload_n hx hb dX10_init_258 rfl (lv_at hl 0 rfl) ?_
  refine lv_bipush (v := (72)) hx hb dX10_init_259 (by decide) ?_
  refine m_newi (1041) (t0 := 0) hx hb hts hE hM hS hA (by decide) (by decide) rfl (by decide) rfl (fun _ _ h => h) tb_121 rfl rfl (by decide) rfl (by decide) (Nat.le_of_ble_eq_true rfl) (Nat.le_of_ble_eq_true rfl) dX10_init_261 (fun H ad92 had hM hS => ?_)
  rw [← had (1000) (by decide)] at hl
  rw [← had (1000) (by decide)]
  have hac : ∀ x ∈ (nsC0 ++ [1000]), ad92 x = ad x := fun x hx => (had x (List.mem_append_left _ (List.mem_append_left _ (List.mem_append_left _ (List.mem_append_left _ (List.mem_append_left _ (List.mem_append_left _ (List.mem_append_left _ (List.mem_append_left _ (List.mem_append_left _ (List.mem_append_left _ (List.mem_append_left _ (List.mem_append_left _ (List.mem_append_left _ (List.mem_append_left _ (List.mem_append_left _ (List.mem_append_left _ (List.mem_append_left _ (List.mem_append_left _ (List.mem_append_left _ (List.mem_append_left _ (List.mem_append_left _ (List.mem_append_left _ (List.mem_append_left _ (List.mem_append_left _ (List.mem_append_left _ (List.mem_append_left _ (List.mem_append_left _ (List.mem_append_left _ (List.mem_append_left _ (List.mem_append_left _ hx))))))))))))))))))))))))))))))).trans (hac x hx)
  refine m_putF (1000) 41 (1041) hx hb hts hown hin hE oc10 hM hS (by decide) rfl (by decide) rfl (by decide) (by decide) rfl rfl rfl rfl tb_1218 dX10_init_263 (fun H locs G94 eG94 hM hS => ?_)
  subst eG94
  refine lv_aload_n hx hb dX10_init_266 rfl (lv_at hl 0 rfl) ?_
  refine lv_sipush (v := (402)) hx hb dX10_init_267 (by decide) ?_
  refine m_newi (1042) (t0 := 0) hx hb hts hE hM hS hA (by decide) (by decide) rfl (by decide) rfl (fun _ _ h => h) tb_121 rfl rfl (by decide) rfl (by decide) (Nat.le_of_ble_eq_true rfl) (Nat.le_of_ble_eq_true rfl) dX10_init_270 (fun H ad95 had hM hS => ?_)
  rw [← had (1000) (by decide)] at hl
  rw [← had (1000) (by decide)]
  have hac : ∀ x ∈ (nsC0 ++ [1000]), ad95 x = ad x := fun x hx => (had x (List.mem_append_left _ (List.mem_append_left _ (List.mem_append_left _ (List.mem_append_left _ (List.mem_append_left _ (List.mem_append_left _ (List.mem_append_left _ (List.mem_append_left _ (List.mem_append_left _ (List.mem_append_left _ (List.mem_append_left _ (List.mem_append_left _ (List.mem_append_left _ (List.mem_append_left _ (List.mem_append_left _ (List.mem_append_left _ (List.mem_append_left _ (List.mem_append_left _ (List.mem_append_left _ (List.mem_append_left _ (List.mem_append_left _ (List.mem_append_left _ (List.mem_append_left _ (List.mem_append_left _ (List.mem_append_left _ (List.mem_append_left _ (List.mem_append_left _ (List.mem_append_left _ (List.mem_append_left _ (List.mem_append_left _ (List.mem_append_left _ hx)))))))))))))))))))))))))))))))).trans (hac x hx)
  refine m_putF (1000) 42 (1042) hx hb hts hown hin hE oc10 hM hS (by decide) rfl (by decide) rfl (by decide) (by decide) rfl rfl rfl rfl tb_1219 dX10_init_272 (fun H locs G97 eG97 hM hS => ?_)
  subst eG97
  refine lv_aload_n hx hb dX10_init_275 rfl (lv_at hl 0 rfl) ?_
  refine lv_bipush (v := (13)) hx hb dX10_init_276 (by decide) ?_
  refine m_newl (1043) hx hb hts hE hM hS hA (by decide) (by decide) rfl tb_198 (by decide) rfl (by decide) (Nat.le_of_ble_eq_true rfl) (Nat.le_of_ble_eq_true rfl) dX10_init_278 (fun H ad98 had hM hS => ?_)
  rw [← had (1000) (by decide)] at hl
  rw [← had (1000) (by decide)]
  have hac : ∀ x ∈ (nsC0 ++ [1000]), ad98 x = ad x := fun x hx => (had x (List.mem_append_left _ (List.mem_append_left _ (List.mem_append_left _ (List.mem_append_left _ (List.mem_append_left _ (List.mem_append_left _ (List.mem_append_left _ (List.mem_append_left _ (List.mem_append_left _ (List.mem_append_left _ (List.mem_append_left _ (List.mem_append_left _ (List.mem_append_left _ (List.mem_append_left _ (List.mem_append_left _ (List.mem_append_left _ (List.mem_append_left _ (List.mem_append_left _ (List.mem_append_left _ (List.mem_append_left _ (List.mem_append_left _ (List.mem_append_left _ (List.mem_append_left _ (List.mem_append_left _ (List.mem_append_left _ (List.mem_append_left _ (List.mem_append_left _ (List.mem_append_left _ (List.mem_append_left _ (List.mem_append_left _ (List.mem_append_left _ (List.mem_append_left _ hx))))))))))))))))))))))))))))))))).trans (hac x hx)
  refine m_putF (1000) 43 (1043) hx hb hts hown hin hE oc10 hM hS (by decide) rfl (by decide) rfl (by decide) (by decide) rfl rfl rfl rfl tb_1220 dX10_init_280 (fun H locs G100 eG100 hM hS => ?_)
  subst eG100
  refine lv_aload_n hx hb dX10_init_283 rfl (lv_at hl 0 rfl) ?_
  refine lv_sipush (v := (300)) hx hb dX10_init_284 (by decide) ?_
  refine m_newl (1044) hx hb hts hE hM hS hA (by decide) (by decide) rfl tb_198 (by decide) rfl (by decide) (Nat.le_of_ble_eq_true rfl) (Nat.le_of_ble_eq_true rfl) dX10_init_287 (fun H ad101 had hM hS => ?_)
  rw [← had (1000) (by decide)] at hl
  rw [← had (1000) (by decide)]
  have hac : ∀ x ∈ (nsC0 ++ [1000]), ad101 x = ad x := fun x hx => (had x (List.mem_append_left _ (List.mem_append_left _ (List.mem_append_left _ (List.mem_append_left _ (List.mem_append_left _ (List.mem_append_left _ (List.mem_append_left _ (List.mem_append_left _ (List.mem_append_left _ (List.mem_append_left _ (List.mem_append_left _ (List.mem_append_left _ (List.mem_append_left _ (List.mem_append_left _ (List.mem_append_left _ (List.mem_append_left _ (List.mem_append_left _ (List.mem_append_left _ (List.mem_append_left _ (List.mem_append_left _ (List.mem_append_left _ (List.mem_append_left _ (List.mem_append_left _ (List.mem_append_left _ (List.mem_append_left _ (List.mem_append_left _ (List.mem_append_left _ (List.mem_append_left _ (List.mem_append_left _ (List.mem_append_left _ (List.mem_append_left _ (List.mem_append_left _ (List.mem_append_left _ hx)))))))))))))))))))))))))))))))))).trans (hac x hx)
  refine m_putF (1000) 44 (1044) hx hb hts hown hin hE oc10 hM hS (by decide) rfl (by decide) rfl (by decide) (by decide) rfl rfl rfl rfl tb_1221 dX10_init_289 (fun H locs G103 eG103 hM hS => ?_)
  subst eG103
  refine lv_aload_n hx hb dX10_init_292 rfl (lv_at hl 0 rfl) ?_
  refine lv_bipush (v := (60)) hx hb dX10_init_293 (by decide) ?_
  refine m_newi (1045) (t0 := 0) hx hb hts hE hM hS hA (by decide) (by decide) rfl (by decide) rfl (fun _ _ h => h) tb_121 rfl rfl (by decide) rfl (by decide) (Nat.le_of_ble_eq_true rfl) (Nat.le_of_ble_eq_true rfl) dX10_init_295 (fun H ad104 had hM hS => ?_)
  rw [← had (1000) (by decide)] at hl
  rw [← had (1000) (by decide)]
  have hac : ∀ x ∈ (nsC0 ++ [1000]), ad104 x = ad x := fun x hx => (had x (List.mem_append_left _ (List.mem_append_left _ (List.mem_append_left _ (List.mem_append_left _ (List.mem_append_left _ (List.mem_append_left _ (List.mem_append_left _ (List.mem_append_left _ (List.mem_append_left _ (List.mem_append_left _ (List.mem_append_left _ (List.mem_append_left _ (List.mem_append_left _ (List.mem_append_left _ (List.mem_append_left _ (List.mem_append_left _ (List.mem_append_left _ (List.mem_append_left _ (List.mem_append_left _ (List.mem_append_left _ (List.mem_append_left _ (List.mem_append_left _ (List.mem_append_left _ (List.mem_append_left _ (List.mem_append_left _ (List.mem_append_left _ (List.mem_append_left _ (List.mem_append_left _ (List.mem_append_left _ (List.mem_append_left _ (List.mem_append_left _ (List.mem_append_left _ (List.mem_append_left _ (List.mem_append_left _ hx))))))))))))))))))))))))))))))))))).trans (hac x hx)
  refine m_putF (1000) 45 (1045) hx hb hts hown hin hE oc10 hM hS (by decide) rfl (by decide) rfl (by decide) (by decide) rfl rfl rfl rfl tb_1222 dX10_init_297 (fun H locs G106 eG106 hM hS => ?_)
  subst eG106
  refine lv_aload_n hx hb dX10_init_300 rfl (lv_at hl 0 rfl) ?_
  refine lv_bipush (v := (60)) hx hb dX10_init_301 (by decide) ?_
  refine m_newi (1046) (t0 := 0) hx hb hts hE hM hS hA (by decide) (by decide) rfl (by decide) rfl (fun _ _ h => h) tb_121 rfl rfl (by decide) rfl (by decide) (Nat.le_of_ble_eq_true rfl) (Nat.le_of_ble_eq_true rfl) dX10_init_303 (fun H ad107 had hM hS => ?_)
  rw [← had (1000) (by decide)] at hl
  rw [← had (1000) (by decide)]
  have hac : ∀ x ∈ (nsC0 ++ [1000]), ad107 x = ad x := fun x hx => (had x (List.mem_append_left _ (List.mem_append_left _ (List.mem_append_left _ (List.mem_append_left _ (List.mem_append_left _ (List.mem_append_left _ (List.mem_append_left _ (List.mem_append_left _ (List.mem_append_left _ (List.mem_append_left _ (List.mem_append_left _ (List.mem_append_left _ (List.mem_append_left _ (List.mem_append_left _ (List.mem_append_left _ (List.mem_append_left _ (List.mem_append_left _ (List.mem_append_left _ (List.mem_append_left _ (List.mem_append_left _ (List.mem_append_left _ (List.mem_append_left _ (List.mem_append_left _ (List.mem_append_left _ (List.mem_append_left _ (List.mem_append_left _ (List.mem_append_left _ (List.mem_append_left _ (List.mem_append_left _ (List.mem_append_left _ (List.mem_append_left _ (List.mem_append_left _ (List.mem_append_left _ (List.mem_append_left _ (List.mem_append_left _ hx)))))))))))))))))))))))))))))))))))).trans (hac x hx)
  refine m_putF (1000) 46 (1046) hx hb hts hown hin hE oc10 hM hS (by decide) rfl (by decide) rfl (by decide) (by decide) rfl rfl rfl rfl tb_1223 dX10_init_305 (fun H locs G109 eG109 hM hS => ?_)
  subst eG109
  refine lv_aload_n hx hb dX10_init_308 rfl (lv_at hl 0 rfl) ?_
  refine lv_bipush (v := (60)) hx hb dX10_init_309 (by decide) ?_
  refine m_newi (1047) (t0 := 0) hx hb hts hE hM hS hA (by decide) (by decide) rfl (by decide) rfl (fun _ _ h => h) tb_121 rfl rfl (by decide) rfl (by decide) (Nat.le_of_ble_eq_true rfl) (Nat.le_of_ble_eq_true rfl) dX10_init_311 (fun H ad110 had hM hS => ?_)
  rw [← had (1000) (by decide)] at hl
  rw [← had (1000) (by decide)]
  have hac : ∀ x ∈ (nsC0 ++ [1000]), ad110 x = ad x := fun x hx => (had x (List.mem_append_left _ (List.mem_append_left _ (List.mem_append_left _ (List.mem_append_left _ (List.mem_append_left _ (List.mem_append_left _ (List.mem_append_left _ (List.mem_append_left _ (List.mem_append_left _ (List.mem_append_left _ (List.mem_append_left _ (List.mem_append_left _ (List.mem_append_left _ (List.mem_append_left _ (List.mem_append_left _ (List.mem_append_left _ (List.mem_append_left _ (List.mem_append_left _ (List.mem_append_left _ (List.mem_append_left _ (List.mem_append_left _ (List.mem_append_left _ (List.mem_append_left _ (List.mem_append_left _ (List.mem_append_left _ (List.mem_append_left _ (List.mem_append_left _ (List.mem_append_left _ (List.mem_append_left _ (List.mem_append_left _ (List.mem_append_left _ (List.mem_append_left _ (List.mem_append_left _ (List.mem_append_left _ (List.mem_append_left _ (List.mem_append_left _ hx))))))))))))))))))))))))))))))))))))).trans (hac x hx)
  refine m_putF (1000) 47 (1047) hx hb hts hown hin hE oc10 hM hS (by decide) rfl (by decide) rfl (by decide) (by decide) rfl rfl rfl rfl tb_1224 dX10_init_313 (fun H locs G112 eG112 hM hS => ?_)
  subst eG112
  refine lv_aload_n hx hb dX10_init_316 rfl (lv_at hl 0 rfl) ?_
  refine lv_bipush (v := (60)) hx hb dX10_init_317 (by decide) ?_
  refine m_newi (1048) (t0 := 0) hx hb hts hE hM hS hA (by decide) (by decide) rfl (by decide) rfl (fun _ _ h => h) tb_121 rfl rfl (by decide) rfl (by decide) (Nat.le_of_ble_eq_true rfl) (Nat.le_of_ble_eq_true rfl) dX10_init_319 (fun H ad113 had hM hS => ?_)
  rw [← had (1000) (by decide)] at hl
  rw [← had (1000) (by decide)]
  have hac : ∀ x ∈ (nsC0 ++ [1000]), ad113 x = ad x := fun x hx => (had x (List.mem_append_left _ (List.mem_append_left _ (List.mem_append_left _ (List.mem_append_left _ (List.mem_append_left _ (List.mem_append_left _ (List.mem_append_left _ (List.mem_append_left _ (List.mem_append_left _ (List.mem_append_left _ (List.mem_append_left _ (List.mem_append_left _ (List.mem_append_left _ (List.mem_append_left _ (List.mem_append_left _ (List.mem_append_left _ (List.mem_append_left _ (List.mem_append_left _ (List.mem_append_left _ (List.mem_append_left _ (List.mem_append_left _ (List.mem_append_left _ (List.mem_append_left _ (List.mem_append_left _ (List.mem_append_left _ (List.mem_append_left _ (List.mem_append_left _ (List.mem_append_left _ (List.mem_append_left _ (List.mem_append_left _ (List.mem_append_left _ (List.mem_append_left _ (List.mem_append_left _ (List.mem_append_left _ (List.mem_append_left _ (List.mem_append_left _ (List.mem_append_left _ hx)))))))))))))))))))))))))))))))))))))).trans (hac x hx)
  refine m_putF (1000) 48 (1048) hx hb hts hown hin hE oc10 hM hS (by decide) rfl (by decide) rfl (by decide) (by decide) rfl rfl rfl rfl tb_1225 dX10_init_321 (fun H locs G115 eG115 hM hS => ?_)
  subst eG115
  refine lv_aload_n hx hb dX10_init_324 rfl (lv_at hl 0 rfl) ?_
  refine lv_sipush (v := (576)) hx hb dX10_init_325 (by decide) ?_
  refine m_newi (1049) (t0 := 0) hx hb hts hE hM hS hA (by decide) (by decide) rfl (by decide) rfl (fun _ _ h => h) tb_121 rfl rfl (by decide) rfl (by decide) (Nat.le_of_ble_eq_true rfl) (Nat.le_of_ble_eq_true rfl) dX10_init_328 (fun H ad116 had hM hS => ?_)
  rw [← had (1000) (by decide)] at hl
  rw [← had (1000) (by decide)]
  have hac : ∀ x ∈ (nsC0 ++ [1000]), ad116 x = ad x := fun x hx => (had x (List.mem_append_left _ (List.mem_append_left _ (List.mem_append_left _ (List.mem_append_left _ (List.mem_append_left _ (List.mem_append_left _ (List.mem_append_left _ (List.mem_append_left _ (List.mem_append_left _ (List.mem_append_left _ (List.mem_append_left _ (List.mem_append_left _ (List.mem_append_left _ (List.mem_append_left _ (List.mem_append_left _ (List.mem_append_left _ (List.mem_append_left _ (List.mem_append_left _ (List.mem_append_left _ (List.mem_append_left _ (List.mem_append_left _ (List.mem_append_left _ (List.mem_append_left _ (List.mem_append_left _ (List.mem_append_left _ (List.mem_append_left _ (List.mem_append_left _ (List.mem_append_left _ (List.mem_append_left _ (List.mem_append_left _ (List.mem_append_left _ (List.mem_append_left _ (List.mem_append_left _ (List.mem_append_left _ (List.mem_append_left _ (List.mem_append_left _ (List.mem_append_left _ (List.mem_append_left _ hx))))))))))))))))))))))))))))))))))))))).trans (hac x hx)
  refine m_putF (1000) 49 (1049) hx hb hts hown hin hE oc10 hM hS (by decide) rfl (by decide) rfl (by decide) (by decide) rfl rfl rfl rfl tb_1226 dX10_init_330 (fun H locs G118 eG118 hM hS => ?_)
  subst eG118
  refine lv_aload_n hx hb dX10_init_333 rfl (lv_at hl 0 rfl) ?_
  refine lv_bipush (v := (8)) hx hb dX10_init_334 (by decide) ?_
  refine m_newi (1050) (t0 := 0) hx hb hts hE hM hS hA (by decide) (by decide) rfl (by decide) rfl (fun _ _ h => h) tb_121 rfl rfl (by decide) rfl (by decide) (Nat.le_of_ble_eq_true rfl) (Nat.le_of_ble_eq_true rfl) dX10_init_336 (fun H ad119 had hM hS => ?_)
  rw [← had (1000) (by decide)] at hl
  rw [← had (1000) (by decide)]
  have hac : ∀ x ∈ (nsC0 ++ [1000]), ad119 x = ad x := fun x hx => (had x (List.mem_append_left _ (List.mem_append_left _ (List.mem_append_left _ (List.mem_append_left _ (List.mem_append_left _ (List.mem_append_left _ (List.mem_append_left _ (List.mem_append_left _ (List.mem_append_left _ (List.mem_append_left _ (List.mem_append_left _ (List.mem_append_left _ (List.mem_append_left _ (List.mem_append_left _ (List.mem_append_left _ (List.mem_append_left _ (List.mem_append_left _ (List.mem_append_left _ (List.mem_append_left _ (List.mem_append_left _ (List.mem_append_left _ (List.mem_append_left _ (List.mem_append_left _ (List.mem_append_left _ (List.mem_append_left _ (List.mem_append_left _ (List.mem_append_left _ (List.mem_append_left _ (List.mem_append_left _ (List.mem_append_left _ (List.mem_append_left _ (List.mem_append_left _ (List.mem_append_left _ (List.mem_append_left _ (List.mem_append_left _ (List.mem_append_left _ (List.mem_append_left _ (List.mem_append_left _ (List.mem_append_left _ hx)))))))))))))))))))))))))))))))))))))))).trans (hac x hx)
  refine m_putF (1000) 50 (1050) hx hb hts hown hin hE oc10 hM hS (by decide) rfl (by decide) rfl (by decide) (by decide) rfl rfl rfl rfl tb_1227 dX10_init_338 (fun H locs G121 eG121 hM hS => ?_)
  subst eG121
  refine lv_aload_n hx hb dX10_init_341 rfl (lv_at hl 0 rfl) ?_
  refine lv_iconst (v := (-1)) hx hb dX10_init_342 (by decide) ?_
  refine m_puti (1000) 57 hx hb hts hown hE oc10 hM hS (by decide) rfl (by decide) rfl rfl rfl rfl tb_1234 dX10_init_343 (fun H locs I122 eI122 hM hS => ?_)
  subst eI122
  refine lv_aload_n hx hb dX10_init_346 rfl (lv_at hl 0 rfl) ?_
  refine lv_bipush (v := (24)) hx hb dX10_init_347 (by decide) ?_
  refine m_newi (1058) (t0 := 3) hx hb hts hE hM hS hA (by decide) (by decide) rfl (by decide) rfl (fun _ _ h => h) tb_1418 rfl rfl (by decide) rfl (by decide) (Nat.le_of_ble_eq_true rfl) (Nat.le_of_ble_eq_true rfl) dX10_init_349 (fun H ad123 had hM hS => ?_)
  rw [← had (1000) (by decide)] at hl
  rw [← had (1000) (by decide)]
  have hac : ∀ x ∈ (nsC0 ++ [1000]), ad123 x = ad x := fun x hx => (had x (List.mem_append_left _ (List.mem_append_left _ (List.mem_append_left _ (List.mem_append_left _ (List.mem_append_left _ (List.mem_append_left _ (List.mem_append_left _ (List.mem_append_left _ (List.mem_append_left _ (List.mem_append_left _ (List.mem_append_left _ (List.mem_append_left _ (List.mem_append_left _ (List.mem_append_left _ (List.mem_append_left _ (List.mem_append_left _ (List.mem_append_left _ (List.mem_append_left _ (List.mem_append_left _ (List.mem_append_left _ (List.mem_append_left _ (List.mem_append_left _ (List.mem_append_left _ (List.mem_append_left _ (List.mem_append_left _ (List.mem_append_left _ (List.mem_append_left _ (List.mem_append_left _ (List.mem_append_left _ (List.mem_append_left _ (List.mem_append_left _ (List.mem_append_left _ (List.mem_append_left _ (List.mem_append_left _ (List.mem_append_left _ (List.mem_append_left _ (List.mem_append_left _ (List.mem_append_left _ (List.mem_append_left _ (List.mem_append_left _ hx))))))))))))))))))))))))))))))))))))))))).trans (hac x hx)
  refine m_putF (1000) 58 (1058) hx hb hts hown hin hE oc10 hM hS (by decide) rfl (by decide) rfl (by decide) (by decide) rfl rfl rfl rfl tb_1235 dX10_init_351 (fun H locs G125 eG125 hM hS => ?_)
  subst eG125
  refine lv_aload_n hx hb dX10_init_354 rfl (lv_at hl 0 rfl) ?_
  refine lv_bipush (v := (24)) hx hb dX10_init_355 (by decide) ?_
  refine m_newi (1060) (t0 := 0) hx hb hts hE hM hS hA (by decide) (by decide) rfl (by decide) rfl (fun _ _ h => h) tb_121 rfl rfl (by decide) rfl (by decide) (Nat.le_of_ble_eq_true rfl) (Nat.le_of_ble_eq_true rfl) dX10_init_357 (fun H ad126 had hM hS => ?_)
  rw [← had (1000) (by decide)] at hl
  rw [← had (1000) (by decide)]
  have hac : ∀ x ∈ (nsC0 ++ [1000]), ad126 x = ad x := fun x hx => (had x (List.mem_append_left _ (List.mem_append_left _ (List.mem_append_left _ (List.mem_append_left _ (List.mem_append_left _ (List.mem_append_left _ (List.mem_append_left _ (List.mem_append_left _ (List.mem_append_left _ (List.mem_append_left _ (List.mem_append_left _ (List.mem_append_left _ (List.mem_append_left _ (List.mem_append_left _ (List.mem_append_left _ (List.mem_append_left _ (List.mem_append_left _ (List.mem_append_left _ (List.mem_append_left _ (List.mem_append_left _ (List.mem_append_left _ (List.mem_append_left _ (List.mem_append_left _ (List.mem_append_left _ (List.mem_append_left _ (List.mem_append_left _ (List.mem_append_left _ (List.mem_append_left _ (List.mem_append_left _ (List.mem_append_left _ (List.mem_append_left _ (List.mem_append_left _ (List.mem_append_left _ (List.mem_append_left _ (List.mem_append_left _ (List.mem_append_left _ (List.mem_append_left _ (List.mem_append_left _ (List.mem_append_left _ (List.mem_append_left _ (List.mem_append_left _ hx)))))))))))))))))))))))))))))))))))))))))).trans (hac x hx)
  refine m_putF (1000) 60 (1060) hx hb hts hown hin hE oc10 hM hS (by decide) rfl (by decide) rfl (by decide) (by decide) rfl rfl rfl rfl tb_1237 dX10_init_359 (fun H locs G128 eG128 hM hS => ?_)
  subst eG128
  refine lv_aload_n hx hb dX10_init_362 rfl (lv_at hl 0 rfl) ?_
  refine lv_bipush (v := (24)) hx hb dX10_init_363 (by decide) ?_
  refine m_newi (1061) (t0 := 0) hx hb hts hE hM hS hA (by decide) (by decide) rfl (by decide) rfl (fun _ _ h => h) tb_121 rfl rfl (by decide) rfl (by decide) (Nat.le_of_ble_eq_true rfl) (Nat.le_of_ble_eq_true rfl) dX10_init_365 (fun H ad129 had hM hS => ?_)
  rw [← had (1000) (by decide)] at hl
  rw [← had (1000) (by decide)]
  have hac : ∀ x ∈ (nsC0 ++ [1000]), ad129 x = ad x := fun x hx => (had x (List.mem_append_left _ (List.mem_append_left _ (List.mem_append_left _ (List.mem_append_left _ (List.mem_append_left _ (List.mem_append_left _ (List.mem_append_left _ (List.mem_append_left _ (List.mem_append_left _ (List.mem_append_left _ (List.mem_append_left _ (List.mem_append_left _ (List.mem_append_left _ (List.mem_append_left _ (List.mem_append_left _ (List.mem_append_left _ (List.mem_append_left _ (List.mem_append_left _ (List.mem_append_left _ (List.mem_append_left _ (List.mem_append_left _ (List.mem_append_left _ (List.mem_append_left _ (List.mem_append_left _ (List.mem_append_left _ (List.mem_append_left _ (List.mem_append_left _ (List.mem_append_left _ (List.mem_append_left _ (List.mem_append_left _ (List.mem_append_left _ (List.mem_append_left _ (List.mem_append_left _ (List.mem_append_left _ (List.mem_append_left _ (List.mem_append_left _ (List.mem_append_left _ (List.mem_append_left _ (List.mem_append_left _ (List.mem_append_left _ (List.mem_append_left _ (List.mem_append_left _ hx))))))))))))))))))))))))))))))))))))))))))).trans (hac x hx)
  refine m_putF (1000) 61 (1061) hx hb hts hown hin hE oc10 hM hS (by decide) rfl (by decide) rfl (by decide) (by decide) rfl rfl rfl rfl tb_1238 dX10_init_367 (fun H locs G131 eG131 hM hS => ?_)
  subst eG131
  refine lv_aload_n hx hb dX10_init_370 rfl (lv_at hl 0 rfl) ?_
  refine lv_bipush (v := (24)) hx hb dX10_init_371 (by decide) ?_
  refine m_newi (1062) (t0 := 0) hx hb hts hE hM hS hA (by decide) (by decide) rfl (by decide) rfl (fun _ _ h => h) tb_121 rfl rfl (by decide) rfl (by decide) (Nat.le_of_ble_eq_true rfl) (Nat.le_of_ble_eq_true rfl) dX10_init_373 (fun H ad132 had hM hS => ?_)
  rw [← had (1000) (by decide)] at hl
  rw [← had (1000) (by decide)]
  have hac : ∀ x ∈ (nsC0 ++ [1000]), ad132 x = ad x := fun x hx => (had x (List.mem_append_left _ (List.mem_append_left _ (List.mem_append_left _ (List.mem_append_left _ (List.mem_append_left _ (List.mem_append_left _ (List.mem_append_left _ (List.mem_append_left _ (List.mem_append_left _ (List.mem_append_left _ (List.mem_append_left _ (List.mem_append_left _ (List.mem_append_left _ (List.mem_append_left _ (List.mem_append_left _ (List.mem_append_left _ (List.mem_append_left _ (List.mem_append_left _ (List.mem_append_left _ (List.mem_append_left _ (List.mem_append_left _ (List.mem_append_left _ (List.mem_append_left _ (List.mem_append_left _ (List.mem_append_left _ (List.mem_append_left _ (List.mem_append_left _ (List.mem_append_left _ (List.mem_append_left _ (List.mem_append_left _ (List.mem_append_left _ (List.mem_append_left _ (List.mem_append_left _ (List.mem_append_left _ (List.mem_append_left _ (List.mem_append_left _ (List.mem_append_left _ (List.mem_append_left _ (List.mem_append_left _ (List.mem_append_left _ (List.mem_append_left _ (List.mem_append_left _ (List.mem_append_left _ hx)))))))))))))))))))))))))))))))))))))))))))).trans (hac x hx)
  refine m_putF (1000) 62 (1062) hx hb hts hown hin hE oc10 hM hS (by decide) rfl (by decide) rfl (by decide) (by decide) rfl rfl rfl rfl tb_1239 dX10_init_375 (fun H locs G134 eG134 hM hS => ?_)
  subst eG134
  refine lv_aload_n hx hb dX10_init_378 rfl (lv_at hl 0 rfl) ?_
  refine lv_bipush (v := (8)) hx hb dX10_init_379 (by decide) ?_
  refine m_newi (1064) (t0 := 0) hx hb hts hE hM hS hA (by decide) (by decide) rfl (by decide) rfl (fun _ _ h => h) tb_121 rfl rfl (by decide) rfl (by decide) (Nat.le_of_ble_eq_true rfl) (Nat.le_of_ble_eq_true rfl) dX10_init_381 (fun H ad135 had hM hS => ?_)
  rw [← had (1000) (by decide)] at hl
  rw [← had (1000) (by decide)]
  have hac : ∀ x ∈ (nsC0 ++ [1000]), ad135 x = ad x := fun x hx => (had x (List.mem_append_left _ (List.mem_append_left _ (List.mem_append_left _ (List.mem_append_left _ (List.mem_append_left _ (List.mem_append_left _ (List.mem_append_left _ (List.mem_append_left _ (List.mem_append_left _ (List.mem_append_left _ (List.mem_append_left _ (List.mem_append_left _ (List.mem_append_left _ (List.mem_append_left _ (List.mem_append_left _ (List.mem_append_left _ (List.mem_append_left _ (List.mem_append_left _ (List.mem_append_left _ (List.mem_append_left _ (List.mem_append_left _ (List.mem_append_left _ (List.mem_append_left _ (List.mem_append_left _ (List.mem_append_left _ (List.mem_append_left _ (List.mem_append_left _ (List.mem_append_left _ (List.mem_append_left _ (List.mem_append_left _ (List.mem_append_left _ (List.mem_append_left _ (List.mem_append_left _ (List.mem_append_left _ (List.mem_append_left _ (List.mem_append_left _ (List.mem_append_left _ (List.mem_append_left _ (List.mem_append_left _ (List.mem_append_left _ (List.mem_append_left _ (List.mem_append_left _ (List.mem_append_left _ (List.mem_append_left _ hx))))))))))))))))))))))))))))))))))))))))))))).trans (hac x hx)
  refine m_putF (1000) 64 (1064) hx hb hts hown hin hE oc10 hM hS (by decide) rfl (by decide) rfl (by decide) (by decide) rfl rfl rfl rfl tb_1241 dX10_init_383 (fun H locs G137 eG137 hM hS => ?_)
  subst eG137
  refine lv_aload_n hx hb dX10_init_386 rfl (lv_at hl 0 rfl) ?_
  refine lv_bipush (v := (8)) hx hb dX10_init_387 (by decide) ?_
  refine m_newi (1066) (t0 := 0) hx hb hts hE hM hS hA (by decide) (by decide) rfl (by decide) rfl (fun _ _ h => h) tb_121 rfl rfl (by decide) rfl (by decide) (Nat.le_of_ble_eq_true rfl) (Nat.le_of_ble_eq_true rfl) dX10_init_389 (fun H ad138 had hM hS => ?_)
  rw [← had (1000) (by decide)] at hl
  rw [← had (1000) (by decide)]
  have hac : ∀ x ∈ (nsC0 ++ [1000]), ad138 x = ad x := fun x hx => (had x (List.mem_append_left _ (List.mem_append_left _ (List.mem_append_left _ (List.mem_append_left _ (List.mem_append_left _ (List.mem_append_left _ (List.mem_append_left _ (List.mem_append_left _ (List.mem_append_left _ (List.mem_append_left _ (List.mem_append_left _ (List.mem_append_left _ (List.mem_append_left _ (List.mem_append_left _ (List.mem_append_left _ (List.mem_append_left _ (List.mem_append_left _ (List.mem_append_left _ (List.mem_append_left _ (List.mem_append_left _ (List.mem_append_left _ (List.mem_append_left _ (List.mem_append_left _ (List.mem_append_left _ (List.mem_append_left _ (List.mem_append_left _ (List.mem_append_left _ (List.mem_append_left _ (List.mem_append_left _ (List.mem_append_left _ (List.mem_append_left _ (List.mem_append_left _ (List.mem_append_left _ (List.mem_append_left _ (List.mem_append_left _ (List.mem_append_left _ (List.mem_append_left _ (List.mem_append_left _ (List.mem_append_left _ (List.mem_append_left _ (List.mem_append_left _ (List.mem_append_left _ (List.mem_append_left _ (List.mem_append_left _ (List.mem_append_left _ hx)))))))))))))))))))))))))))))))))))))))))))))).trans (hac x hx)
  refine m_putF (1000) 66 (1066) hx hb hts hown hin hE oc10 hM hS (by decide) rfl (by decide) rfl (by decide) (by decide) rfl rfl rfl rfl tb_1243 dX10_init_391 (fun H locs G140 eG140 hM hS => ?_)
  subst eG140
  refine lv_aload_n hx hb dX10_init_394 rfl (lv_at hl 0 rfl) ?_
  refine lv_bipush (v := (24)) hx hb dX10_init_395 (by decide) ?_
  refine m_newi (1067) (t0 := 0) hx hb hts hE hM hS hA (by decide) (by decide) rfl (by decide) rfl (fun _ _ h => h) tb_121 rfl rfl (by decide) rfl (by decide) (Nat.le_of_ble_eq_true rfl) (Nat.le_of_ble_eq_true rfl) dX10_init_397 (fun H ad141 had hM hS => ?_)
  rw [← had (1000) (by decide)] at hl
  rw [← had (1000) (by decide)]
  have hac : ∀ x ∈ (nsC0 ++ [1000]), ad141 x = ad x := fun x hx => (had x (List.mem_append_left _ (List.mem_append_left _ (List.mem_append_left _ (List.mem_append_left _ (List.mem_append_left _ (List.mem_append_left _ (List.mem_append_left _ (List.mem_append_left _ (List.mem_append_left _ (List.mem_append_left _ (List.mem_append_left _ (List.mem_append_left _ (List.mem_append_left _ (List.mem_append_left _ (List.mem_append_left _ (List.mem_append_left _ (List.mem_append_left _ (List.mem_append_left _ (List.mem_append_left _ (List.mem_append_left _ (List.mem_append_left _ (List.mem_append_left _ (List.mem_append_left _ (List.mem_append_left _ (List.mem_append_left _ (List.mem_append_left _ (List.mem_append_left _ (List.mem_append_left _ (List.mem_append_left _ (List.mem_append_left _ (List.mem_append_left _ (List.mem_append_left _ (List.mem_append_left _ (List.mem_append_left _ (List.mem_append_left _ (List.mem_append_left _ (List.mem_append_left _ (List.mem_append_left _ (List.mem_append_left _ (List.mem_append_left _ (List.mem_append_left _ (List.mem_append_left _ (List.mem_append_left _ (List.mem_append_left _ (List.mem_append_left _ (List.mem_append_left _ hx))))))))))))))))))))))))))))))))))))))))))))))).trans (hac x hx)
  refine m_putF (1000) 67 (1067) hx hb hts hown hin hE oc10 hM hS (by decide) rfl (by decide) rfl (by decide) (by decide) rfl rfl rfl rfl tb_1244 dX10_init_399 (fun H locs G143 eG143 hM hS => ?_)
  subst eG143
  refine lv_aload_n hx hb dX10_init_402 rfl (lv_at hl 0 rfl) ?_
  refine lv_bipush (v := (24)) hx hb dX10_init_403 (by decide) ?_
  refine m_newi (1068) (t0 := 0) hx hb hts hE hM hS hA (by decide) (by decide) rfl (by decide) rfl (fun _ _ h => h) tb_121 rfl rfl (by decide) rfl (by decide) (Nat.le_of_ble_eq_true rfl) (Nat.le_of_ble_eq_true rfl) dX10_init_405 (fun H ad144 had hM hS => ?_)
  rw [← had (1000) (by decide)] at hl
  rw [← had (1000) (by decide)]
  have hac : ∀ x ∈ (nsC0 ++ [1000]), ad144 x = ad x := fun x hx => (had x (List.mem_append_left _ (List.mem_append_left _ (List.mem_append_left _ (List.mem_append_left _ (List.mem_append_left _ (List.mem_append_left _ (List.mem_append_left _ (List.mem_append_left _ (List.mem_append_left _ (List.mem_append_left _ (List.mem_append_left _ (List.mem_append_left _ (List.mem_append_left _ (List.mem_append_left _ (List.mem_append_left _ (List.mem_append_left _ (List.mem_append_left _ (List.mem_append_left _ (List.mem_append_left _ (List.mem_append_left _ (List.mem_append_left _ (List.mem_append_left _ (List.mem_append_left _ (List.mem_append_left _ (List.mem_append_left _ (List.mem_append_left _ (List.mem_append_left _ (List.mem_append_left _ (List.mem_append_left _ (List.mem_append_left _ (List.mem_append_left _ (List.mem_append_left _ (List.mem_append_left _ (List.mem_append_left _ (List.mem_append_left _ (List.mem_append_left _ (List.mem_append_left _ (List.mem_append_left _ (List.mem_append_left _ (List.mem_append_left _ (List.mem_append_left _ (List.mem_append_left _ (List.mem_append_left _ (List.mem_append_left _ (List.mem_append_left _ (List.mem_append_left _ (List.mem_append_left _ hx)))))))))))))))))))))))))))))))))))))))))))))))).trans (hac x hx)
  refine m_putF (1000) 68 (1068) hx hb hts hown hin hE oc10 hM hS (by decide) rfl (by decide) rfl (by decide) (by decide) rfl rfl rfl rfl tb_1245 dX10_init_407 (fun H locs G146 eG146 hM hS => ?_)
  subst eG146
  refine lv_aload_n hx hb dX10_init_410 rfl (lv_at hl 0 rfl) ?_
  refine lv_bipush (v := (24)) hx hb dX10_init_411 (by decide) ?_
  refine m_newi (1069) (t0 := 0) hx hb hts hE hM hS hA (by decide) (by decide) rfl (by decide) rfl (fun _ _ h => h) tb_121 rfl rfl (by decide) rfl (by decide) (Nat.le_of_ble_eq_true rfl) (Nat.le_of_ble_eq_true rfl) dX10_init_413 (fun H ad147 had hM hS => ?_)
  rw [← had (1000) (by decide)] at hl
  rw [← had (1000) (by decide)]
  have hac : ∀ x ∈ (nsC0 ++ [1000]), ad147 x = ad x := fun x hx => (had x (List.mem_append_left _ (List.mem_append_left _ (List.mem_append_left _ (List.mem_append_left _ (List.mem_append_left _ (List.mem_append_left _ (List.mem_append_left _ (List.mem_append_left _ (List.mem_append_left _ (List.mem_append_left _ (List.mem_append_left _ (List.mem_append_left _ (List.mem_append_left _ (List.mem_append_left _ (List.mem_append_left _ (List.mem_append_left _ (List.mem_append_left _ (List.mem_append_left _ (List.mem_append_left _ (List.mem_append_left _ (List.mem_append_left _ (List.mem_append_left _ (List.mem_append_left _ (List.mem_append_left _ (List.mem_append_left _ (List.mem_append_left _ (List.mem_append_left _ (List.mem_append_left _ (List.mem_append_left _ (List.mem_append_left _ (List.mem_append_left _ (List.mem_append_left _ (List.mem_append_left _ (List.mem_append_left _ (List.mem_append_left _ (List.mem_append_left _ (List.mem_append_left _ (List.mem_append_left _ (List.mem_append_left _ (List.mem_append_left _ (List.mem_append_left _ (List.mem_append_left _ (List.mem_append_left _ (List.mem_append_left _ (List.mem_append_left _ (List.mem_append_left _ (List.mem_append_left _ (List.mem_append_left _ hx))))))))))))))))))))))))))))))))))))))))))))))))).trans (hac x hx)
  refine m_putF (1000) 69 (1069) hx hb hts hown hin hE oc10 hM hS (by decide) rfl (by decide) rfl (by decide) (by decide) rfl rfl rfl rfl tb_1246 dX10_init_415 (fun H locs G149 eG149 hM hS => ?_)
  subst eG149
  refine lv_aload_n hx hb dX10_init_418 rfl (lv_at hl 0 rfl) ?_
  refine lv_bipush (v := (8)) hx hb dX10_init_419 (by decide) ?_
  refine m_newi (1070) (t0 := 0) hx hb hts hE hM hS hA (by decide) (by decide) rfl (by decide) rfl (fun _ _ h => h) tb_121 rfl rfl (by decide) rfl (by decide) (Nat.le_of_ble_eq_true rfl) (Nat.le_of_ble_eq_true rfl) dX10_init_421 (fun H ad150 had hM hS => ?_)
  rw [← had (1000) (by decide)] at hl
  rw [← had (1000) (by decide)]
  have hac : ∀ x ∈ (nsC0 ++ [1000]), ad150 x = ad x := fun x hx => (had x (List.mem_append_left _ (List.mem_append_left _ (List.mem_append_left _ (List.mem_append_left _ (List.mem_append_left _ (List.mem_append_left _ (List.mem_append_left _ (List.mem_append_left _ (List.mem_append_left _ (List.mem_append_left _ (List.mem_append_left _ (List.mem_append_left _ (List.mem_append_left _ (List.mem_append_left _ (List.mem_append_left _ (List.mem_append_left _ (List.mem_append_left _ (List.mem_append_left _ (List.mem_append_left _ (List.mem_append_left _ (List.mem_append_left _ (List.mem_append_left _ (List.mem_append_left _ (List.mem_append_left _ (List.mem_append_left _ (List.mem_append_left _ (List.mem_append_left _ (List.mem_append_left _ (List.mem_append_left _ (List.mem_append_left _ (List.mem_append_left _ (List.mem_append_left _ (List.mem_append_left _ (List.mem_append_left _ (List.mem_append_left _ (List.mem_append_left _ (List.mem_append_left _ (List.mem_append_left _ (List.mem_append_left _ (List.mem_append_left _ (List.mem_append_left _ (List.mem_append_left _ (List.mem_append_left _ (List.mem_append_left _ (List.mem_append_left _ (List.mem_append_left _ (List.mem_append_left _ (List.mem_append_left _ (List.mem_append_left _ hx)))))))))))))))))))))))))))))))))))))))))))))))))).trans (hac x hx)
  refine m_putF (1000) 70 (1070) hx hb hts hown hin hE oc10 hM hS (by decide) rfl (by decide) rfl (by decide) (by decide) rfl rfl rfl rfl tb_1247 dX10_init_423 (fun H locs G152 eG152 hM hS => ?_)
  subst eG152
  refine lv_aload_n hx hb dX10_init_426 rfl (lv_at hl 0 rfl) ?_
  refine lv_iconst (v := (4)) hx hb dX10_init_427 (by decide) ?_
  refine m_newi (1071) (t0 := 0) hx hb hts hE hM hS hA (by decide) (by decide) rfl (by decide) rfl (fun _ _ h => h) tb_121 rfl rfl (by decide) rfl (by decide) (Nat.le_of_ble_eq_true rfl) (Nat.le_of_ble_eq_true rfl) dX10_init_428 (fun H ad153 had hM hS => ?_)
  rw [← had (1000) (by decide)] at hl
  rw [← had (1000) (by decide)]
  have hac : ∀ x ∈ (nsC0 ++ [1000]), ad153 x = ad x := fun x hx => (had x (List.mem_append_left _ (List.mem_append_left _ (List.mem_append_left _ (List.mem_append_left _ (List.mem_append_left _ (List.mem_append_left _ (List.mem_append_left _ (List.mem_append_left _ (List.mem_append_left _ (List.mem_append_left _ (List.mem_append_left _ (List.mem_append_left _ (List.mem_append_left _ (List.mem_append_left _ (List.mem_append_left _ (List.mem_append_left _ (List.mem_append_left _ (List.mem_append_left _ (List.mem_append_left _ (List.mem_append_left _ (List.mem_append_left _ (List.mem_append_left _ (List.mem_append_left _ (List.mem_append_left _ (List.mem_append_left _ (List.mem_append_left _ (List.mem_append_left _ (List.mem_append_left _ (List.mem_append_left _ (List.mem_append_left _ (List.mem_append_left _ (List.mem_append_left _ (List.mem_append_left _ (List.mem_append_left _ (List.mem_append_left _ (List.mem_append_left _ (List.mem_append_left _ (List.mem_append_left _ (List.mem_append_left _ (List.mem_append_left _ (List.mem_append_left _ (List.mem_append_left _ (List.mem_append_left _ (List.mem_append_left _ (List.mem_append_left _ (List.mem_append_left _ (List.mem_append_left _ (List.mem_append_left _ (List.mem_append_left _ (List.mem_append_left _ hx))))))))))))))))))))))))))))))))))))))))))))))))))).trans (hac x hx)
  refine m_putF (1000) 71 (1071) hx hb hts hown hin hE oc10 hM hS (by decide) rfl (by decide) rfl (by decide) (by decide) rfl rfl rfl rfl tb_1248 dX10_init_430 (fun H locs G155 eG155 hM hS => ?_)
  subst eG155
  refine lv_aload_n hx hb dX10_init_433 rfl (lv_at hl 0 rfl) ?_
  refine lv_iconst (v := (4)) hx hb dX10_init_434 (by decide) ?_
  refine m_newi (1072) (t0 := 0) hx hb hts hE hM hS hA (by decide) (by decide) rfl (by decide) rfl (fun _ _ h => h) tb_121 rfl rfl (by decide) rfl (by decide) (Nat.le_of_ble_eq_true rfl) (Nat.le_of_ble_eq_true rfl) dX10_init_435 (fun H ad156 had hM hS => ?_)
  rw [← had (1000) (by decide)] at hl
  rw [← had (1000) (by decide)]
  have hac : ∀ x ∈ (nsC0 ++ [1000]), ad156 x = ad x := fun x hx => (had x (List.mem_append_left _ (List.mem_append_left _ (List.mem_append_left _ (List.mem_append_left _ (List.mem_append_left _ (List.mem_append_left _ (List.mem_append_left _ (List.mem_append_left _ (List.mem_append_left _ (List.mem_append_left _ (List.mem_append_left _ (List.mem_append_left _ (List.mem_append_left _ (List.mem_append_left _ (List.mem_append_left _ (List.mem_append_left _ (List.mem_append_left _ (List.mem_append_left _ (List.mem_append_left _ (List.mem_append_left _ (List.mem_append_left _ (List.mem_append_left _ (List.mem_append_left _ (List.mem_append_left _ (List.mem_append_left _ (List.mem_append_left _ (List.mem_append_left _ (List.mem_append_left _ (List.mem_append_left _ (List.mem_append_left _ (List.mem_append_left _ (List.mem_append_left _ (List.mem_append_left _ (List.mem_append_left _ (List.mem_append_left _ (List.mem_append_left _ (List.mem_append_left _ (List.mem_append_left _ (List.mem_append_left _ (List.mem_append_left _ (List.mem_append_left _ (List.mem_append_left _ (List.mem_append_left _ (List.mem_append_left _ (List.mem_append_left _ (List.mem_append_left _ (List.mem_append_left _ (List.mem_append_left _ (List.mem_append_left _ (List.mem_append_left _ (List.mem_append_left _ hx)))))))))))))))))))))))))))))))))))))))))))))))))))).trans (hac x hx)
  refine m_putF (1000) 72 (1072) hx hb hts hown hin hE oc10 hM hS (by decide) rfl (by decide) rfl (by decide) (by decide) rfl rfl rfl rfl tb_1249 dX10_init_437 (fun H locs G158 eG158 hM hS => ?_)
  subst eG158
  refine lv_aload_n hx hb dX10_init_440 rfl (lv_at hl 0 rfl) ?_
  refine lv_iconst (v := (5)) hx hb dX10_init_441 (by decide) ?_
  refine m_newi (1073) (t0 := 0) hx hb hts hE hM hS hA (by decide) (by decide) rfl (by decide) rfl (fun _ _ h => h) tb_121 rfl rfl (by decide) rfl (by decide) (Nat.le_of_ble_eq_true rfl) (Nat.le_of_ble_eq_true rfl) dX10_init_442 (fun H ad159 had hM hS => ?_)
  rw [← had (1000) (by decide)] at hl
  rw [← had (1000) (by decide)]
  have hac : ∀ x ∈ (nsC0 ++ [1000]), ad159 x = ad x := fun x hx => (had x (List.mem_append_left _ (List.mem_append_left _ (List.mem_append_left _ (List.mem_append_left _ (List.mem_append_left _ (List.mem_append_left _ (List.mem_append_left _ (List.mem_append_left _ (List.mem_append_left _ (List.mem_append_left _ (List.mem_append_left _ (List.mem_append_left _ (List.mem_append_left _ (List.mem_append_left _ (List.mem_append_left _ (List.mem_append_left _ (List.mem_append_left _ (List.mem_append_left _ (List.mem_append_left _ (List.mem_append_left _ (List.mem_append_left _ (List.mem_append_left _ (List.mem_append_left _ (List.mem_append_left _ (List.mem_append_left _ (List.mem_append_left _ (List.mem_append_left _ (List.mem_append_left _ (List.mem_append_left _ (List.mem_append_left _ (List.mem_append_left _ (List.mem_append_left _ (List.mem_append_left _ (List.mem_append_left _ (List.mem_append_left _ (List.mem_append_left _ (List.mem_append_left _ (List.mem_append_left _ (List.mem_append_left _ (List.mem_append_left _ (List.mem_append_left _ (List.mem_append_left _ (List.mem_append_left _ (List.mem_append_left _ (List.mem_append_left _ (List.mem_append_left _ (List.mem_append_left _ (List.mem_append_left _ (List.mem_append_left _ (List.mem_append_left _ (List.mem_append_left _ (List.mem_append_left _ hx))))))))))))))))))))))))))))))))))))))))))))))))))))).trans (hac x hx)
  refine m_putF (1000) 73 (1073) hx hb hts hown hin hE oc10 hM hS (by decide) rfl (by decide) rfl (by decide) (by decide) rfl rfl rfl rfl tb_1250 dX10_init_444 (fun H locs G161 eG161 hM hS => ?_)
  subst eG161
  refine lv_aload_n hx hb dX10_init_447 rfl (lv_at hl 0 rfl) ?_
  refine lv_sipush (v := (10880)) hx hb dX10_init_448 (by decide) ?_
  refine m_newi (1076) (t0 := 0) hx hb hts hE hM hS hA (by decide) (by decide) rfl (by decide) rfl (fun _ _ h => h) tb_121 rfl rfl (by decide) rfl (by decide) (Nat.le_of_ble_eq_true rfl) (Nat.le_of_ble_eq_true rfl) dX10_init_451 (fun H ad162 had hM hS => ?_)
  rw [← had (1000) (by decide)] at hl
  rw [← had (1000) (by decide)]
  have hac : ∀ x ∈ (nsC0 ++ [1000]), ad162 x = ad x := fun x hx => (had x (List.mem_append_left _ (List.mem_append_left _ (List.mem_append_left _ (List.mem_append_left _ (List.mem_append_left _ (List.mem_append_left _ (List.mem_append_left _ (List.mem_append_left _ (List.mem_append_left _ (List.mem_append_left _ (List.mem_append_left _ (List.mem_append_left _ (List.mem_append_left _ (List.mem_append_left _ (List.mem_append_left _ (List.mem_append_left _ (List.mem_append_left _ (List.mem_append_left _ (List.mem_append_left _ (List.mem_append_left _ (List.mem_append_left _ (List.mem_append_left _ (List.mem_append_left _ (List.mem_append_left _ (List.mem_append_left _ (List.mem_append_left _ (List.mem_append_left _ (List.mem_append_left _ (List.mem_append_left _ (List.mem_append_left _ (List.mem_append_left _ (List.mem_append_left _ (List.mem_append_left _ (List.mem_append_left _ (List.mem_append_left _ (List.mem_append_left _ (List.mem_append_left _ (List.mem_append_left _ (List.mem_append_left _ (List.mem_append_left _ (List.mem_append_left _ (List.mem_append_left _ (List.mem_append_left _ (List.mem_append_left _ (List.mem_append_left _ (List.mem_append_left _ (List.mem_append_left _ (List.mem_append_left _ (List.mem_append_left _ (List.mem_append_left _ (List.mem_append_left _ (List.mem_append_left _ (List.mem_append_left _ hx)))))))))))))))))))))))))))))))))))))))))))))))))))))).trans (hac x hx)
  refine m_putF (1000) 76 (1076) hx hb hts hown hin hE oc10 hM hS (by decide) rfl (by decide) rfl (by decide) (by decide) rfl rfl rfl rfl tb_1253 dX10_init_453 (fun H locs G164 eG164 hM hS => ?_)
  subst eG164
  refine lv_aload_n hx hb dX10_init_456 rfl (lv_at hl 0 rfl) ?_
  refine lv_iconst (v := (4)) hx hb dX10_init_457 (by decide) ?_
  refine m_newi (1077) (t0 := 3) hx hb hts hE hM hS hA (by decide) (by decide) rfl (by decide) rfl (fun _ _ h => h) tb_1418 rfl rfl (by decide) rfl (by decide) (Nat.le_of_ble_eq_true rfl) (Nat.le_of_ble_eq_true rfl) dX10_init_458 (fun H ad165 had hM hS => ?_)
  rw [← had (1000) (by decide)] at hl
  rw [← had (1000) (by decide)]
  have hac : ∀ x ∈ (nsC0 ++ [1000]), ad165 x = ad x := fun x hx => (had x (List.mem_append_left _ (List.mem_append_left _ (List.mem_append_left _ (List.mem_append_left _ (List.mem_append_left _ (List.mem_append_left _ (List.mem_append_left _ (List.mem_append_left _ (List.mem_append_left _ (List.mem_append_left _ (List.mem_append_left _ (List.mem_append_left _ (List.mem_append_left _ (List.mem_append_left _ (List.mem_append_left _ (List.mem_append_left _ (List.mem_append_left _ (List.mem_append_left _ (List.mem_append_left _ (List.mem_append_left _ (List.mem_append_left _ (List.mem_append_left _ (List.mem_append_left _ (List.mem_append_left _ (List.mem_append_left _ (List.mem_append_left _ (List.mem_append_left _ (List.mem_append_left _ (List.mem_append_left _ (List.mem_append_left _ (List.mem_append_left _ (List.mem_append_left _ (List.mem_append_left _ (List.mem_append_left _ (List.mem_append_left _ (List.mem_append_left _ (List.mem_append_left _ (List.mem_append_left _ (List.mem_append_left _ (List.mem_append_left _ (List.mem_append_left _ (List.mem_append_left _ (List.mem_append_left _ (List.mem_append_left _ (List.mem_append_left _ (List.mem_append_left _ (List.mem_append_left _ (List.mem_append_left _ (List.mem_append_left _ (List.mem_append_left _ (List.mem_append_left _ (List.mem_append_left _ (List.mem_append_left _ (List.mem_append_left _ hx))))))))))))))))))))))))))))))))))))))))))))))))))))))).trans (hac x hx)
  refine m_putF (1000) 77 (1077) hx hb hts hown hin hE oc10 hM hS (by decide) rfl (by decide) rfl (by decide) (by decide) rfl rfl rfl rfl tb_1254 dX10_init_460 (fun H locs G167 eG167 hM hS => ?_)
  subst eG167
  exact m_vret hx hb hr hlocks hM hS (Nat.le_of_ble_eq_true rfl) (Nat.le_of_ble_eq_true rfl) ⟨_, rfl, hac⟩ dX10_init_463
theorem sgc0 : SGC nsA0 gA0 := ⟨by decide, by decide⟩
theorem sgm0 : SGM nsA0 gA0 := ⟨by decide, by decide⟩
end
section
theorem tn_s {i t : Int32} (h : 0 ≤ i.toInt) (ht : t.toInt = i.toInt + 1) : t.toNatClampNeg = i.toNatClampNeg + 1 := by
  have h1 := tn h
  have h2 := tn (i := t) (by omega)
  omega
theorem tn_n {i : Int32} {n : Nat} (h : i.toInt = n) : i.toNatClampNeg = n := by
  have h1 := tn (i := i) (by omega)
  omega
-- a row of one number
def fillI (I : MI) (x N : Nat) (v : Int32) : MI := fun m j => if m = x ∧ j < N then v else I m j
theorem fillI_0 (I : MI) (x : Nat) (v : Int32) : fillI I x 0 v = I := by
  funext m j
  simp [fillI]
theorem fillI_s (I : MI) (x k : Nat) (v : Int32) : u2 (fillI I x k v) x k v = fillI I x (k + 1) v := by
  funext m j
  simp only [u2_v, fillI]
  by_cases h1 : m = x
  · by_cases h2 : j = k
    · simp [h1, h2]
    · simp only [h1, h2, true_and, and_false, if_false]
      have : (j < k) = (j < k + 1) := propext ⟨fun h => by omega, fun h => by omega⟩
      simp [this]
  · simp [h1]
theorem fillI_ne {I : MI} {x y k j : Nat} {v w : Int32} (h : x ≠ y) : u2 (fillI I x k v) y j w = fillI (u2 I y j w) x k v := by
  funext m i
  simp only [u2_v, fillI]
  by_cases h1 : m = y
  · have h2 : ¬ m = x := fun e => h (e.symm.trans h1)
    simp [h1, Ne.symm h]
  · simp [h1]
-- numbers carried from row to row
def cpyI (I : MI) (x y : Nat) (sp dp n : Int32) : MI := fun m => if m = y then va_cpy (I x) (I y) sp.toNatClampNeg dp.toNatClampNeg n.toNatClampNeg else I m
theorem EV.str {D : va_G} {A : Nat → Prop} {U : State} {H : Heap} (h : EV D A U H) (i : Nat) {q : String × Nat × String × List Int32} (hq : sq[i]? = some q) : SC D i q A U H := h.2.2.2.2.1 i q hq
section MR2
variable {p : Program} {l : Launch} {e : Env} {R : Room} {s : State} {m : MethodId} {args : Array Value} {below : List Frame} {meth : Method} {c : Code} {H : Heap} {locs : List Loc} {cells slots : Nat} {Q : State → Prop}
variable {cc : ByteArray} {pc : Nat} {ls : Array Slot} {rest : List Value} {D : va_G} {A : Nat → Prop} {ad : Nat → Nat} {ns : List Nat} {I : MI} {L : ML} {G : MG}
variable {own : String} {index : Nat}
theorem m_ldcwS {tx : String} {q : Nat} (hx : p.tables.exec = Jvm.exec) (hb : c.code = cc) (hown : s.vm.findClass own = some m.cls) (hZ : vk_R own index tx q s) (hdg : decode cc pc = .ok (.ldc_w index, 3))
    (kk : W p l e R s m args below meth c H locs cells slots Q (F0 m (pc + 3) ls (.ref q :: rest))) : W p l e R s m args below meth c H locs cells slots Q (F0 m pc ls rest) := by
  intro T hT X
  obtain ⟨t, a1, b1⟩ := kk T hT X
  refine ⟨t, ?_, b1⟩
  obtain ⟨k, cf, i, a', hk, hcf, hcp, -, hr, hev'⟩ := Cond.stringRef_spec hown hZ.1
  cases hZ.2.symm.trans hev'
  obtain ⟨k', hk', he⟩ := X.warmed.alike.2.2 _ _ hk
  have hr' : k'.resolved[index]? = some (some (.string q)) := by
    rcases X.warmed.entry hk hk' index with h | ⟨h, -⟩
    · rw [h]; exact hr
    · rw [hr] at h; cases h
  have hdg' : decode c.code (F0 m pc ls rest).pc = .ok (.ldc_w index, 3) := by rw [hb]; exact hdg
  jvm_step X.here [hx, hdg', ldc_w.wp_string (e := e) (s := T) (f := F0 m pc ls rest) X.here.top hk' (by rw [he]; exact hcf) hcp hr']
  exact a1
theorem cpy_map {x y N0 N1 : Nat} {sp dp n : Int32} {H1 : Heap} {q1 : Nat} {k1 : Nat} (hM : Mem D A ad ns I L G H) (hy : y ∈ ns) (hky : kd y = (k1, N1)) (hk1 : k1 = 20 ∨ k1 = 21 ∨ k1 = 23) (hq1 : ns[q1]? = some y)
    (hP : va_P D cls ((ns.map (cf D ad I L G)).set q1 (ad y, .inl (D.1 k1, N1, .inl (va_cpy (I x) (I y) sp.toNatClampNeg dp.toNatClampNeg n.toNatClampNeg)))) H1) (hD : va_D A ((ns.map (cf D ad I L G)).set q1 (ad y, .inl (D.1 k1, N1, .inl (va_cpy (I x) (I y) sp.toNatClampNeg dp.toNatClampNeg n.toNatClampNeg))))) : Mem D A ad ns (cpyI I x y sp dp n) L G H1 := by
  have hne : ∀ m', m' ≠ y → cpyI I x y sp dp n m' = I m' := fun m' h => if_neg h
  have e1 : (ad y, (.inl (D.1 k1, N1, .inl (va_cpy (I x) (I y) sp.toNatClampNeg dp.toNatClampNeg n.toNatClampNeg)) : va_E)) = cf D ad (cpyI I x y sp dp n) L G y := by rw [cf, cE_int hky hk1, show cpyI I x y sp dp n y = va_cpy (I x) (I y) sp.toNatClampNeg dp.toNatClampNeg n.toNatClampNeg from if_pos rfl]
  have e2 : (ns.map (cf D ad I L G)).set q1 (cf D ad (cpyI I x y sp dp n) L G y) = ns.map (cf D ad (cpyI I x y sp dp n) L G) := map_set hM.2.2.1 hq1 (fun m' _ hm => cf_congr rfl (hne m' hm) rfl rfl (fun _ _ => rfl))
  rw [e1, e2] at hP hD
  exact ⟨hP, hD, hM.2.2.1, hM.2.2.2.1, fun m' hm' j => by rw [hne m' (ne_of hy hm')]; exact hM.2.2.2.2 m' hm' j⟩
theorem m_copyi (x y : Nat) {N0 N1 : Nat} {sp dp n : Int32} (hx : p.tables.exec = Jvm.exec) (hb : c.code = cc) (hml : c.maxLocals = ls.size) (hown : s.vm.findClass own = some m.cls) (hE : EV D A s s.heap) (hM : Mem D A ad ns I L G H) (hS : va_S A s.heap H locs) (hxn : x ∈ ns) (hkx : kd x = (20, N0)) (hyn : y ∈ ns) (hky : kd y = (20, N1)) (hlink : (Cond.methodLink own index arraycopyName).before args s = true) (hnat : (Cond.native arraycopyName).before args s = true) (hstat : (Cond.static arraycopyName).before args s = true) (hini : (Cond.initialized "java/lang/System").before args s = true)
    (hh : (¬ sp < 0 ∧ ¬ dp < 0 ∧ ¬ n < 0) ∧ sp.toNatClampNeg + n.toNatClampNeg ≤ N0 ∧ dp.toNatClampNeg + n.toNatClampNeg ≤ N1) (hf : 1 ≤ R.frames) (hlo : (rest.map fun v => v.category).sum + (nativeFrameWords "java/lang/System" "arraycopy" 5 + 11) ≤ R.locals) (hdg : decode cc pc = .ok (.invokestatic index, 3))
    (kk : ∀ (H1 : Heap) (locs1 : List Loc) (I1 : MI), I1 = cpyI I x y sp dp n → Mem D A ad ns I1 L G H1 → va_S A s.heap H1 locs1 → W p l e R s m args below meth c H1 locs1 cells slots Q (F0 m (pc + 3) ls rest)) : W p l e R s m args below meth c H locs cells slots Q (F0 m pc ls (.int n :: .int dp :: .ref (ad y) :: .int sp :: .ref (ad x) :: rest)) := by
  obtain ⟨q0, hq0, hc0⟩ := Mem.at (D := D) (A := A) (ad := ad) (I := I) (L := L) (G := G) hxn
  obtain ⟨q1, hq1, hc1⟩ := Mem.at (D := D) (A := A) (ad := ad) (I := I) (L := L) (G := G) hyn
  rw [cE_int hkx (Or.inl rfl)] at hc0
  rw [cE_int hky (Or.inl rfl)] at hc1
  exact va_copyi hx hb hml hown hlink hnat hstat hini hE.1 hM.1 hM.2.1 hS q0 q1 0 0 hc0 hc1 rfl rfl rfl hh.1.1 hh.1.2.1 hh.1.2.2 hh.2.1 hh.2.2 (fun _ _ => rfl) hf hlo hdg (fun H1 locs1 hP hD hS => kk H1 locs1 _ rfl (cpy_map (N0 := N0) hM hyn hky (Or.inl rfl) hq1 hP hD) hS)
theorem m_copyb (x y : Nat) {N0 N1 : Nat} {sp dp n : Int32} (hx : p.tables.exec = Jvm.exec) (hb : c.code = cc) (hml : c.maxLocals = ls.size) (hown : s.vm.findClass own = some m.cls) (hE : EV D A s s.heap) (hM : Mem D A ad ns I L G H) (hS : va_S A s.heap H locs) (hxn : x ∈ ns) (hkx : kd x = (21, N0)) (hyn : y ∈ ns) (hky : kd y = (21, N1)) (hlink : (Cond.methodLink own index arraycopyName).before args s = true) (hnat : (Cond.native arraycopyName).before args s = true) (hstat : (Cond.static arraycopyName).before args s = true) (hini : (Cond.initialized "java/lang/System").before args s = true)
    (hh : (¬ sp < 0 ∧ ¬ dp < 0 ∧ ¬ n < 0) ∧ sp.toNatClampNeg + n.toNatClampNeg ≤ N0 ∧ dp.toNatClampNeg + n.toNatClampNeg ≤ N1 ∧ ∀ i, i < n.toNatClampNeg → fits .byte (.int (I x (sp.toNatClampNeg + i))) = true) (hf : 1 ≤ R.frames) (hlo : (rest.map fun v => v.category).sum + (nativeFrameWords "java/lang/System" "arraycopy" 5 + 11) ≤ R.locals) (hdg : decode cc pc = .ok (.invokestatic index, 3))
    (kk : ∀ (H1 : Heap) (locs1 : List Loc) (I1 : MI), I1 = cpyI I x y sp dp n → Mem D A ad ns I1 L G H1 → va_S A s.heap H1 locs1 → W p l e R s m args below meth c H1 locs1 cells slots Q (F0 m (pc + 3) ls rest)) : W p l e R s m args below meth c H locs cells slots Q (F0 m pc ls (.int n :: .int dp :: .ref (ad y) :: .int sp :: .ref (ad x) :: rest)) := by
  obtain ⟨q0, hq0, hc0⟩ := Mem.at (D := D) (A := A) (ad := ad) (I := I) (L := L) (G := G) hxn
  obtain ⟨q1, hq1, hc1⟩ := Mem.at (D := D) (A := A) (ad := ad) (I := I) (L := L) (G := G) hyn
  rw [cE_int hkx (Or.inr (Or.inl rfl))] at hc0
  rw [cE_int hky (Or.inr (Or.inl rfl))] at hc1
  exact va_copyi hx hb hml hown hlink hnat hstat hini hE.1 hM.1 hM.2.1 hS q0 q1 1 1 hc0 hc1 rfl rfl rfl hh.1.1 hh.1.2.1 hh.1.2.2 hh.2.1 hh.2.2.1 hh.2.2.2 hf hlo hdg (fun H1 locs1 hP hD hS => kk H1 locs1 _ rfl (cpy_map (N0 := N0) hM hyn hky (Or.inr (Or.inl rfl)) hq1 hP hD) hS)
end MR2
def okT (c r x y a : Int32) : Prop := 4 ≤ c.toInt ∧ c.toInt ≤ 24 ∧ 4 ≤ r.toInt ∧ r.toInt ≤ 24 ∧ 0 ≤ x.toInt ∧ x.toInt < c.toInt ∧ 0 ≤ y.toInt ∧ y.toInt < r.toInt ∧ 0 ≤ a.toInt ∧ a.toInt ≤ 1000
section MR3
variable {p : Program} {l : Launch} {e : Env} {R : Room} {s : State} {m : MethodId} {args : Array Value} {below : List Frame} {meth : Method} {c : Code} {H : Heap} {locs : List Loc} {cells slots : Nat} {Q : State → Prop}
variable {cc : ByteArray} {pc : Nat} {ls : Array Slot} {rest st : List Value} {D : va_G} {A : Nat → Prop} {ad : Nat → Nat} {ns : List Nat} {I : MI} {L : ML} {G : MG}
variable {own C host : String} {index : Nat} {y : MethodName} {bytes : ByteArray} {maxL nL mc ms nP : Nat} {ret : Option FieldType} {rm : Room} {Qc : Array Value → State → Outcome → State → Prop} {As : List Value}
theorem m_strr (hE : EV D A s s.heap) (hS : va_S A s.heap H locs) (i : Nat) {q : String × Nat × String × List Int32} (hq : sq[i]? = some q) : ∃ cell : Cell, H[D.2 100 i]? = some cell ∧ cell.vm.isStatics = false ∧ s.vm.findClass "java/lang/String" = some cell.cls := by
  obtain ⟨cell, h1, h2, h3, -⟩ := (EV.str hE i hq).2.1.kept hS.2.1
  exact ⟨cell, h1, h2, h3⟩
theorem m_runVA (x : Nat) (hx : p.tables.exec = Jvm.exec) (hb : c.code = cc) (hml : c.maxLocals = nL) (hown : s.vm.findClass own = some m.cls) (hts : ∀ w ∈ gt, w.before args s = true) (hE : EV D A s s.heap) (hM : Mem D A ad ns I L G H) (hS : va_S A s.heap H locs) (hA : ∀ q, s.heap.size ≤ q → A q) (ce : CeV C y bytes maxL ret nP) (hl : Cond.methodLink own index y ∈ gt)
    (hMet : Met l y (wd y bytes maxL ret) rm (va_Pc (.ref x :: As) (PM D A ad ns I L G)) Qc mc ms A) (hrc : rm.cells = mc) (hrs : rm.slots = ms) (hR : rm.frames + 1 ≤ R.frames ∧ 8 + (maxL + 11) + rm.locals ≤ R.locals) (hrv : ∃ cell : Cell, H[x]? = some cell ∧ cell.vm.isStatics = false ∧ s.vm.findClass C = some cell.cls) (hnp : As.length = nP) (hsize : ls.size = nL) (hst : st = As.reverse ++ .ref x :: rest) (hW : (rest.map fun v => v.category).sum ≤ 8) (hdg : decode cc pc = .ok (.invokevirtual index, 3)) (hf : cells + mc ≤ R.cells ∧ slots + ms ≤ R.slots) :
    va_Run p l e R s m args below meth c H locs cells slots mc ms (F0 m pc ls st) rest (Qc (Value.ref x :: As).toArray) A := by
  have hG : GoodIn gt (wd y bytes maxL ret) := gt_good (fun _ h => h) ce.2.2.2.1
  have hd := ce.2.2.2.2
  exact va_runV (C := C) (Ts := gt) ⟨hx, hb, hml, hown, hts⟩ hMet ⟨callB_of nP hts hG rfl hrc hrs (by rw [hd.1]; exact hts _ ce.2.2.1) (hts _ hl) hd.2 hR, hts _ ce.1, hts _ ce.2.1⟩ ⟨PM.blind, hrv, m_pre hE hM hS hA _⟩ rfl hnp hsize hst (lv_room hW) hdg hf
end MR3
theorem shr0 : ∀ n, n < 16 → (Int32.ofNat n) >>> ((0 : Int32) &&& 31) = Int32.ofNat n := by decide
end
section
theorem dJ7_fill_53178_0 : decode cJ7_fill_53178 0 = .ok (.iconst 0, 1) := by decide +kernel
theorem dJ7_fill_53178_1 : decode cJ7_fill_53178 1 = .ok (.istore_n 2, 1) := by decide +kernel
theorem dJ7_fill_53178_2 : decode cJ7_fill_53178 2 = .ok (.aload_n 0, 1) := by decide +kernel
theorem dJ7_fill_53178_3 : decode cJ7_fill_53178 3 = .ok (.arraylength, 1) := by decide +kernel
theorem dJ7_fill_53178_4 : decode cJ7_fill_53178 4 = .ok (.istore_n 3, 1) := by decide +kernel
theorem dJ7_fill_53178_5 : decode cJ7_fill_53178 5 = .ok (.iload_n 2, 1) := by decide +kernel
theorem dJ7_fill_53178_6 : decode cJ7_fill_53178 6 = .ok (.iload_n 3, 1) := by decide +kernel
theorem dJ7_fill_53178_7 : decode cJ7_fill_53178 7 = .ok (.if_icmp .ge 13, 3) := by decide +kernel
theorem dJ7_fill_53178_10 : decode cJ7_fill_53178 10 = .ok (.aload_n 0, 1) := by decide +kernel
theorem dJ7_fill_53178_11 : decode cJ7_fill_53178 11 = .ok (.iload_n 2, 1) := by decide +kernel
theorem dJ7_fill_53178_12 : decode cJ7_fill_53178 12 = .ok (.iload_n 1, 1) := by decide +kernel
theorem dJ7_fill_53178_13 : decode cJ7_fill_53178 13 = .ok (.iastore, 1) := by decide +kernel
theorem dJ7_fill_53178_14 : decode cJ7_fill_53178 14 = .ok (.iinc 2 1, 3) := by decide +kernel
theorem dJ7_fill_53178_17 : decode cJ7_fill_53178 17 = .ok (.goto (-12), 3) := by decide +kernel
theorem dJ7_fill_53178_20 : decode cJ7_fill_53178 20 = .ok (.return_, 1) := by decide +kernel
theorem ce_J7_fill_53178 : CeS yJ7_fill_53178 cJ7_fill_53178 4 none 2 := ⟨tb_459, tb_12, tb_460, by decide, by decide, by decide +kernel⟩
set_option maxHeartbeats 4000000 in
set_option maxRecDepth 20000 in
theorem C_J7_fill_53178 (l : Launch) (D : va_G) (A : Nat → Prop) (ad : Nat → Nat) (ns : List Nat) (I : MI) (L : ML) (G : MG) (x : Nat) (N : Nat) (v : Int32) (hn : x ∈ ns) (hk : kd x = (20, N)) (hN : N < 100000) : Met l yJ7_fill_53178 (wd yJ7_fill_53178 cJ7_fill_53178 4 none) ({ frames := 0, cells := 0, slots := 0, locals := 0 }) (va_Pc [.ref (ad x), .int v] (PM D A ad ns I L G)) (va_Qv (fun u => u = (ad, ns, fillI I x N v, L, G)) (BM D A) A) 0 0 A := by
  refine m_ofW (by decide) (Nat.le_of_ble_eq_true rfl) ?_
  intro p e s m below meth c ls args hC hE hM hA hS hl
  obtain ⟨hx, hb, hml, hown, hts, hr, hlocks, hin⟩ := hC
  have k0 : (0 : Int32).toInt = 0 := by decide
  have kN : (Int32.ofNat N).toInt = N := nI_toInt (by omega)
  have hl : lv_has ls 4 [(0, .ref (ad (x))), (1, .int (v))] := hl
  refine lv_iconst (v := (0)) hx hb dJ7_fill_53178_0 (by decide) ?_
  refine lv_istore_n (lv' := [(2, .int (0)), (0, .ref (ad (x))), (1, .int (v))]) hx hb dJ7_fill_53178_1 rfl hl (by decide) rfl (fun ls hl => ?_)
  refine lv_aload_n hx hb dJ7_fill_53178_2 rfl (lv_at hl 1 rfl) ?_
  refine m_alen x (t0 := 0) (v := Int32.ofNat N) hx hb hE hM hn hk (by decide) rfl rfl dJ7_fill_53178_3 ?_
  refine lv_istore_n (lv' := [(3, .int (Int32.ofNat N)), (2, .int (0)), (0, .ref (ad (x))), (1, .int (v))]) hx hb dJ7_fill_53178_4 rfl hl (by decide) rfl (fun ls hl => ?_)
  have loop5 : ∀ (n : Nat) (i : Int32) (Ia : MI) (H : Heap) (locs : List Loc) (ls : Array Slot), (0 ≤ i.toInt ∧ i.toInt ≤ N) → (Ia = fillI I x i.toNatClampNeg v) → (N - i.toInt).toNat < n → Mem D A ad ns Ia L G H → va_S A s.heap H locs → lv_has ls 4 [(0, .ref (ad (x))), (1, .int (v)), (2, .int (i)), (3, .int (Int32.ofNat N))] → W p l e ({ frames := 0, cells := 0, slots := 0, locals := 0 } : Room) s m args below meth c H locs 0 0 (MQ below (va_Qv (fun u => u = (ad, ns, fillI I x N v, L, G)) (BM D A) A) args s 0 0 A) (F0 m 5 ls []) := by
    intro n
    induction n with
    | zero =>
      intro i Ia H locs ls h1 h2 hmu
      exact absurd hmu (Nat.not_lt_zero _)
    | succ n ih5 =>
      intro i Ia H locs ls h1 h2 hmu5 hM hS hl
      refine lv_iload_n hx hb dJ7_fill_53178_5 rfl (lv_at hl 2 rfl) ?_
      refine lv_iload_n hx hb dJ7_fill_53178_6 rfl (lv_at hl 3 rfl) ?_
      refine lv_icmp_ge (tgt := 20) hx hb dJ7_fill_53178_7 (by decide) (fun c1 => ?_) (fun c1 => ?_)
      · have hc1 := c1
        have q1 := q_le hc1
        exact m_vret hx hb hr hlocks hM hS (Nat.le_of_ble_eq_true rfl) (Nat.le_of_ble_eq_true rfl) (by rw [h2, tn_n (i := i) (n := N) (by omega)]) dJ7_fill_53178_20
      · have hc1 := c1
        have q1 := q_nle hc1
        refine lv_aload_n hx hb dJ7_fill_53178_10 rfl (lv_at hl 0 rfl) ?_
        refine lv_iload_n hx hb dJ7_fill_53178_11 rfl (lv_at hl 2 rfl) ?_
        refine lv_iload_n hx hb dJ7_fill_53178_12 rfl (lv_at hl 1 rfl) ?_
        refine m_iast (x) hx hb hE hM hS hn hk (vp_in_iff.mpr (by omega)) dJ7_fill_53178_13 (fun H locs I2 eI2 hM hS => ?_)
        subst eI2
        obtain ⟨v3, ev3⟩ : ∃ z : Int32, z = i + Int32.ofInt (1) := ⟨_, rfl⟩
        have tv3 := a_inc ev3 (by decide) (by omega) (by omega)
        refine lv_iinc (v := v3) (lv' := [(2, .int (v3)), (0, .ref (ad (x))), (1, .int (v)), (3, .int (Int32.ofNat N))]) hx hb dJ7_fill_53178_14 hl (k := 2) rfl ev3.symm (by decide) rfl (fun ls hl => ?_)
        refine lv_goto (tgt := 5) hx hb dJ7_fill_53178_17 (by decide) ?_
        exact ih5 (v3) (u2 Ia (x) ((i).toNatClampNeg) (v)) H locs ls (by omega) (by rw [h2, fillI_s, tn_s h1.1 tv3]) (by omega) hM hS (lv_sub hl [1, 2, 0, 3] rfl)
  exact loop5 (_ + 1) (0) I _ _ ls ⟨by decide, by omega⟩ ((fillI_0 I x v).symm) (Nat.lt_succ_self _) hM hS (lv_sub hl [2, 3, 1, 0] rfl)
def beginI (I : MI) (b : Nat) (c r x y a : Int32) : MI := fillI (fillI (fillI (fillI (fillI (fillI (u2 (u2 (u2 (u2 (u2 (u2 (u2 (u2 (u2 (u2 I b 0 c) b 1 r) b 2 x) b 3 y) b 4 a) b 5 0) b 6 0) b 7 0) b 8 0) b 9 0) (b + 1) 576 0) (b + 2) 576 (-1)) (b + 3) 576 (-1)) (b + 4) 576 (-1)) (b + 5) 288 (-1)) (b + 6) 288 0
theorem dX8_begin_0 : decode cX8_begin 0 = .ok (.aload_n 0, 1) := by decide +kernel
theorem dX8_begin_1 : decode cX8_begin 1 = .ok (.iload_n 1, 1) := by decide +kernel
theorem dX8_begin_2 : decode cX8_begin 2 = .ok (.putfield 36, 3) := by decide +kernel
theorem dX8_begin_5 : decode cX8_begin 5 = .ok (.aload_n 0, 1) := by decide +kernel
theorem dX8_begin_6 : decode cX8_begin 6 = .ok (.iload_n 2, 1) := by decide +kernel
theorem dX8_begin_7 : decode cX8_begin 7 = .ok (.putfield 40, 3) := by decide +kernel
theorem dX8_begin_10 : decode cX8_begin 10 = .ok (.aload_n 0, 1) := by decide +kernel
theorem dX8_begin_11 : decode cX8_begin 11 = .ok (.iload_n 3, 1) := by decide +kernel
theorem dX8_begin_12 : decode cX8_begin 12 = .ok (.putfield 43, 3) := by decide +kernel
theorem dX8_begin_15 : decode cX8_begin 15 = .ok (.aload_n 0, 1) := by decide +kernel
theorem dX8_begin_16 : decode cX8_begin 16 = .ok (.iload 4, 2) := by decide +kernel
theorem dX8_begin_18 : decode cX8_begin 18 = .ok (.putfield 46, 3) := by decide +kernel
theorem dX8_begin_21 : decode cX8_begin 21 = .ok (.aload_n 0, 1) := by decide +kernel
theorem dX8_begin_22 : decode cX8_begin 22 = .ok (.iload 5, 2) := by decide +kernel
theorem dX8_begin_24 : decode cX8_begin 24 = .ok (.putfield 49, 3) := by decide +kernel
theorem dX8_begin_27 : decode cX8_begin 27 = .ok (.aload_n 0, 1) := by decide +kernel
theorem dX8_begin_28 : decode cX8_begin 28 = .ok (.iconst 0, 1) := by decide +kernel
theorem dX8_begin_29 : decode cX8_begin 29 = .ok (.putfield 52, 3) := by decide +kernel
theorem dX8_begin_32 : decode cX8_begin 32 = .ok (.aload_n 0, 1) := by decide +kernel
theorem dX8_begin_33 : decode cX8_begin 33 = .ok (.iconst 0, 1) := by decide +kernel
theorem dX8_begin_34 : decode cX8_begin 34 = .ok (.putfield 55, 3) := by decide +kernel
theorem dX8_begin_37 : decode cX8_begin 37 = .ok (.aload_n 0, 1) := by decide +kernel
theorem dX8_begin_38 : decode cX8_begin 38 = .ok (.iconst 0, 1) := by decide +kernel
theorem dX8_begin_39 : decode cX8_begin 39 = .ok (.putfield 58, 3) := by decide +kernel
theorem dX8_begin_42 : decode cX8_begin 42 = .ok (.aload_n 0, 1) := by decide +kernel
theorem dX8_begin_43 : decode cX8_begin 43 = .ok (.iconst 0, 1) := by decide +kernel
theorem dX8_begin_44 : decode cX8_begin 44 = .ok (.putfield 61, 3) := by decide +kernel
theorem dX8_begin_47 : decode cX8_begin 47 = .ok (.aload_n 0, 1) := by decide +kernel
theorem dX8_begin_48 : decode cX8_begin 48 = .ok (.iconst 0, 1) := by decide +kernel
theorem dX8_begin_49 : decode cX8_begin 49 = .ok (.putfield 64, 3) := by decide +kernel
theorem dX8_begin_52 : decode cX8_begin 52 = .ok (.aload_n 0, 1) := by decide +kernel
theorem dX8_begin_53 : decode cX8_begin 53 = .ok (.getfield 9, 3) := by decide +kernel
theorem dX8_begin_56 : decode cX8_begin 56 = .ok (.iconst 0, 1) := by decide +kernel
theorem dX8_begin_57 : decode cX8_begin 57 = .ok (.invokestatic 67, 3) := by decide +kernel
theorem dX8_begin_60 : decode cX8_begin 60 = .ok (.aload_n 0, 1) := by decide +kernel
theorem dX8_begin_61 : decode cX8_begin 61 = .ok (.getfield 15, 3) := by decide +kernel
theorem dX8_begin_64 : decode cX8_begin 64 = .ok (.iconst (-1), 1) := by decide +kernel
theorem dX8_begin_65 : decode cX8_begin 65 = .ok (.invokestatic 67, 3) := by decide +kernel
theorem dX8_begin_68 : decode cX8_begin 68 = .ok (.aload_n 0, 1) := by decide +kernel
theorem dX8_begin_69 : decode cX8_begin 69 = .ok (.getfield 18, 3) := by decide +kernel
theorem dX8_begin_72 : decode cX8_begin 72 = .ok (.iconst (-1), 1) := by decide +kernel
theorem dX8_begin_73 : decode cX8_begin 73 = .ok (.invokestatic 67, 3) := by decide +kernel
theorem dX8_begin_76 : decode cX8_begin 76 = .ok (.aload_n 0, 1) := by decide +kernel
theorem dX8_begin_77 : decode cX8_begin 77 = .ok (.getfield 21, 3) := by decide +kernel
theorem dX8_begin_80 : decode cX8_begin 80 = .ok (.iconst (-1), 1) := by decide +kernel
theorem dX8_begin_81 : decode cX8_begin 81 = .ok (.invokestatic 67, 3) := by decide +kernel
theorem dX8_begin_84 : decode cX8_begin 84 = .ok (.aload_n 0, 1) := by decide +kernel
theorem dX8_begin_85 : decode cX8_begin 85 = .ok (.getfield 24, 3) := by decide +kernel
theorem dX8_begin_88 : decode cX8_begin 88 = .ok (.iconst (-1), 1) := by decide +kernel
theorem dX8_begin_89 : decode cX8_begin 89 = .ok (.invokestatic 67, 3) := by decide +kernel
theorem dX8_begin_92 : decode cX8_begin 92 = .ok (.aload_n 0, 1) := by decide +kernel
theorem dX8_begin_93 : decode cX8_begin 93 = .ok (.getfield 27, 3) := by decide +kernel
theorem dX8_begin_96 : decode cX8_begin 96 = .ok (.iconst 0, 1) := by decide +kernel
theorem dX8_begin_97 : decode cX8_begin 97 = .ok (.invokestatic 67, 3) := by decide +kernel
theorem dX8_begin_100 : decode cX8_begin 100 = .ok (.return_, 1) := by decide +kernel
theorem ce_X8_begin : CeV RX8 yX8_begin cX8_begin 6 none 5 := ⟨tb_455, tb_456, tb_2, tb_457, rfl, by decide, by decide, by decide +kernel⟩
set_option maxHeartbeats 4000000 in
set_option maxRecDepth 20000 in
theorem C_X8_begin (l : Launch) (D : va_G) (A : Nat → Prop) (ad : Nat → Nat) (ns : List Nat) (I : MI) (L : ML) (G : MG) (b : Nat) (w : Int32) (h : Int32) (x : Int32) (y : Int32) (a : Int32) (hT : TOK ns G b) : Met l yX8_begin (wd yX8_begin cX8_begin 6 none) ({ frames := 1, cells := 0, slots := 0, locals := 23 }) (va_Pc [.ref (ad b), .int w, .int h, .int x, .int y, .int a] (PM D A ad ns I L G)) (va_Qv (fun u => u = (ad, ns, beginI I b w h x y a, L, G)) (BM D A) A) 0 0 A := by
  refine m_ofW (by decide) (Nat.le_of_ble_eq_true rfl) ?_
  intro p e s m below meth c ls args hC hE hM hA hS hl
  obtain ⟨hx, hb, hml, hown, hts, hr, hlocks, hin⟩ := hC
  have km1 : (-1 : Int32).toInt = -1 := by decide
  have k0 : (0 : Int32).toInt = 0 := by decide
  have hl : lv_has ls 6 [(0, .ref (ad (b))), (1, .int (w)), (2, .int (h)), (3, .int (x)), (4, .int (y)), (5, .int (a))] := hl
  refine lv_aload_n hx hb dX8_begin_0 rfl (lv_at hl 0 rfl) ?_
  refine lv_iload_n hx hb dX8_begin_1 rfl (lv_at hl 1 rfl) ?_
  refine m_puti (b) 0 hx hb hts hown hE oc8 hM hS hT.l (kT _ hT.1).1 (by decide) rfl rfl rfl rfl tb_34 dX8_begin_2 (fun H locs I1 eI1 hM hS => ?_)
  subst eI1
  refine lv_aload_n hx hb dX8_begin_5 rfl (lv_at hl 0 rfl) ?_
  refine lv_iload_n hx hb dX8_begin_6 rfl (lv_at hl 2 rfl) ?_
  refine m_puti (b) 1 hx hb hts hown hE oc8 hM hS hT.l (kT _ hT.1).1 (by decide) rfl rfl rfl rfl tb_37 dX8_begin_7 (fun H locs I2 eI2 hM hS => ?_)
  subst eI2
  refine lv_aload_n hx hb dX8_begin_10 rfl (lv_at hl 0 rfl) ?_
  refine lv_iload_n hx hb dX8_begin_11 rfl (lv_at hl 3 rfl) ?_
  refine m_puti (b) 2 hx hb hts hown hE oc8 hM hS hT.l (kT _ hT.1).1 (by decide) rfl rfl rfl rfl tb_41 dX8_begin_12 (fun H locs I3 eI3 hM hS => ?_)
  subst eI3
  refine lv_aload_n hx hb dX8_begin_15 rfl (lv_at hl 0 rfl) ?_
  refine lv_iload hx hb dX8_begin_16 (lv_at hl 4 rfl) ?_
  refine m_puti (b) 3 hx hb hts hown hE oc8 hM hS hT.l (kT _ hT.1).1 (by decide) rfl rfl rfl rfl tb_45 dX8_begin_18 (fun H locs I4 eI4 hM hS => ?_)
  subst eI4
  refine lv_aload_n hx hb dX8_begin_21 rfl (lv_at hl 0 rfl) ?_
  refine lv_iload hx hb dX8_begin_22 (lv_at hl 5 rfl) ?_
  refine m_puti (b) 4 hx hb hts hown hE oc8 hM hS hT.l (kT _ hT.1).1 (by decide) rfl rfl rfl rfl tb_48 dX8_begin_24 (fun H locs I5 eI5 hM hS => ?_)
  subst eI5
  refine lv_aload_n hx hb dX8_begin_27 rfl (lv_at hl 0 rfl) ?_
  refine lv_iconst (v := (0)) hx hb dX8_begin_28 (by decide) ?_
  refine m_puti (b) 5 hx hb hts hown hE oc8 hM hS hT.l (kT _ hT.1).1 (by decide) rfl rfl rfl rfl tb_51 dX8_begin_29 (fun H locs I6 eI6 hM hS => ?_)
  subst eI6
  refine lv_aload_n hx hb dX8_begin_32 rfl (lv_at hl 0 rfl) ?_
  refine lv_iconst (v := (0)) hx hb dX8_begin_33 (by decide) ?_
  refine m_puti (b) 6 hx hb hts hown hE oc8 hM hS hT.l (kT _ hT.1).1 (by decide) rfl rfl rfl rfl tb_54 dX8_begin_34 (fun H locs I7 eI7 hM hS => ?_)
  subst eI7
  refine lv_aload_n hx hb dX8_begin_37 rfl (lv_at hl 0 rfl) ?_
  refine lv_iconst (v := (0)) hx hb dX8_begin_38 (by decide) ?_
  refine m_puti (b) 7 hx hb hts hown hE oc8 hM hS hT.l (kT _ hT.1).1 (by decide) rfl rfl rfl rfl tb_57 dX8_begin_39 (fun H locs I8 eI8 hM hS => ?_)
  subst eI8
  refine lv_aload_n hx hb dX8_begin_42 rfl (lv_at hl 0 rfl) ?_
  refine lv_iconst (v := (0)) hx hb dX8_begin_43 (by decide) ?_
  refine m_puti (b) 8 hx hb hts hown hE oc8 hM hS hT.l (kT _ hT.1).1 (by decide) rfl rfl rfl rfl tb_59 dX8_begin_44 (fun H locs I9 eI9 hM hS => ?_)
  subst eI9
  refine lv_aload_n hx hb dX8_begin_47 rfl (lv_at hl 0 rfl) ?_
  refine lv_iconst (v := (0)) hx hb dX8_begin_48 (by decide) ?_
  refine m_puti (b) 9 hx hb hts hown hE oc8 hM hS hT.l (kT _ hT.1).1 (by decide) rfl rfl rfl rfl tb_63 dX8_begin_49 (fun H locs I10 eI10 hM hS => ?_)
  subst eI10
  refine lv_aload_n hx hb dX8_begin_52 rfl (lv_at hl 0 rfl) ?_
  refine m_getr (b) 10 (b + 1) hx hb hts hown hE oc8 hM hT.l (kT _ hT.1).1 (by decide) rfl (hT.2.2 0 (by decide)) (by omega) tb_66 dX8_begin_53 ?_
  refine lv_iconst (v := (0)) hx hb dX8_begin_56 (by decide) ?_
  refine m_callv (m_runS (As := [.ref (ad (b + 1)), .int (0)]) (rest := []) hx hb hml hown hts hE hM hS hA ce_J7_fill_53178 tb_458 (C_J7_fill_53178 l D A ad ns (u2 (u2 (u2 (u2 (u2 (u2 (u2 (u2 (u2 (u2 I (b) 0 (w)) (b) 1 (h)) (b) 2 (x)) (b) 3 (y)) (b) 4 (a)) (b) 5 (0)) (b) 6 (0)) (b) 7 (0)) (b) 8 (0)) (b) 9 (0)) L G (b + 1) 576 (0) (hT.2.1 1 (by decide)) (kT _ hT.1).2.1 (by decide)) rfl rfl ⟨Nat.le_of_ble_eq_true rfl, Nat.le_of_ble_eq_true rfl⟩  rfl hl.1 rfl (Nat.le_of_ble_eq_true rfl) dX8_begin_57 ⟨Nat.le_of_ble_eq_true rfl, Nat.le_of_ble_eq_true rfl⟩) hS (fun u H locs hw hM hS => ?_)
  subst hw
  have hM : Mem D A ad ns (fillI (u2 (u2 (u2 (u2 (u2 (u2 (u2 (u2 (u2 (u2 I (b) 0 (w)) (b) 1 (h)) (b) 2 (x)) (b) 3 (y)) (b) 4 (a)) (b) 5 (0)) (b) 6 (0)) (b) 7 (0)) (b) 8 (0)) (b) 9 (0)) (b + 1) 576 (0)) L G H := hM
  refine lv_aload_n hx hb dX8_begin_60 rfl (lv_at hl 0 rfl) ?_
  refine m_getr (b) 11 (b + 2) hx hb hts hown hE oc8 hM hT.l (kT _ hT.1).1 (by decide) rfl (hT.2.2 1 (by decide)) (by omega) tb_68 dX8_begin_61 ?_
  refine lv_iconst (v := (-1)) hx hb dX8_begin_64 (by decide) ?_
  refine m_callv (m_runS (As := [.ref (ad (b + 2)), .int ((-1 : Int32))]) (rest := []) hx hb hml hown hts hE hM hS hA ce_J7_fill_53178 tb_458 (C_J7_fill_53178 l D A ad ns (fillI (u2 (u2 (u2 (u2 (u2 (u2 (u2 (u2 (u2 (u2 I (b) 0 (w)) (b) 1 (h)) (b) 2 (x)) (b) 3 (y)) (b) 4 (a)) (b) 5 (0)) (b) 6 (0)) (b) 7 (0)) (b) 8 (0)) (b) 9 (0)) (b + 1) 576 (0)) L G (b + 2) 576 ((-1 : Int32)) (hT.2.1 2 (by decide)) (kT _ hT.1).2.2.1 (by decide)) rfl rfl ⟨Nat.le_of_ble_eq_true rfl, Nat.le_of_ble_eq_true rfl⟩  rfl hl.1 rfl (Nat.le_of_ble_eq_true rfl) dX8_begin_65 ⟨Nat.le_of_ble_eq_true rfl, Nat.le_of_ble_eq_true rfl⟩) hS (fun u H locs hw hM hS => ?_)
  subst hw
  have hM : Mem D A ad ns (fillI (fillI (u2 (u2 (u2 (u2 (u2 (u2 (u2 (u2 (u2 (u2 I (b) 0 (w)) (b) 1 (h)) (b) 2 (x)) (b) 3 (y)) (b) 4 (a)) (b) 5 (0)) (b) 6 (0)) (b) 7 (0)) (b) 8 (0)) (b) 9 (0)) (b + 1) 576 (0)) (b + 2) 576 ((-1 : Int32))) L G H := hM
  refine lv_aload_n hx hb dX8_begin_68 rfl (lv_at hl 0 rfl) ?_
  refine m_getr (b) 12 (b + 3) hx hb hts hown hE oc8 hM hT.l (kT _ hT.1).1 (by decide) rfl (hT.2.2 2 (by decide)) (by omega) tb_71 dX8_begin_69 ?_
  refine lv_iconst (v := (-1)) hx hb dX8_begin_72 (by decide) ?_
  refine m_callv (m_runS (As := [.ref (ad (b + 3)), .int ((-1 : Int32))]) (rest := []) hx hb hml hown hts hE hM hS hA ce_J7_fill_53178 tb_458 (C_J7_fill_53178 l D A ad ns (fillI (fillI (u2 (u2 (u2 (u2 (u2 (u2 (u2 (u2 (u2 (u2 I (b) 0 (w)) (b) 1 (h)) (b) 2 (x)) (b) 3 (y)) (b) 4 (a)) (b) 5 (0)) (b) 6 (0)) (b) 7 (0)) (b) 8 (0)) (b) 9 (0)) (b + 1) 576 (0)) (b + 2) 576 ((-1 : Int32))) L G (b + 3) 576 ((-1 : Int32)) (hT.2.1 3 (by decide)) (kT _ hT.1).2.2.2.1 (by decide)) rfl rfl ⟨Nat.le_of_ble_eq_true rfl, Nat.le_of_ble_eq_true rfl⟩  rfl hl.1 rfl (Nat.le_of_ble_eq_true rfl) dX8_begin_73 ⟨Nat.le_of_ble_eq_true rfl, Nat.le_of_ble_eq_true rfl⟩) hS (fun u H locs hw hM hS => ?_)
  subst hw
  have hM : Mem D A ad ns (fillI (fillI (fillI (u2 (u2 (u2 (u2 (u2 (u2 (u2 (u2 (u2 (u2 I (b) 0 (w)) (b) 1 (h)) (b) 2 (x)) (b) 3 (y)) (b) 4 (a)) (b) 5 (0)) (b) 6 (0)) (b) 7 (0)) (b) 8 (0)) (b) 9 (0)) (b + 1) 576 (0)) (b + 2) 576 ((-1 : Int32))) (b + 3) 576 ((-1 : Int32))) L G H := hM
  refine lv_aload_n hx hb dX8_begin_76 rfl (lv_at hl 0 rfl) ?_
  refine m_getr (b) 13 (b + 4) hx hb hts hown hE oc8 hM hT.l (kT _ hT.1).1 (by decide) rfl (hT.2.2 3 (by decide)) (by omega) tb_75 dX8_begin_77 ?_
  refine lv_iconst (v := (-1)) hx hb dX8_begin_80 (by decide) ?_
  refine m_callv (m_runS (As := [.ref (ad (b + 4)), .int ((-1 : Int32))]) (rest := []) hx hb hml hown hts hE hM hS hA ce_J7_fill_53178 tb_458 (C_J7_fill_53178 l D A ad ns (fillI (fillI (fillI (u2 (u2 (u2 (u2 (u2 (u2 (u2 (u2 (u2 (u2 I (b) 0 (w)) (b) 1 (h)) (b) 2 (x)) (b) 3 (y)) (b) 4 (a)) (b) 5 (0)) (b) 6 (0)) (b) 7 (0)) (b) 8 (0)) (b) 9 (0)) (b + 1) 576 (0)) (b + 2) 576 ((-1 : Int32))) (b + 3) 576 ((-1 : Int32))) L G (b + 4) 576 ((-1 : Int32)) (hT.2.1 4 (by decide)) (kT _ hT.1).2.2.2.2.1 (by decide)) rfl rfl ⟨Nat.le_of_ble_eq_true rfl, Nat.le_of_ble_eq_true rfl⟩  rfl hl.1 rfl (Nat.le_of_ble_eq_true rfl) dX8_begin_81 ⟨Nat.le_of_ble_eq_true rfl, Nat.le_of_ble_eq_true rfl⟩) hS (fun u H locs hw hM hS => ?_)
  subst hw
  have hM : Mem D A ad ns (fillI (fillI (fillI (fillI (u2 (u2 (u2 (u2 (u2 (u2 (u2 (u2 (u2 (u2 I (b) 0 (w)) (b) 1 (h)) (b) 2 (x)) (b) 3 (y)) (b) 4 (a)) (b) 5 (0)) (b) 6 (0)) (b) 7 (0)) (b) 8 (0)) (b) 9 (0)) (b + 1) 576 (0)) (b + 2) 576 ((-1 : Int32))) (b + 3) 576 ((-1 : Int32))) (b + 4) 576 ((-1 : Int32))) L G H := hM
  refine lv_aload_n hx hb dX8_begin_84 rfl (lv_at hl 0 rfl) ?_
  refine m_getr (b) 14 (b + 5) hx hb hts hown hE oc8 hM hT.l (kT _ hT.1).1 (by decide) rfl (hT.2.2 4 (by decide)) (by omega) tb_78 dX8_begin_85 ?_
  refine lv_iconst (v := (-1)) hx hb dX8_begin_88 (by decide) ?_
  refine m_callv (m_runS (As := [.ref (ad (b + 5)), .int ((-1 : Int32))]) (rest := []) hx hb hml hown hts hE hM hS hA ce_J7_fill_53178 tb_458 (C_J7_fill_53178 l D A ad ns (fillI (fillI (fillI (fillI (u2 (u2 (u2 (u2 (u2 (u2 (u2 (u2 (u2 (u2 I (b) 0 (w)) (b) 1 (h)) (b) 2 (x)) (b) 3 (y)) (b) 4 (a)) (b) 5 (0)) (b) 6 (0)) (b) 7 (0)) (b) 8 (0)) (b) 9 (0)) (b + 1) 576 (0)) (b + 2) 576 ((-1 : Int32))) (b + 3) 576 ((-1 : Int32))) (b + 4) 576 ((-1 : Int32))) L G (b + 5) 288 ((-1 : Int32)) (hT.2.1 5 (by decide)) (kT _ hT.1).2.2.2.2.2.1 (by decide)) rfl rfl ⟨Nat.le_of_ble_eq_true rfl, Nat.le_of_ble_eq_true rfl⟩  rfl hl.1 rfl (Nat.le_of_ble_eq_true rfl) dX8_begin_89 ⟨Nat.le_of_ble_eq_true rfl, Nat.le_of_ble_eq_true rfl⟩) hS (fun u H locs hw hM hS => ?_)
  subst hw
  have hM : Mem D A ad ns (fillI (fillI (fillI (fillI (fillI (u2 (u2 (u2 (u2 (u2 (u2 (u2 (u2 (u2 (u2 I (b) 0 (w)) (b) 1 (h)) (b) 2 (x)) (b) 3 (y)) (b) 4 (a)) (b) 5 (0)) (b) 6 (0)) (b) 7 (0)) (b) 8 (0)) (b) 9 (0)) (b + 1) 576 (0)) (b + 2) 576 ((-1 : Int32))) (b + 3) 576 ((-1 : Int32))) (b + 4) 576 ((-1 : Int32))) (b + 5) 288 ((-1 : Int32))) L G H := hM
  refine lv_aload_n hx hb dX8_begin_92 rfl (lv_at hl 0 rfl) ?_
  refine m_getr (b) 15 (b + 6) hx hb hts hown hE oc8 hM hT.l (kT _ hT.1).1 (by decide) rfl (hT.2.2 5 (by decide)) (by omega) tb_80 dX8_begin_93 ?_
  refine lv_iconst (v := (0)) hx hb dX8_begin_96 (by decide) ?_
  refine m_callv (m_runS (As := [.ref (ad (b + 6)), .int (0)]) (rest := []) hx hb hml hown hts hE hM hS hA ce_J7_fill_53178 tb_458 (C_J7_fill_53178 l D A ad ns (fillI (fillI (fillI (fillI (fillI (u2 (u2 (u2 (u2 (u2 (u2 (u2 (u2 (u2 (u2 I (b) 0 (w)) (b) 1 (h)) (b) 2 (x)) (b) 3 (y)) (b) 4 (a)) (b) 5 (0)) (b) 6 (0)) (b) 7 (0)) (b) 8 (0)) (b) 9 (0)) (b + 1) 576 (0)) (b + 2) 576 ((-1 : Int32))) (b + 3) 576 ((-1 : Int32))) (b + 4) 576 ((-1 : Int32))) (b + 5) 288 ((-1 : Int32))) L G (b + 6) 288 (0) (hT.2.1 6 (by decide)) (kT _ hT.1).2.2.2.2.2.2.1 (by decide)) rfl rfl ⟨Nat.le_of_ble_eq_true rfl, Nat.le_of_ble_eq_true rfl⟩  rfl hl.1 rfl (Nat.le_of_ble_eq_true rfl) dX8_begin_97 ⟨Nat.le_of_ble_eq_true rfl, Nat.le_of_ble_eq_true rfl⟩) hS (fun u H locs hw hM hS => ?_)
  subst hw
  have hM : Mem D A ad ns (fillI (fillI (fillI (fillI (fillI (fillI (u2 (u2 (u2 (u2 (u2 (u2 (u2 (u2 (u2 (u2 I (b) 0 (w)) (b) 1 (h)) (b) 2 (x)) (b) 3 (y)) (b) 4 (a)) (b) 5 (0)) (b) 6 (0)) (b) 7 (0)) (b) 8 (0)) (b) 9 (0)) (b + 1) 576 (0)) (b + 2) 576 ((-1 : Int32))) (b + 3) 576 ((-1 : Int32))) (b + 4) 576 ((-1 : Int32))) (b + 5) 288 ((-1 : Int32))) (b + 6) 288 (0)) L G H := hM
  exact m_vret hx hb hr hlocks hM hS (Nat.le_of_ble_eq_true rfl) (Nat.le_of_ble_eq_true rfl) rfl dX8_begin_100
theorem dX9_town_0 : decode cX9_town 0 = .ok (.iload_n 1, 1) := by decide +kernel
theorem dX9_town_1 : decode cX9_town 1 = .ok (.iconst 4, 1) := by decide +kernel
theorem dX9_town_2 : decode cX9_town 2 = .ok (.bipush 24, 2) := by decide +kernel
theorem dX9_town_4 : decode cX9_town 4 = .ok (.invokestatic 95, 3) := by decide +kernel
theorem dX9_town_7 : decode cX9_town 7 = .ok (.ifCond .eq 13, 3) := by decide +kernel
theorem dX9_town_10 : decode cX9_town 10 = .ok (.iload_n 2, 1) := by decide +kernel
theorem dX9_town_11 : decode cX9_town 11 = .ok (.iconst 4, 1) := by decide +kernel
theorem dX9_town_12 : decode cX9_town 12 = .ok (.bipush 24, 2) := by decide +kernel
theorem dX9_town_14 : decode cX9_town 14 = .ok (.invokestatic 95, 3) := by decide +kernel
theorem dX9_town_17 : decode cX9_town 17 = .ok (.ifCond .ne 5, 3) := by decide +kernel
theorem dX9_town_20 : decode cX9_town 20 = .ok (.iconst 0, 1) := by decide +kernel
theorem dX9_town_21 : decode cX9_town 21 = .ok (.ireturn, 1) := by decide +kernel
theorem dX9_town_22 : decode cX9_town 22 = .ok (.iload_n 3, 1) := by decide +kernel
theorem dX9_town_23 : decode cX9_town 23 = .ok (.iconst 0, 1) := by decide +kernel
theorem dX9_town_24 : decode cX9_town 24 = .ok (.iload_n 1, 1) := by decide +kernel
theorem dX9_town_25 : decode cX9_town 25 = .ok (.iconst 1, 1) := by decide +kernel
theorem dX9_town_26 : decode cX9_town 26 = .ok (.isub, 1) := by decide +kernel
theorem dX9_town_27 : decode cX9_town 27 = .ok (.invokestatic 95, 3) := by decide +kernel
theorem dX9_town_30 : decode cX9_town 30 = .ok (.ifCond .eq 27, 3) := by decide +kernel
theorem dX9_town_33 : decode cX9_town 33 = .ok (.iload 4, 2) := by decide +kernel
theorem dX9_town_35 : decode cX9_town 35 = .ok (.iconst 0, 1) := by decide +kernel
theorem dX9_town_36 : decode cX9_town 36 = .ok (.iload_n 2, 1) := by decide +kernel
theorem dX9_town_37 : decode cX9_town 37 = .ok (.iconst 1, 1) := by decide +kernel
theorem dX9_town_38 : decode cX9_town 38 = .ok (.isub, 1) := by decide +kernel
theorem dX9_town_39 : decode cX9_town 39 = .ok (.invokestatic 95, 3) := by decide +kernel
theorem dX9_town_42 : decode cX9_town 42 = .ok (.ifCond .eq 15, 3) := by decide +kernel
theorem dX9_town_45 : decode cX9_town 45 = .ok (.iload 5, 2) := by decide +kernel
theorem dX9_town_47 : decode cX9_town 47 = .ok (.iconst 0, 1) := by decide +kernel
theorem dX9_town_48 : decode cX9_town 48 = .ok (.sipush 1000, 3) := by decide +kernel
theorem dX9_town_51 : decode cX9_town 51 = .ok (.invokestatic 95, 3) := by decide +kernel
theorem dX9_town_54 : decode cX9_town 54 = .ok (.ifCond .ne 5, 3) := by decide +kernel
theorem dX9_town_57 : decode cX9_town 57 = .ok (.iconst 0, 1) := by decide +kernel
theorem dX9_town_58 : decode cX9_town 58 = .ok (.ireturn, 1) := by decide +kernel
theorem dX9_town_59 : decode cX9_town 59 = .ok (.aload_n 0, 1) := by decide +kernel
theorem dX9_town_60 : decode cX9_town 60 = .ok (.getfield 10, 3) := by decide +kernel
theorem dX9_town_63 : decode cX9_town 63 = .ok (.iload_n 1, 1) := by decide +kernel
theorem dX9_town_64 : decode cX9_town 64 = .ok (.iload_n 2, 1) := by decide +kernel
theorem dX9_town_65 : decode cX9_town 65 = .ok (.iload_n 3, 1) := by decide +kernel
theorem dX9_town_66 : decode cX9_town 66 = .ok (.iload 4, 2) := by decide +kernel
theorem dX9_town_68 : decode cX9_town 68 = .ok (.iload 5, 2) := by decide +kernel
theorem dX9_town_70 : decode cX9_town 70 = .ok (.invokevirtual 99, 3) := by decide +kernel
theorem dX9_town_73 : decode cX9_town 73 = .ok (.iconst 1, 1) := by decide +kernel
theorem dX9_town_74 : decode cX9_town 74 = .ok (.ireturn, 1) := by decide +kernel
theorem ce_X9_town : CeV RX9 yX9_town cX9_town 6 (some .boolean) 5 := ⟨tb_448, tb_449, tb_1, tb_450, rfl, by decide, by decide, by decide +kernel⟩
set_option maxHeartbeats 4000000 in
set_option maxRecDepth 20000 in
theorem C_X9_town (l : Launch) (D : va_G) (A : Nat → Prop) (ad : Nat → Nat) (ns : List Nat) (I : MI) (L : ML) (G : MG) (w : Int32) (h : Int32) (x : Int32) (y : Int32) (a : Int32) (hG : SGC ns G) : Met l yX9_town (wd yX9_town cX9_town 6 (some .boolean)) ({ frames := 2, cells := 0, slots := 0, locals := 48 }) (va_Pc [.ref (ad 0), .int w, .int h, .int x, .int y, .int a] (PM D A ad ns I L G)) (va_Qi (fun z u => (okT w h x y a ∧ z = 1 ∧ u = (ad, ns, beginI I 100 w h x y a, L, G)) ∨ (¬ okT w h x y a ∧ z = 0 ∧ u = (ad, ns, I, L, G))) (BM D A) A) 0 0 A := by
  refine m_ofW (by decide) (Nat.le_of_ble_eq_true rfl) ?_
  intro p e s m below meth c ls args hC hE hM hA hS hl
  obtain ⟨hx, hb, hml, hown, hts, hr, hlocks, hin⟩ := hC
  have k0 : (0 : Int32).toInt = 0 := by decide
  have k1 : (1 : Int32).toInt = 1 := by decide
  have k4 : (4 : Int32).toInt = 4 := by decide
  have k24 : (24 : Int32).toInt = 24 := by decide
  have k1000 : (1000 : Int32).toInt = 1000 := by decide
  have hl : lv_has ls 6 [(0, .ref (ad (0))), (1, .int (w)), (2, .int (h)), (3, .int (x)), (4, .int (y)), (5, .int (a))] := hl
  refine lv_iload_n hx hb dX9_town_0 rfl (lv_at hl 1 rfl) ?_
  refine lv_iconst (v := (4)) hx hb dX9_town_1 (by decide) ?_
  refine lv_bipush (v := (24)) hx hb dX9_town_2 (by decide) ?_
  refine m_calli (m_runS (As := [.int (w), .int (4), .int (24)]) (rest := []) hx hb hml hown hts hE hM hS hA ce_X9_isWithin tb_451 (C_X9_isWithin l D A ad ns I L G (w) (4) (24)) rfl rfl ⟨Nat.le_of_ble_eq_true rfl, Nat.le_of_ble_eq_true rfl⟩  rfl hl.1 rfl (Nat.le_of_ble_eq_true rfl) dX9_town_4 ⟨Nat.le_of_ble_eq_true rfl, Nat.le_of_ble_eq_true rfl⟩) hS (fun r1 u H locs hw hM hS => ?_)
  obtain ⟨rfl, b_r1⟩ := hw
  have hM : Mem D A ad ns I L G H := hM
  refine lv_if_eq (tgt := 20) hx hb dX9_town_7 (by decide) (fun c2 => ?_) (fun c2 => ?_)
  · have hc2 := c2
    have q2 := b_r1.f hc2
    refine lv_iconst (v := (0)) hx hb dX9_town_20 (by decide) ?_
    exact m_zret hx hb hr rfl hlocks hM hS (Nat.le_of_ble_eq_true rfl) (Nat.le_of_ble_eq_true rfl) (Or.inr ⟨by unfold okT; omega, rfl, rfl⟩) dX9_town_21
  · have hc2 := c2
    have q2 := b_r1.t hc2
    refine lv_iload_n hx hb dX9_town_10 rfl (lv_at hl 2 rfl) ?_
    refine lv_iconst (v := (4)) hx hb dX9_town_11 (by decide) ?_
    refine lv_bipush (v := (24)) hx hb dX9_town_12 (by decide) ?_
    refine m_calli (m_runS (As := [.int (h), .int (4), .int (24)]) (rest := []) hx hb hml hown hts hE hM hS hA ce_X9_isWithin tb_451 (C_X9_isWithin l D A ad ns I L G (h) (4) (24)) rfl rfl ⟨Nat.le_of_ble_eq_true rfl, Nat.le_of_ble_eq_true rfl⟩  rfl hl.1 rfl (Nat.le_of_ble_eq_true rfl) dX9_town_14 ⟨Nat.le_of_ble_eq_true rfl, Nat.le_of_ble_eq_true rfl⟩) hS (fun r3 u H locs hw hM hS => ?_)
    obtain ⟨rfl, b_r3⟩ := hw
    have hM : Mem D A ad ns I L G H := hM
    refine lv_if_ne (tgt := 22) hx hb dX9_town_17 (by decide) (fun c4 => ?_) (fun c4 => ?_)
    · have hc4 := c4
      have q4 := b_r3.t hc4
      refine lv_iload_n hx hb dX9_town_22 rfl (lv_at hl 3 rfl) ?_
      refine lv_iconst (v := (0)) hx hb dX9_town_23 (by decide) ?_
      refine lv_iload_n hx hb dX9_town_24 rfl (lv_at hl 1 rfl) ?_
      refine lv_iconst (v := (1)) hx hb dX9_town_25 (by decide) ?_
      refine lv_isub hx hb dX9_town_26 ?_
      refine lv_topi (fun v5 ev5 => ?_)
      have tv5 := a_sub ev5 (by omega) (by omega)
      refine m_calli (m_runS (As := [.int (x), .int (0), .int (v5)]) (rest := []) hx hb hml hown hts hE hM hS hA ce_X9_isWithin tb_451 (C_X9_isWithin l D A ad ns I L G (x) (0) (v5)) rfl rfl ⟨Nat.le_of_ble_eq_true rfl, Nat.le_of_ble_eq_true rfl⟩  rfl hl.1 rfl (Nat.le_of_ble_eq_true rfl) dX9_town_27 ⟨Nat.le_of_ble_eq_true rfl, Nat.le_of_ble_eq_true rfl⟩) hS (fun r6 u H locs hw hM hS => ?_)
      obtain ⟨rfl, b_r6⟩ := hw
      have hM : Mem D A ad ns I L G H := hM
      refine lv_if_eq (tgt := 57) hx hb dX9_town_30 (by decide) (fun c7 => ?_) (fun c7 => ?_)
      · have hc7 := c7
        have q7 := b_r6.f hc7
        refine lv_iconst (v := (0)) hx hb dX9_town_57 (by decide) ?_
        exact m_zret hx hb hr rfl hlocks hM hS (Nat.le_of_ble_eq_true rfl) (Nat.le_of_ble_eq_true rfl) (Or.inr ⟨by unfold okT; omega, rfl, rfl⟩) dX9_town_58
      · have hc7 := c7
        have q7 := b_r6.t hc7
        refine lv_iload hx hb dX9_town_33 (lv_at hl 4 rfl) ?_
        refine lv_iconst (v := (0)) hx hb dX9_town_35 (by decide) ?_
        refine lv_iload_n hx hb dX9_town_36 rfl (lv_at hl 2 rfl) ?_
        refine lv_iconst (v := (1)) hx hb dX9_town_37 (by decide) ?_
        refine lv_isub hx hb dX9_town_38 ?_
        refine lv_topi (fun v8 ev8 => ?_)
        have tv8 := a_sub ev8 (by omega) (by omega)
        refine m_calli (m_runS (As := [.int (y), .int (0), .int (v8)]) (rest := []) hx hb hml hown hts hE hM hS hA ce_X9_isWithin tb_451 (C_X9_isWithin l D A ad ns I L G (y) (0) (v8)) rfl rfl ⟨Nat.le_of_ble_eq_true rfl, Nat.le_of_ble_eq_true rfl⟩  rfl hl.1 rfl (Nat.le_of_ble_eq_true rfl) dX9_town_39 ⟨Nat.le_of_ble_eq_true rfl, Nat.le_of_ble_eq_true rfl⟩) hS (fun r9 u H locs hw hM hS => ?_)
        obtain ⟨rfl, b_r9⟩ := hw
        have hM : Mem D A ad ns I L G H := hM
        refine lv_if_eq (tgt := 57) hx hb dX9_town_42 (by decide) (fun c10 => ?_) (fun c10 => ?_)
        · have hc10 := c10
          have q10 := b_r9.f hc10
          refine lv_iconst (v := (0)) hx hb dX9_town_57 (by decide) ?_
          exact m_zret hx hb hr rfl hlocks hM hS (Nat.le_of_ble_eq_true rfl) (Nat.le_of_ble_eq_true rfl) (Or.inr ⟨by unfold okT; omega, rfl, rfl⟩) dX9_town_58
        · have hc10 := c10
          have q10 := b_r9.t hc10
          refine lv_iload hx hb dX9_town_45 (lv_at hl 5 rfl) ?_
          refine lv_iconst (v := (0)) hx hb dX9_town_47 (by decide) ?_
          refine lv_sipush (v := (1000)) hx hb dX9_town_48 (by decide) ?_
          refine m_calli (m_runS (As := [.int (a), .int (0), .int (1000)]) (rest := []) hx hb hml hown hts hE hM hS hA ce_X9_isWithin tb_451 (C_X9_isWithin l D A ad ns I L G (a) (0) (1000)) rfl rfl ⟨Nat.le_of_ble_eq_true rfl, Nat.le_of_ble_eq_true rfl⟩  rfl hl.1 rfl (Nat.le_of_ble_eq_true rfl) dX9_town_51 ⟨Nat.le_of_ble_eq_true rfl, Nat.le_of_ble_eq_true rfl⟩) hS (fun r11 u H locs hw hM hS => ?_)
          obtain ⟨rfl, b_r11⟩ := hw
          have hM : Mem D A ad ns I L G H := hM
          refine lv_if_ne (tgt := 59) hx hb dX9_town_54 (by decide) (fun c12 => ?_) (fun c12 => ?_)
          · have hc12 := c12
            have q12 := b_r11.t hc12
            refine lv_aload_n hx hb dX9_town_59 rfl (lv_at hl 0 rfl) ?_
            refine m_getr (0) 0 (100) hx hb hts hown hE oc9 hM (hG.1 0 (by decide)) rfl (by decide) rfl (hG.2 (0, 0, 100) (by decide)) (by decide) tb_398 dX9_town_60 ?_
            refine lv_iload_n hx hb dX9_town_63 rfl (lv_at hl 1 rfl) ?_
            refine lv_iload_n hx hb dX9_town_64 rfl (lv_at hl 2 rfl) ?_
            refine lv_iload_n hx hb dX9_town_65 rfl (lv_at hl 3 rfl) ?_
            refine lv_iload hx hb dX9_town_66 (lv_at hl 4 rfl) ?_
            refine lv_iload hx hb dX9_town_68 (lv_at hl 5 rfl) ?_
            refine m_callv (m_runV (100) (As := [.int (w), .int (h), .int (x), .int (y), .int (a)]) (rest := []) hx hb hml hown hts hE hM hS hA ce_X8_begin tb_454 (C_X8_begin l D A ad ns I L G (100) (w) (h) (x) (y) (a) hG.t0) rfl rfl ⟨Nat.le_of_ble_eq_true rfl, Nat.le_of_ble_eq_true rfl⟩ (hG.1 100 (by decide)) rfl rfl (by decide) rfl hl.1 rfl (Nat.le_of_ble_eq_true rfl) dX9_town_70 ⟨Nat.le_of_ble_eq_true rfl, Nat.le_of_ble_eq_true rfl⟩) hS (fun u H locs hw hM hS => ?_)
            subst hw
            have hM : Mem D A ad ns (beginI I (100) (w) (h) (x) (y) (a)) L G H := hM
            refine lv_iconst (v := (1)) hx hb dX9_town_73 (by decide) ?_
            exact m_zret hx hb hr rfl hlocks hM hS (Nat.le_of_ble_eq_true rfl) (Nat.le_of_ble_eq_true rfl) (Or.inl ⟨by unfold okT; omega, rfl, rfl⟩) dX9_town_74
          · have hc12 := c12
            have q12 := b_r11.f hc12
            refine lv_iconst (v := (0)) hx hb dX9_town_57 (by decide) ?_
            exact m_zret hx hb hr rfl hlocks hM hS (Nat.le_of_ble_eq_true rfl) (Nat.le_of_ble_eq_true rfl) (Or.inr ⟨by unfold okT; omega, rfl, rfl⟩) dX9_town_58
    · have hc4 := c4
      have q4 := b_r3.f hc4
      refine lv_iconst (v := (0)) hx hb dX9_town_20 (by decide) ?_
      exact m_zret hx hb hr rfl hlocks hM hS (Nat.le_of_ble_eq_true rfl) (Nat.le_of_ble_eq_true rfl) (Or.inr ⟨by unfold okT; omega, rfl, rfl⟩) dX9_town_21
theorem dX9_putOnTape_0 : decode cX9_putOnTape 0 = .ok (.bipush 24, 2) := by decide +kernel
theorem dX9_putOnTape_2 : decode cX9_putOnTape 2 = .ok (.istore_n 2, 1) := by decide +kernel
theorem dX9_putOnTape_3 : decode cX9_putOnTape 3 = .ok (.iload_n 2, 1) := by decide +kernel
theorem dX9_putOnTape_4 : decode cX9_putOnTape 4 = .ok (.ifCond .lt 42, 3) := by decide +kernel
theorem dX9_putOnTape_7 : decode cX9_putOnTape 7 = .ok (.aload_n 0, 1) := by decide +kernel
theorem dX9_putOnTape_8 : decode cX9_putOnTape 8 = .ok (.getfield 172, 3) := by decide +kernel
theorem dX9_putOnTape_11 : decode cX9_putOnTape 11 = .ok (.sipush 400, 3) := by decide +kernel
theorem dX9_putOnTape_14 : decode cX9_putOnTape 14 = .ok (.if_icmp .ge 32, 3) := by decide +kernel
theorem dX9_putOnTape_17 : decode cX9_putOnTape 17 = .ok (.aload_n 0, 1) := by decide +kernel
theorem dX9_putOnTape_18 : decode cX9_putOnTape 18 = .ok (.getfield 82, 3) := by decide +kernel
theorem dX9_putOnTape_21 : decode cX9_putOnTape 21 = .ok (.aload_n 0, 1) := by decide +kernel
theorem dX9_putOnTape_22 : decode cX9_putOnTape 22 = .ok (.getfield 172, 3) := by decide +kernel
theorem dX9_putOnTape_25 : decode cX9_putOnTape 25 = .ok (.iload_n 1, 1) := by decide +kernel
theorem dX9_putOnTape_26 : decode cX9_putOnTape 26 = .ok (.iload_n 2, 1) := by decide +kernel
theorem dX9_putOnTape_27 : decode cX9_putOnTape 27 = .ok (.iushr, 1) := by decide +kernel
theorem dX9_putOnTape_28 : decode cX9_putOnTape 28 = .ok (.i2b, 1) := by decide +kernel
theorem dX9_putOnTape_29 : decode cX9_putOnTape 29 = .ok (.bastore, 1) := by decide +kernel
theorem dX9_putOnTape_30 : decode cX9_putOnTape 30 = .ok (.aload_n 0, 1) := by decide +kernel
theorem dX9_putOnTape_31 : decode cX9_putOnTape 31 = .ok (.dup, 1) := by decide +kernel
theorem dX9_putOnTape_32 : decode cX9_putOnTape 32 = .ok (.getfield 172, 3) := by decide +kernel
theorem dX9_putOnTape_35 : decode cX9_putOnTape 35 = .ok (.iconst 1, 1) := by decide +kernel
theorem dX9_putOnTape_36 : decode cX9_putOnTape 36 = .ok (.iadd, 1) := by decide +kernel
theorem dX9_putOnTape_37 : decode cX9_putOnTape 37 = .ok (.putfield 172, 3) := by decide +kernel
theorem dX9_putOnTape_40 : decode cX9_putOnTape 40 = .ok (.iinc 2 (-8), 3) := by decide +kernel
theorem dX9_putOnTape_43 : decode cX9_putOnTape 43 = .ok (.goto (-40), 3) := by decide +kernel
theorem dX9_putOnTape_46 : decode cX9_putOnTape 46 = .ok (.return_, 1) := by decide +kernel
theorem ce_X9_putOnTape : CeV RX9 yX9_putOnTape cX9_putOnTape 3 none 1 := ⟨tb_552, tp_1, tb_1, tb_553, rfl, by decide, by decide, by decide +kernel⟩
set_option maxHeartbeats 4000000 in
set_option maxRecDepth 20000 in
theorem C_X9_putOnTape (l : Launch) (D : va_G) (A : Nat → Prop) (ad : Nat → Nat) (ns : List Nat) (I : MI) (L : ML) (G : MG) (x : Int32) (hG : SGC ns G) (ht : 0 ≤ (I 0 15).toInt ∧ (I 0 15).toInt ≤ 396) : Met l yX9_putOnTape (wd yX9_putOnTape cX9_putOnTape 3 none) ({ frames := 0, cells := 0, slots := 0, locals := 0 }) (va_Pc [.ref (ad 0), .int x] (PM D A ad ns I L G)) (va_Qv (fun u => ∃ I2, u = (ad, ns, I2, L, G) ∧ (I2 0 15).toInt = (I 0 15).toInt + 4) (BM D A) A) 0 0 A := by
  refine m_ofW (by decide) (Nat.le_of_ble_eq_true rfl) ?_
  intro p e s m below meth c ls args hC hE hM hA hS hl
  obtain ⟨hx, hb, hml, hown, hts, hr, hlocks, hin⟩ := hC
  have k0 : (0 : Int32).toInt = 0 := by decide
  have k1 : (1 : Int32).toInt = 1 := by decide
  have k24 : (24 : Int32).toInt = 24 := by decide
  have k400 : (400 : Int32).toInt = 400 := by decide
  have hl : lv_has ls 3 [(0, .ref (ad (0))), (1, .int (x))] := hl
  refine lv_bipush (v := (24)) hx hb dX9_putOnTape_0 (by decide) ?_
  refine lv_istore_n (lv' := [(2, .int (24)), (0, .ref (ad (0))), (1, .int (x))]) hx hb dX9_putOnTape_2 rfl hl (by decide) rfl (fun ls hl => ?_)
  refine lv_iload_n hx hb dX9_putOnTape_3 rfl (lv_at hl 0 rfl) ?_
  refine lv_if_lt (tgt := 46) hx hb dX9_putOnTape_4 (by decide) (fun c1 => ?_) (fun c1 => ?_)
  · exact absurd c1 (by decide)
  · have hc1 := c1
    have q1 := q_nlt hc1
    refine lv_aload_n hx hb dX9_putOnTape_7 rfl (lv_at hl 1 rfl) ?_
    refine m_geti (0) 15 hx hb hts hown hE oc9 hM (hG.1 0 (by decide)) rfl (by decide) rfl tb_413 dX9_putOnTape_8 ?_
    refine lv_sipush (v := (400)) hx hb dX9_putOnTape_11 (by decide) ?_
    refine lv_icmp_ge (tgt := 46) hx hb dX9_putOnTape_14 (by decide) (fun c2 => ?_) (fun c2 => ?_)
    · exact absurd (q_le c2) (by omega)
    · have hc2 := c2
      have q2 := q_nle hc2
      refine lv_aload_n hx hb dX9_putOnTape_17 rfl (lv_at hl 1 rfl) ?_
      refine m_getr (0) 11 (3) hx hb hts hown hE oc9 hM (hG.1 0 (by decide)) rfl (by decide) rfl (hG.2 (0, 11, 3) (by decide)) (by decide) tb_409 dX9_putOnTape_18 ?_
      refine lv_aload_n hx hb dX9_putOnTape_21 rfl (lv_at hl 1 rfl) ?_
      refine m_geti (0) 15 hx hb hts hown hE oc9 hM (hG.1 0 (by decide)) rfl (by decide) rfl tb_413 dX9_putOnTape_22 ?_
      refine lv_iload_n hx hb dX9_putOnTape_25 rfl (lv_at hl 2 rfl) ?_
      refine lv_iload_n hx hb dX9_putOnTape_26 rfl (lv_at hl 0 rfl) ?_
      refine lv_iushr hx hb dX9_putOnTape_27 rfl ?_
      refine lv_topi (fun v3 ev3 => ?_)
      refine lv_i2b hx hb dX9_putOnTape_28 rfl ?_
      refine lv_topi (fun v4 ev4 => ?_)
      refine m_bast (3) hx hb hE hM hS (hG.1 3 (by decide)) rfl (vp_in_iff.mpr (by omega)) dX9_putOnTape_29 (fun H locs I5 eI5 hM hS => ?_)
      subst eI5
      refine lv_aload_n hx hb dX9_putOnTape_30 rfl (lv_at hl 1 rfl) ?_
      refine lv_dup hx hb dX9_putOnTape_31 rfl ?_
      refine m_geti (0) 15 hx hb hts hown hE oc9 hM (hG.1 0 (by decide)) rfl (by decide) rfl tb_413 dX9_putOnTape_32 ?_
      rw [show (u2 I (3) ((I (0) 15).toNatClampNeg) (vp_nar .byte (v4))) (0) 15 = I (0) 15 from by simp [u2_v]]
      refine lv_iconst (v := (1)) hx hb dX9_putOnTape_35 (by decide) ?_
      refine lv_iadd hx hb dX9_putOnTape_36 ?_
      refine lv_topi (fun v6 ev6 => ?_)
      have tv6 := a_add ev6 (by omega) (by omega)
      refine m_puti (0) 15 hx hb hts hown hE oc9 hM hS (hG.1 0 (by decide)) rfl (by decide) rfl rfl rfl rfl tb_413 dX9_putOnTape_37 (fun H locs I7 eI7 hM hS => ?_)
      subst eI7
      refine lv_iinc (v := 16) (lv' := [(2, .int (16)), (0, .ref (ad (0))), (1, .int (x))]) hx hb dX9_putOnTape_40 hl (k := 0) rfl (by decide) (by decide) rfl (fun ls hl => ?_)
      refine lv_goto (tgt := 3) hx hb dX9_putOnTape_43 (by decide) ?_
      refine lv_iload_n hx hb dX9_putOnTape_3 rfl (lv_at hl 0 rfl) ?_
      refine lv_if_lt (tgt := 46) hx hb dX9_putOnTape_4 (by decide) (fun c9 => ?_) (fun c9 => ?_)
      · exact absurd c9 (by decide)
      · have hc9 := c9
        have q9 := q_nlt hc9
        refine lv_aload_n hx hb dX9_putOnTape_7 rfl (lv_at hl 1 rfl) ?_
        refine m_geti (0) 15 hx hb hts hown hE oc9 hM (hG.1 0 (by decide)) rfl (by decide) rfl tb_413 dX9_putOnTape_8 ?_
        rw [show (u2 (u2 I (3) ((I (0) 15).toNatClampNeg) (vp_nar .byte (v4))) (0) 15 (v6)) (0) 15 = v6 from by simp [u2_v]]
        refine lv_sipush (v := (400)) hx hb dX9_putOnTape_11 (by decide) ?_
        refine lv_icmp_ge (tgt := 46) hx hb dX9_putOnTape_14 (by decide) (fun c10 => ?_) (fun c10 => ?_)
        · exact absurd (q_le c10) (by omega)
        · have hc10 := c10
          have q10 := q_nle hc10
          refine lv_aload_n hx hb dX9_putOnTape_17 rfl (lv_at hl 1 rfl) ?_
          refine m_getr (0) 11 (3) hx hb hts hown hE oc9 hM (hG.1 0 (by decide)) rfl (by decide) rfl (hG.2 (0, 11, 3) (by decide)) (by decide) tb_409 dX9_putOnTape_18 ?_
          refine lv_aload_n hx hb dX9_putOnTape_21 rfl (lv_at hl 1 rfl) ?_
          refine m_geti (0) 15 hx hb hts hown hE oc9 hM (hG.1 0 (by decide)) rfl (by decide) rfl tb_413 dX9_putOnTape_22 ?_
          rw [show (u2 (u2 I (3) ((I (0) 15).toNatClampNeg) (vp_nar .byte (v4))) (0) 15 (v6)) (0) 15 = v6 from by simp [u2_v]]
          refine lv_iload_n hx hb dX9_putOnTape_25 rfl (lv_at hl 2 rfl) ?_
          refine lv_iload_n hx hb dX9_putOnTape_26 rfl (lv_at hl 0 rfl) ?_
          refine lv_iushr hx hb dX9_putOnTape_27 rfl ?_
          refine lv_topi (fun v11 ev11 => ?_)
          refine lv_i2b hx hb dX9_putOnTape_28 rfl ?_
          refine lv_topi (fun v12 ev12 => ?_)
          refine m_bast (3) hx hb hE hM hS (hG.1 3 (by decide)) rfl (vp_in_iff.mpr (by omega)) dX9_putOnTape_29 (fun H locs I13 eI13 hM hS => ?_)
          subst eI13
          refine lv_aload_n hx hb dX9_putOnTape_30 rfl (lv_at hl 1 rfl) ?_
          refine lv_dup hx hb dX9_putOnTape_31 rfl ?_
          refine m_geti (0) 15 hx hb hts hown hE oc9 hM (hG.1 0 (by decide)) rfl (by decide) rfl tb_413 dX9_putOnTape_32 ?_
          rw [show (u2 (u2 (u2 I (3) ((I (0) 15).toNatClampNeg) (vp_nar .byte (v4))) (0) 15 (v6)) (3) ((v6).toNatClampNeg) (vp_nar .byte (v12))) (0) 15 = v6 from by simp [u2_v]]
          refine lv_iconst (v := (1)) hx hb dX9_putOnTape_35 (by decide) ?_
          refine lv_iadd hx hb dX9_putOnTape_36 ?_
          refine lv_topi (fun v14 ev14 => ?_)
          have tv14 := a_add ev14 (by omega) (by omega)
          refine m_puti (0) 15 hx hb hts hown hE oc9 hM hS (hG.1 0 (by decide)) rfl (by decide) rfl rfl rfl rfl tb_413 dX9_putOnTape_37 (fun H locs I15 eI15 hM hS => ?_)
          subst eI15
          refine lv_iinc (v := 8) (lv' := [(2, .int (8)), (0, .ref (ad (0))), (1, .int (x))]) hx hb dX9_putOnTape_40 hl (k := 0) rfl (by decide) (by decide) rfl (fun ls hl => ?_)
          refine lv_goto (tgt := 3) hx hb dX9_putOnTape_43 (by decide) ?_
          refine lv_iload_n hx hb dX9_putOnTape_3 rfl (lv_at hl 0 rfl) ?_
          refine lv_if_lt (tgt := 46) hx hb dX9_putOnTape_4 (by decide) (fun c17 => ?_) (fun c17 => ?_)
          · exact absurd c17 (by decide)
          · have hc17 := c17
            have q17 := q_nlt hc17
            refine lv_aload_n hx hb dX9_putOnTape_7 rfl (lv_at hl 1 rfl) ?_
            refine m_geti (0) 15 hx hb hts hown hE oc9 hM (hG.1 0 (by decide)) rfl (by decide) rfl tb_413 dX9_putOnTape_8 ?_
            rw [show (u2 (u2 (u2 (u2 I (3) ((I (0) 15).toNatClampNeg) (vp_nar .byte (v4))) (0) 15 (v6)) (3) ((v6).toNatClampNeg) (vp_nar .byte (v12))) (0) 15 (v14)) (0) 15 = v14 from by simp [u2_v]]
            refine lv_sipush (v := (400)) hx hb dX9_putOnTape_11 (by decide) ?_
            refine lv_icmp_ge (tgt := 46) hx hb dX9_putOnTape_14 (by decide) (fun c18 => ?_) (fun c18 => ?_)
            · exact absurd (q_le c18) (by omega)
            · have hc18 := c18
              have q18 := q_nle hc18
              refine lv_aload_n hx hb dX9_putOnTape_17 rfl (lv_at hl 1 rfl) ?_
              refine m_getr (0) 11 (3) hx hb hts hown hE oc9 hM (hG.1 0 (by decide)) rfl (by decide) rfl (hG.2 (0, 11, 3) (by decide)) (by decide) tb_409 dX9_putOnTape_18 ?_
              refine lv_aload_n hx hb dX9_putOnTape_21 rfl (lv_at hl 1 rfl) ?_
              refine m_geti (0) 15 hx hb hts hown hE oc9 hM (hG.1 0 (by decide)) rfl (by decide) rfl tb_413 dX9_putOnTape_22 ?_
              rw [show (u2 (u2 (u2 (u2 I (3) ((I (0) 15).toNatClampNeg) (vp_nar .byte (v4))) (0) 15 (v6)) (3) ((v6).toNatClampNeg) (vp_nar .byte (v12))) (0) 15 (v14)) (0) 15 = v14 from by simp [u2_v]]
              refine lv_iload_n hx hb dX9_putOnTape_25 rfl (lv_at hl 2 rfl) ?_
              refine lv_iload_n hx hb dX9_putOnTape_26 rfl (lv_at hl 0 rfl) ?_
              refine lv_iushr hx hb dX9_putOnTape_27 rfl ?_
              refine lv_topi (fun v19 ev19 => ?_)
              refine lv_i2b hx hb dX9_putOnTape_28 rfl ?_
              refine lv_topi (fun v20 ev20 => ?_)
              refine m_bast (3) hx hb hE hM hS (hG.1 3 (by decide)) rfl (vp_in_iff.mpr (by omega)) dX9_putOnTape_29 (fun H locs I21 eI21 hM hS => ?_)
              subst eI21
              refine lv_aload_n hx hb dX9_putOnTape_30 rfl (lv_at hl 1 rfl) ?_
              refine lv_dup hx hb dX9_putOnTape_31 rfl ?_
              refine m_geti (0) 15 hx hb hts hown hE oc9 hM (hG.1 0 (by decide)) rfl (by decide) rfl tb_413 dX9_putOnTape_32 ?_
              rw [show (u2 (u2 (u2 (u2 (u2 I (3) ((I (0) 15).toNatClampNeg) (vp_nar .byte (v4))) (0) 15 (v6)) (3) ((v6).toNatClampNeg) (vp_nar .byte (v12))) (0) 15 (v14)) (3) ((v14).toNatClampNeg) (vp_nar .byte (v20))) (0) 15 = v14 from by simp [u2_v]]
              refine lv_iconst (v := (1)) hx hb dX9_putOnTape_35 (by decide) ?_
              refine lv_iadd hx hb dX9_putOnTape_36 ?_
              refine lv_topi (fun v22 ev22 => ?_)
              have tv22 := a_add ev22 (by omega) (by omega)
              refine m_puti (0) 15 hx hb hts hown hE oc9 hM hS (hG.1 0 (by decide)) rfl (by decide) rfl rfl rfl rfl tb_413 dX9_putOnTape_37 (fun H locs I23 eI23 hM hS => ?_)
              subst eI23
              refine lv_iinc (v := 0) (lv' := [(2, .int (0)), (0, .ref (ad (0))), (1, .int (x))]) hx hb dX9_putOnTape_40 hl (k := 0) rfl (by decide) (by decide) rfl (fun ls hl => ?_)
              refine lv_goto (tgt := 3) hx hb dX9_putOnTape_43 (by decide) ?_
              refine lv_iload_n hx hb dX9_putOnTape_3 rfl (lv_at hl 0 rfl) ?_
              refine lv_if_lt (tgt := 46) hx hb dX9_putOnTape_4 (by decide) (fun c25 => ?_) (fun c25 => ?_)
              · exact absurd c25 (by decide)
              · have hc25 := c25
                have q25 := q_nlt hc25
                refine lv_aload_n hx hb dX9_putOnTape_7 rfl (lv_at hl 1 rfl) ?_
                refine m_geti (0) 15 hx hb hts hown hE oc9 hM (hG.1 0 (by decide)) rfl (by decide) rfl tb_413 dX9_putOnTape_8 ?_
                rw [show (u2 (u2 (u2 (u2 (u2 (u2 I (3) ((I (0) 15).toNatClampNeg) (vp_nar .byte (v4))) (0) 15 (v6)) (3) ((v6).toNatClampNeg) (vp_nar .byte (v12))) (0) 15 (v14)) (3) ((v14).toNatClampNeg) (vp_nar .byte (v20))) (0) 15 (v22)) (0) 15 = v22 from by simp [u2_v]]
                refine lv_sipush (v := (400)) hx hb dX9_putOnTape_11 (by decide) ?_
                refine lv_icmp_ge (tgt := 46) hx hb dX9_putOnTape_14 (by decide) (fun c26 => ?_) (fun c26 => ?_)
                · exact absurd (q_le c26) (by omega)
                · have hc26 := c26
                  have q26 := q_nle hc26
                  refine lv_aload_n hx hb dX9_putOnTape_17 rfl (lv_at hl 1 rfl) ?_
                  refine m_getr (0) 11 (3) hx hb hts hown hE oc9 hM (hG.1 0 (by decide)) rfl (by decide) rfl (hG.2 (0, 11, 3) (by decide)) (by decide) tb_409 dX9_putOnTape_18 ?_
                  refine lv_aload_n hx hb dX9_putOnTape_21 rfl (lv_at hl 1 rfl) ?_
                  refine m_geti (0) 15 hx hb hts hown hE oc9 hM (hG.1 0 (by decide)) rfl (by decide) rfl tb_413 dX9_putOnTape_22 ?_
                  rw [show (u2 (u2 (u2 (u2 (u2 (u2 I (3) ((I (0) 15).toNatClampNeg) (vp_nar .byte (v4))) (0) 15 (v6)) (3) ((v6).toNatClampNeg) (vp_nar .byte (v12))) (0) 15 (v14)) (3) ((v14).toNatClampNeg) (vp_nar .byte (v20))) (0) 15 (v22)) (0) 15 = v22 from by simp [u2_v]]
                  refine lv_iload_n hx hb dX9_putOnTape_25 rfl (lv_at hl 2 rfl) ?_
                  refine lv_iload_n hx hb dX9_putOnTape_26 rfl (lv_at hl 0 rfl) ?_
                  refine lv_iushr hx hb dX9_putOnTape_27 rfl ?_
                  refine lv_topi (fun v27 ev27 => ?_)
                  refine lv_i2b hx hb dX9_putOnTape_28 rfl ?_
                  refine lv_topi (fun v28 ev28 => ?_)
                  refine m_bast (3) hx hb hE hM hS (hG.1 3 (by decide)) rfl (vp_in_iff.mpr (by omega)) dX9_putOnTape_29 (fun H locs I29 eI29 hM hS => ?_)
                  subst eI29
                  refine lv_aload_n hx hb dX9_putOnTape_30 rfl (lv_at hl 1 rfl) ?_
                  refine lv_dup hx hb dX9_putOnTape_31 rfl ?_
                  refine m_geti (0) 15 hx hb hts hown hE oc9 hM (hG.1 0 (by decide)) rfl (by decide) rfl tb_413 dX9_putOnTape_32 ?_
                  rw [show (u2 (u2 (u2 (u2 (u2 (u2 (u2 I (3) ((I (0) 15).toNatClampNeg) (vp_nar .byte (v4))) (0) 15 (v6)) (3) ((v6).toNatClampNeg) (vp_nar .byte (v12))) (0) 15 (v14)) (3) ((v14).toNatClampNeg) (vp_nar .byte (v20))) (0) 15 (v22)) (3) ((v22).toNatClampNeg) (vp_nar .byte (v28))) (0) 15 = v22 from by simp [u2_v]]
                  refine lv_iconst (v := (1)) hx hb dX9_putOnTape_35 (by decide) ?_
                  refine lv_iadd hx hb dX9_putOnTape_36 ?_
                  refine lv_topi (fun v30 ev30 => ?_)
                  have tv30 := a_add ev30 (by omega) (by omega)
                  refine m_puti (0) 15 hx hb hts hown hE oc9 hM hS (hG.1 0 (by decide)) rfl (by decide) rfl rfl rfl rfl tb_413 dX9_putOnTape_37 (fun H locs I31 eI31 hM hS => ?_)
                  subst eI31
                  refine lv_iinc (v := (-8 : Int32)) (lv' := [(2, .int ((-8 : Int32))), (0, .ref (ad (0))), (1, .int (x))]) hx hb dX9_putOnTape_40 hl (k := 0) rfl (by decide) (by decide) rfl (fun ls hl => ?_)
                  refine lv_goto (tgt := 3) hx hb dX9_putOnTape_43 (by decide) ?_
                  refine lv_iload_n hx hb dX9_putOnTape_3 rfl (lv_at hl 0 rfl) ?_
                  refine lv_if_lt (tgt := 46) hx hb dX9_putOnTape_4 (by decide) (fun c33 => ?_) (fun c33 => ?_)
                  · have hc33 := c33
                    have q33 := q_lt hc33
                    exact m_vret hx hb hr hlocks hM hS (Nat.le_of_ble_eq_true rfl) (Nat.le_of_ble_eq_true rfl) ⟨_, rfl, by rw [u2_self]; omega⟩ dX9_putOnTape_46
                  · exact absurd c33 (by decide)
theorem dX9_feed_0 : decode cX9_feed 0 = .ok (.aload_n 0, 1) := by decide +kernel
theorem dX9_feed_1 : decode cX9_feed 1 = .ok (.getfield 172, 3) := by decide +kernel
theorem dX9_feed_4 : decode cX9_feed 4 = .ok (.sipush 380, 3) := by decide +kernel
theorem dX9_feed_7 : decode cX9_feed 7 = .ok (.if_icmp .le 5, 3) := by decide +kernel
theorem dX9_feed_10 : decode cX9_feed 10 = .ok (.iconst (-1), 1) := by decide +kernel
theorem dX9_feed_11 : decode cX9_feed 11 = .ok (.ireturn, 1) := by decide +kernel
theorem dX9_feed_12 : decode cX9_feed 12 = .ok (.aload_n 0, 1) := by decide +kernel
theorem dX9_feed_13 : decode cX9_feed 13 = .ok (.iload_n 1, 1) := by decide +kernel
theorem dX9_feed_14 : decode cX9_feed 14 = .ok (.invokevirtual 175, 3) := by decide +kernel
theorem dX9_feed_17 : decode cX9_feed 17 = .ok (.aload_n 0, 1) := by decide +kernel
theorem dX9_feed_18 : decode cX9_feed 18 = .ok (.iload_n 2, 1) := by decide +kernel
theorem dX9_feed_19 : decode cX9_feed 19 = .ok (.invokevirtual 175, 3) := by decide +kernel
theorem dX9_feed_22 : decode cX9_feed 22 = .ok (.aload_n 0, 1) := by decide +kernel
theorem dX9_feed_23 : decode cX9_feed 23 = .ok (.iload_n 3, 1) := by decide +kernel
theorem dX9_feed_24 : decode cX9_feed 24 = .ok (.invokevirtual 175, 3) := by decide +kernel
theorem dX9_feed_27 : decode cX9_feed 27 = .ok (.aload_n 0, 1) := by decide +kernel
theorem dX9_feed_28 : decode cX9_feed 28 = .ok (.iload 4, 2) := by decide +kernel
theorem dX9_feed_30 : decode cX9_feed 30 = .ok (.invokevirtual 175, 3) := by decide +kernel
theorem dX9_feed_33 : decode cX9_feed 33 = .ok (.aload_n 0, 1) := by decide +kernel
theorem dX9_feed_34 : decode cX9_feed 34 = .ok (.iload 5, 2) := by decide +kernel
theorem dX9_feed_36 : decode cX9_feed 36 = .ok (.invokevirtual 175, 3) := by decide +kernel
theorem dX9_feed_39 : decode cX9_feed 39 = .ok (.aload_n 0, 1) := by decide +kernel
theorem dX9_feed_40 : decode cX9_feed 40 = .ok (.getfield 172, 3) := by decide +kernel
theorem dX9_feed_43 : decode cX9_feed 43 = .ok (.ireturn, 1) := by decide +kernel
theorem ce_X9_feed : CeV RX9 yX9_feed cX9_feed 6 (some .int) 5 := ⟨tb_547, tb_548, tb_1, tb_549, rfl, by decide, by decide, by decide +kernel⟩
set_option maxHeartbeats 4000000 in
set_option maxRecDepth 20000 in
theorem C_X9_feed (l : Launch) (D : va_G) (A : Nat → Prop) (ad : Nat → Nat) (ns : List Nat) (I : MI) (L : ML) (G : MG) (a0 : Int32) (a1 : Int32) (a2 : Int32) (a3 : Int32) (a4 : Int32) (hG : SGC ns G) (ht : 0 ≤ (I 0 15).toInt) : Met l yX9_feed (wd yX9_feed cX9_feed 6 (some .int)) ({ frames := 1, cells := 0, slots := 0, locals := 22 }) (va_Pc [.ref (ad 0), .int a0, .int a1, .int a2, .int a3, .int a4] (PM D A ad ns I L G)) (va_Qi (fun z u => ∃ I2, u = (ad, ns, I2, L, G) ∧ (((I 0 15).toInt ≤ 380 ∧ z.toInt = (I 0 15).toInt + 20) ∨ (¬ (I 0 15).toInt ≤ 380 ∧ z = -1))) (BM D A) A) 0 0 A := by
  refine m_ofW (by decide) (Nat.le_of_ble_eq_true rfl) ?_
  intro p e s m below meth c ls args hC hE hM hA hS hl
  obtain ⟨hx, hb, hml, hown, hts, hr, hlocks, hin⟩ := hC
  have km1 : (-1 : Int32).toInt = -1 := by decide
  have k0 : (0 : Int32).toInt = 0 := by decide
  have k380 : (380 : Int32).toInt = 380 := by decide
  have hl : lv_has ls 6 [(0, .ref (ad (0))), (1, .int (a0)), (2, .int (a1)), (3, .int (a2)), (4, .int (a3)), (5, .int (a4))] := hl
  refine lv_aload_n hx hb dX9_feed_0 rfl (lv_at hl 0 rfl) ?_
  refine m_geti (0) 15 hx hb hts hown hE oc9 hM (hG.1 0 (by decide)) rfl (by decide) rfl tb_413 dX9_feed_1 ?_
  refine lv_sipush (v := (380)) hx hb dX9_feed_4 (by decide) ?_
  refine lv_icmp_le (tgt := 12) hx hb dX9_feed_7 (by decide) (fun c1 => ?_) (fun c1 => ?_)
  · have hc1 := c1
    have q1 := q_le hc1
    refine lv_aload_n hx hb dX9_feed_12 rfl (lv_at hl 0 rfl) ?_
    refine lv_iload_n hx hb dX9_feed_13 rfl (lv_at hl 1 rfl) ?_
    refine m_callv (m_runV (0) (As := [.int (a0)]) (rest := []) hx hb hml hown hts hE hM hS hA ce_X9_putOnTape tb_550 (C_X9_putOnTape l D A ad ns I L G (a0) hG (by omega)) rfl rfl ⟨Nat.le_of_ble_eq_true rfl, Nat.le_of_ble_eq_true rfl⟩ (hG.1 0 (by decide)) rfl rfl (by decide) rfl hl.1 rfl (Nat.le_of_ble_eq_true rfl) dX9_feed_14 ⟨Nat.le_of_ble_eq_true rfl, Nat.le_of_ble_eq_true rfl⟩) hS (fun u H locs hw hM hS => ?_)
    obtain ⟨I2, rfl, hI2⟩ := hw
    have hM : Mem D A ad ns I2 L G H := hM
    refine lv_aload_n hx hb dX9_feed_17 rfl (lv_at hl 0 rfl) ?_
    refine lv_iload_n hx hb dX9_feed_18 rfl (lv_at hl 2 rfl) ?_
    refine m_callv (m_runV (0) (As := [.int (a1)]) (rest := []) hx hb hml hown hts hE hM hS hA ce_X9_putOnTape tb_550 (C_X9_putOnTape l D A ad ns I2 L G (a1) hG (by omega)) rfl rfl ⟨Nat.le_of_ble_eq_true rfl, Nat.le_of_ble_eq_true rfl⟩ (hG.1 0 (by decide)) rfl rfl (by decide) rfl hl.1 rfl (Nat.le_of_ble_eq_true rfl) dX9_feed_19 ⟨Nat.le_of_ble_eq_true rfl, Nat.le_of_ble_eq_true rfl⟩) hS (fun u H locs hw hM hS => ?_)
    obtain ⟨I3, rfl, hI3⟩ := hw
    have hM : Mem D A ad ns I3 L G H := hM
    refine lv_aload_n hx hb dX9_feed_22 rfl (lv_at hl 0 rfl) ?_
    refine lv_iload_n hx hb dX9_feed_23 rfl (lv_at hl 3 rfl) ?_
    refine m_callv (m_runV (0) (As := [.int (a2)]) (rest := []) hx hb hml hown hts hE hM hS hA ce_X9_putOnTape tb_550 (C_X9_putOnTape l D A ad ns I3 L G (a2) hG (by omega)) rfl rfl ⟨Nat.le_of_ble_eq_true rfl, Nat.le_of_ble_eq_true rfl⟩ (hG.1 0 (by decide)) rfl rfl (by decide) rfl hl.1 rfl (Nat.le_of_ble_eq_true rfl) dX9_feed_24 ⟨Nat.le_of_ble_eq_true rfl, Nat.le_of_ble_eq_true rfl⟩) hS (fun u H locs hw hM hS => ?_)
    obtain ⟨I4, rfl, hI4⟩ := hw
    have hM : Mem D A ad ns I4 L G H := hM
    refine lv_aload_n hx hb dX9_feed_27 rfl (lv_at hl 0 rfl) ?_
    refine lv_iload hx hb dX9_feed_28 (lv_at hl 4 rfl) ?_
    refine m_callv (m_runV (0) (As := [.int (a3)]) (rest := []) hx hb hml hown hts hE hM hS hA ce_X9_putOnTape tb_550 (C_X9_putOnTape l D A ad ns I4 L G (a3) hG (by omega)) rfl rfl ⟨Nat.le_of_ble_eq_true rfl, Nat.le_of_ble_eq_true rfl⟩ (hG.1 0 (by decide)) rfl rfl (by decide) rfl hl.1 rfl (Nat.le_of_ble_eq_true rfl) dX9_feed_30 ⟨Nat.le_of_ble_eq_true rfl, Nat.le_of_ble_eq_true rfl⟩) hS (fun u H locs hw hM hS => ?_)
    obtain ⟨I5, rfl, hI5⟩ := hw
    have hM : Mem D A ad ns I5 L G H := hM
    refine lv_aload_n hx hb dX9_feed_33 rfl (lv_at hl 0 rfl) ?_
    refine lv_iload hx hb dX9_feed_34 (lv_at hl 5 rfl) ?_
    refine m_callv (m_runV (0) (As := [.int (a4)]) (rest := []) hx hb hml hown hts hE hM hS hA ce_X9_putOnTape tb_550 (C_X9_putOnTape l D A ad ns I5 L G (a4) hG (by omega)) rfl rfl ⟨Nat.le_of_ble_eq_true rfl, Nat.le_of_ble_eq_true rfl⟩ (hG.1 0 (by decide)) rfl rfl (by decide) rfl hl.1 rfl (Nat.le_of_ble_eq_true rfl) dX9_feed_36 ⟨Nat.le_of_ble_eq_true rfl, Nat.le_of_ble_eq_true rfl⟩) hS (fun u H locs hw hM hS => ?_)
    obtain ⟨I6, rfl, hI6⟩ := hw
    have hM : Mem D A ad ns I6 L G H := hM
    refine lv_aload_n hx hb dX9_feed_39 rfl (lv_at hl 0 rfl) ?_
    refine m_geti (0) 15 hx hb hts hown hE oc9 hM (hG.1 0 (by decide)) rfl (by decide) rfl tb_413 dX9_feed_40 ?_
    exact m_iret hx hb hr hlocks hM hS (Nat.le_of_ble_eq_true rfl) (Nat.le_of_ble_eq_true rfl) ⟨_, rfl, Or.inl ⟨by omega, by omega⟩⟩ dX9_feed_43
  · have hc1 := c1
    have q1 := q_nle hc1
    refine lv_iconst (v := (-1)) hx hb dX9_feed_10 (by decide) ?_
    exact m_iret hx hb hr hlocks hM hS (Nat.le_of_ble_eq_true rfl) (Nat.le_of_ble_eq_true rfl) ⟨_, rfl, Or.inr ⟨by omega, rfl⟩⟩ dX9_feed_11
theorem dX9_end_0 : decode cX9_end 0 = .ok (.iload_n 1, 1) := by decide +kernel
theorem dX9_end_1 : decode cX9_end 1 = .ok (.iconst 0, 1) := by decide +kernel
theorem dX9_end_2 : decode cX9_end 2 = .ok (.aload_n 0, 1) := by decide +kernel
theorem dX9_end_3 : decode cX9_end 3 = .ok (.getfield 172, 3) := by decide +kernel
theorem dX9_end_6 : decode cX9_end 6 = .ok (.invokestatic 95, 3) := by decide +kernel
theorem dX9_end_9 : decode cX9_end 9 = .ok (.ifCond .ne 5, 3) := by decide +kernel
theorem dX9_end_12 : decode cX9_end 12 = .ok (.iconst (-1), 1) := by decide +kernel
theorem dX9_end_13 : decode cX9_end 13 = .ok (.ireturn, 1) := by decide +kernel
theorem dX9_end_14 : decode cX9_end 14 = .ok (.aload_n 0, 1) := by decide +kernel
theorem dX9_end_15 : decode cX9_end 15 = .ok (.iload_n 1, 1) := by decide +kernel
theorem dX9_end_16 : decode cX9_end 16 = .ok (.putfield 172, 3) := by decide +kernel
theorem dX9_end_19 : decode cX9_end 19 = .ok (.iload_n 1, 1) := by decide +kernel
theorem dX9_end_20 : decode cX9_end 20 = .ok (.ireturn, 1) := by decide +kernel
theorem ce_X9_end : CeV RX9 yX9_end cX9_end 2 (some .int) 1 := ⟨tb_555, tb_556, tb_1, tb_557, rfl, by decide, by decide, by decide +kernel⟩
set_option maxHeartbeats 4000000 in
set_option maxRecDepth 20000 in
theorem C_X9_end (l : Launch) (D : va_G) (A : Nat → Prop) (ad : Nat → Nat) (ns : List Nat) (I : MI) (L : ML) (G : MG) (n : Int32) (hG : SGC ns G) : Met l yX9_end (wd yX9_end cX9_end 2 (some .int)) ({ frames := 1, cells := 0, slots := 0, locals := 22 }) (va_Pc [.ref (ad 0), .int n] (PM D A ad ns I L G)) (va_Qi (fun z u => ((0 ≤ n.toInt ∧ n.toInt ≤ (I 0 15).toInt) ∧ z = n ∧ u = (ad, ns, u2 I 0 15 n, L, G)) ∨ (¬ (0 ≤ n.toInt ∧ n.toInt ≤ (I 0 15).toInt) ∧ z = -1 ∧ u = (ad, ns, I, L, G))) (BM D A) A) 0 0 A := by
  refine m_ofW (by decide) (Nat.le_of_ble_eq_true rfl) ?_
  intro p e s m below meth c ls args hC hE hM hA hS hl
  obtain ⟨hx, hb, hml, hown, hts, hr, hlocks, hin⟩ := hC
  have km1 : (-1 : Int32).toInt = -1 := by decide
  have k0 : (0 : Int32).toInt = 0 := by decide
  have hl : lv_has ls 2 [(0, .ref (ad (0))), (1, .int (n))] := hl
  refine lv_iload_n hx hb dX9_end_0 rfl (lv_at hl 1 rfl) ?_
  refine lv_iconst (v := (0)) hx hb dX9_end_1 (by decide) ?_
  refine lv_aload_n hx hb dX9_end_2 rfl (lv_at hl 0 rfl) ?_
  refine m_geti (0) 15 hx hb hts hown hE oc9 hM (hG.1 0 (by decide)) rfl (by decide) rfl tb_413 dX9_end_3 ?_
  refine m_calli (m_runS (As := [.int (n), .int (0), .int (I (0) 15)]) (rest := []) hx hb hml hown hts hE hM hS hA ce_X9_isWithin tb_451 (C_X9_isWithin l D A ad ns I L G (n) (0) (I (0) 15)) rfl rfl ⟨Nat.le_of_ble_eq_true rfl, Nat.le_of_ble_eq_true rfl⟩  rfl hl.1 rfl (Nat.le_of_ble_eq_true rfl) dX9_end_6 ⟨Nat.le_of_ble_eq_true rfl, Nat.le_of_ble_eq_true rfl⟩) hS (fun r1 u H locs hw hM hS => ?_)
  obtain ⟨rfl, b_r1⟩ := hw
  have hM : Mem D A ad ns I L G H := hM
  refine lv_if_ne (tgt := 14) hx hb dX9_end_9 (by decide) (fun c2 => ?_) (fun c2 => ?_)
  · have hc2 := c2
    have q2 := b_r1.t hc2
    refine lv_aload_n hx hb dX9_end_14 rfl (lv_at hl 0 rfl) ?_
    refine lv_iload_n hx hb dX9_end_15 rfl (lv_at hl 1 rfl) ?_
    refine m_puti (0) 15 hx hb hts hown hE oc9 hM hS (hG.1 0 (by decide)) rfl (by decide) rfl rfl rfl rfl tb_413 dX9_end_16 (fun H locs I3 eI3 hM hS => ?_)
    subst eI3
    refine lv_iload_n hx hb dX9_end_19 rfl (lv_at hl 1 rfl) ?_
    exact m_iret hx hb hr hlocks hM hS (Nat.le_of_ble_eq_true rfl) (Nat.le_of_ble_eq_true rfl) (Or.inl ⟨by omega, rfl, rfl⟩) dX9_end_20
  · have hc2 := c2
    have q2 := b_r1.f hc2
    refine lv_iconst (v := (-1)) hx hb dX9_end_12 (by decide) ?_
    exact m_iret hx hb hr hlocks hM hS (Nat.le_of_ble_eq_true rfl) (Nat.le_of_ble_eq_true rfl) (Or.inr ⟨by omega, rfl, rfl⟩) dX9_end_13
theorem dX9_count_0 : decode cX9_count 0 = .ok (.iload_n 1, 1) := by decide +kernel
theorem dX9_count_1 : decode cX9_count 1 = .ok (.bipush 8, 2) := by decide +kernel
theorem dX9_count_3 : decode cX9_count 3 = .ok (.if_icmp .ne 8, 3) := by decide +kernel
theorem dX9_count_6 : decode cX9_count 6 = .ok (.aload_n 0, 1) := by decide +kernel
theorem dX9_count_7 : decode cX9_count 7 = .ok (.getfield 179, 3) := by decide +kernel
theorem dX9_count_10 : decode cX9_count 10 = .ok (.ireturn, 1) := by decide +kernel
theorem dX9_count_11 : decode cX9_count 11 = .ok (.iload_n 1, 1) := by decide +kernel
theorem dX9_count_12 : decode cX9_count 12 = .ok (.bipush 9, 2) := by decide +kernel
theorem dX9_count_14 : decode cX9_count 14 = .ok (.if_icmp .ne 8, 3) := by decide +kernel
theorem dX9_count_17 : decode cX9_count 17 = .ok (.aload_n 0, 1) := by decide +kernel
theorem dX9_count_18 : decode cX9_count 18 = .ok (.getfield 172, 3) := by decide +kernel
theorem dX9_count_21 : decode cX9_count 21 = .ok (.ireturn, 1) := by decide +kernel
theorem dX9_count_22 : decode cX9_count 22 = .ok (.aload_n 0, 1) := by decide +kernel
theorem dX9_count_23 : decode cX9_count 23 = .ok (.getfield 10, 3) := by decide +kernel
theorem dX9_count_26 : decode cX9_count 26 = .ok (.invokevirtual 111, 3) := by decide +kernel
theorem dX9_count_29 : decode cX9_count 29 = .ok (.ifCond .eq 11, 3) := by decide +kernel
theorem dX9_count_40 : decode cX9_count 40 = .ok (.iconst (-1), 1) := by decide +kernel
theorem dX9_count_41 : decode cX9_count 41 = .ok (.ireturn, 1) := by decide +kernel
theorem ce_X9_count : CeV RX9 yX9_count cX9_count 2 (some .int) 1 := ⟨tb_1157, tb_1158, tb_1, tb_1159, rfl, by decide, by decide, by decide +kernel⟩
set_option maxHeartbeats 4000000 in
set_option maxRecDepth 20000 in
theorem F_X9_count (l : Launch) (D : va_G) (A : Nat → Prop) (ad : Nat → Nat) (ns : List Nat) (I : MI) (L : ML) (G : MG) (a : Int32) (hG : SGC ns G) (hI : ∀ n k, n < 1000 → I n k = 0) : Met l yX9_count (wd yX9_count cX9_count 2 (some .int)) ({ frames := 1, cells := 0, slots := 0, locals := 20 }) (va_Pc [.ref (ad 0), .int a] (PM D A ad ns I L G)) (va_Qi (fun z u => u = (ad, ns, I, L, G) ∧ (((a.toInt = 8 ∨ a.toInt = 9) ∧ z = 0) ∨ (¬ (a.toInt = 8 ∨ a.toInt = 9) ∧ z = -1))) (BM D A) A) 0 0 A := by
  refine m_ofW (by decide) (Nat.le_of_ble_eq_true rfl) ?_
  intro p e s m below meth c ls args hC hE hM hA hS hl
  obtain ⟨hx, hb, hml, hown, hts, hr, hlocks, hin⟩ := hC
  have km1 : (-1 : Int32).toInt = -1 := by decide
  have k0 : (0 : Int32).toInt = 0 := by decide
  have k8 : (8 : Int32).toInt = 8 := by decide
  have k9 : (9 : Int32).toInt = 9 := by decide
  have hl : lv_has ls 2 [(0, .ref (ad (0))), (1, .int (a))] := hl
  refine lv_iload_n hx hb dX9_count_0 rfl (lv_at hl 1 rfl) ?_
  refine lv_bipush (v := (8)) hx hb dX9_count_1 (by decide) ?_
  refine lv_icmp_ne (tgt := 11) hx hb dX9_count_3 (by decide) (fun c1 => ?_) (fun c1 => ?_)
  · have hc1 := c1
    have q1 := q_ne hc1
    refine lv_iload_n hx hb dX9_count_11 rfl (lv_at hl 1 rfl) ?_
    refine lv_bipush (v := (9)) hx hb dX9_count_12 (by decide) ?_
    refine lv_icmp_ne (tgt := 22) hx hb dX9_count_14 (by decide) (fun c2 => ?_) (fun c2 => ?_)
    · have hc2 := c2
      have q2 := q_ne hc2
      refine lv_aload_n hx hb dX9_count_22 rfl (lv_at hl 0 rfl) ?_
      refine m_getr (0) 0 (100) hx hb hts hown hE oc9 hM (hG.1 0 (by decide)) rfl (by decide) rfl (hG.2 (0, 0, 100) (by decide)) (by decide) tb_398 dX9_count_23 ?_
      refine m_calli (m_runV (100) (As := []) (rest := []) hx hb hml hown hts hE hM hS hA ce_X8_isBegun tb_484 (C_X8_isBegun l D A ad ns I L G (100) hG.t0) rfl rfl ⟨Nat.le_of_ble_eq_true rfl, Nat.le_of_ble_eq_true rfl⟩ (hG.1 100 (by decide)) rfl rfl (by decide) rfl hl.1 rfl (Nat.le_of_ble_eq_true rfl) dX9_count_26 ⟨Nat.le_of_ble_eq_true rfl, Nat.le_of_ble_eq_true rfl⟩) hS (fun r3 u H locs hw hM hS => ?_)
      obtain ⟨rfl, b_r3⟩ := hw
      have hM : Mem D A ad ns I L G H := hM
      obtain rfl : r3 = 0 := b_r3.z (by rw [hI 100 0 (by decide)]; omega)
      refine lv_if_eq (tgt := 40) hx hb dX9_count_29 (by decide) (fun c4 => ?_) (fun c4 => ?_)
      · have hc4 := c4
        have q4 := q_eq hc4
        refine lv_iconst (v := (-1)) hx hb dX9_count_40 (by decide) ?_
        exact m_iret hx hb hr hlocks hM hS (Nat.le_of_ble_eq_true rfl) (Nat.le_of_ble_eq_true rfl) ⟨rfl, Or.inr ⟨by omega, rfl⟩⟩ dX9_count_41
      · exact absurd c4 (by decide)
    · have hc2 := c2
      have q2 := q_eq hc2
      refine lv_aload_n hx hb dX9_count_17 rfl (lv_at hl 0 rfl) ?_
      refine m_geti (0) 15 hx hb hts hown hE oc9 hM (hG.1 0 (by decide)) rfl (by decide) rfl tb_413 dX9_count_18 ?_
      rw [show I (0) 15 = 0 from by simp [u2_v, hI]]
      exact m_iret hx hb hr hlocks hM hS (Nat.le_of_ble_eq_true rfl) (Nat.le_of_ble_eq_true rfl) ⟨rfl, Or.inl ⟨by omega, rfl⟩⟩ dX9_count_21
  · have hc1 := c1
    have q1 := q_eq hc1
    refine lv_aload_n hx hb dX9_count_6 rfl (lv_at hl 0 rfl) ?_
    refine m_geti (0) 14 hx hb hts hown hE oc9 hM (hG.1 0 (by decide)) rfl (by decide) rfl tb_412 dX9_count_7 ?_
    rw [show I (0) 14 = 0 from by simp [u2_v, hI]]
    exact m_iret hx hb hr hlocks hM hS (Nat.le_of_ble_eq_true rfl) (Nat.le_of_ble_eq_true rfl) ⟨rfl, Or.inl ⟨by omega, rfl⟩⟩ dX9_count_10
end

section
-- ===== PART A: goes FIRST, ahead of the names: the tables' words, and 'selects' of the private methods out of them =====
/-- a private method of a class that the tables say can be made, by its rows of tables_1 -/
def lw_okq (q : MethodName × Nat) : Prop := (q.1.cls ≠ "java/lang/invoke/MethodHandle" ∧ q.1.cls ≠ "java/lang/invoke/VarHandle") ∧ Cond.instantiable q.1.cls q.2 ∈ tables_1 ∧ Cond.privateMethod q.1 ∈ tables_1 ∧ Cond.instanceMethod q.1 ∈ tables_1
theorem lw_p0 : lw_okq (⟨"OneSunbeam", "changeMirror", "(IIIZ)I"⟩, 16) := ⟨⟨by decide +kernel, by decide +kernel⟩, List.mem_of_getElem? (i := 21) (by decide +kernel), List.mem_of_getElem? (i := 513) (by decide +kernel), List.mem_of_getElem? (i := 514) (by decide +kernel)⟩
theorem lw_p1 : lw_okq (⟨"OneSunbeam", "putOnTape", "(I)V"⟩, 16) := ⟨⟨by decide +kernel, by decide +kernel⟩, List.mem_of_getElem? (i := 21) (by decide +kernel), List.mem_of_getElem? (i := 551) (by decide +kernel), List.mem_of_getElem? (i := 552) (by decide +kernel)⟩
theorem lw_p2 : lw_okq (⟨"OneSunbeam$LawReader", "readToken", "()V"⟩, 14) := ⟨⟨by decide +kernel, by decide +kernel⟩, List.mem_of_getElem? (i := 313) (by decide +kernel), List.mem_of_getElem? (i := 574) (by decide +kernel), List.mem_of_getElem? (i := 575) (by decide +kernel)⟩
theorem lw_p3 : lw_okq (⟨"OneSunbeam$LawReader", "byteAt", "(I)I"⟩, 14) := ⟨⟨by decide +kernel, by decide +kernel⟩, List.mem_of_getElem? (i := 313) (by decide +kernel), List.mem_of_getElem? (i := 578) (by decide +kernel), List.mem_of_getElem? (i := 579) (by decide +kernel)⟩
theorem lw_p4 : lw_okq (⟨"OneSunbeam$LawReader", "readNumber", "()V"⟩, 14) := ⟨⟨by decide +kernel, by decide +kernel⟩, List.mem_of_getElem? (i := 313) (by decide +kernel), List.mem_of_getElem? (i := 585) (by decide +kernel), List.mem_of_getElem? (i := 586) (by decide +kernel)⟩
theorem lw_p5 : lw_okq (⟨"OneSunbeam$LawReader", "yardHere", "()I"⟩, 14) := ⟨⟨by decide +kernel, by decide +kernel⟩, List.mem_of_getElem? (i := 313) (by decide +kernel), List.mem_of_getElem? (i := 592) (by decide +kernel), List.mem_of_getElem? (i := 593) (by decide +kernel)⟩
theorem lw_p6 : lw_okq (⟨"OneSunbeam$LawReader", "wordHere", "()I"⟩, 14) := ⟨⟨by decide +kernel, by decide +kernel⟩, List.mem_of_getElem? (i := 313) (by decide +kernel), List.mem_of_getElem? (i := 596) (by decide +kernel), List.mem_of_getElem? (i := 597) (by decide +kernel)⟩
theorem lw_p7 : lw_okq (⟨"OneSunbeam$LawReader", "isWord", "(Ljava/lang/String;)Z"⟩, 14) := ⟨⟨by decide +kernel, by decide +kernel⟩, List.mem_of_getElem? (i := 313) (by decide +kernel), List.mem_of_getElem? (i := 601) (by decide +kernel), List.mem_of_getElem? (i := 602) (by decide +kernel)⟩
theorem lw_p8 : lw_okq (⟨"OneSunbeam$LawReader", "signHere", "()I"⟩, 14) := ⟨⟨by decide +kernel, by decide +kernel⟩, List.mem_of_getElem? (i := 313) (by decide +kernel), List.mem_of_getElem? (i := 662) (by decide +kernel), List.mem_of_getElem? (i := 663) (by decide +kernel)⟩
theorem lw_p9 : lw_okq (⟨"OneSunbeam$LawReader", "takeToken", "()V"⟩, 14) := ⟨⟨by decide +kernel, by decide +kernel⟩, List.mem_of_getElem? (i := 313) (by decide +kernel), List.mem_of_getElem? (i := 666) (by decide +kernel), List.mem_of_getElem? (i := 667) (by decide +kernel)⟩
theorem lw_p10 : lw_okq (⟨"OneSunbeam$LawReader", "takeTurn", "()V"⟩, 14) := ⟨⟨by decide +kernel, by decide +kernel⟩, List.mem_of_getElem? (i := 313) (by decide +kernel), List.mem_of_getElem? (i := 670) (by decide +kernel), List.mem_of_getElem? (i := 671) (by decide +kernel)⟩
theorem lw_p11 : lw_okq (⟨"OneSunbeam$LawReader", "fail", "(I)V"⟩, 14) := ⟨⟨by decide +kernel, by decide +kernel⟩, List.mem_of_getElem? (i := 313) (by decide +kernel), List.mem_of_getElem? (i := 674) (by decide +kernel), List.mem_of_getElem? (i := 675) (by decide +kernel)⟩
theorem lw_p12 : lw_okq (⟨"OneSunbeam$LawReader", "takeMirror", "()V"⟩, 14) := ⟨⟨by decide +kernel, by decide +kernel⟩, List.mem_of_getElem? (i := 313) (by decide +kernel), List.mem_of_getElem? (i := 678) (by decide +kernel), List.mem_of_getElem? (i := 679) (by decide +kernel)⟩
theorem lw_p13 : lw_okq (⟨"OneSunbeam$LawReader", "takeFact", "()V"⟩, 14) := ⟨⟨by decide +kernel, by decide +kernel⟩, List.mem_of_getElem? (i := 313) (by decide +kernel), List.mem_of_getElem? (i := 686) (by decide +kernel), List.mem_of_getElem? (i := 687) (by decide +kernel)⟩
theorem lw_p14 : lw_okq (⟨"OneSunbeam$LawReader", "takeValue", "()V"⟩, 14) := ⟨⟨by decide +kernel, by decide +kernel⟩, List.mem_of_getElem? (i := 313) (by decide +kernel), List.mem_of_getElem? (i := 690) (by decide +kernel), List.mem_of_getElem? (i := 691) (by decide +kernel)⟩
theorem lw_p15 : lw_okq (⟨"OneSunbeam$LawReader", "countsOneMore", "()Z"⟩, 14) := ⟨⟨by decide +kernel, by decide +kernel⟩, List.mem_of_getElem? (i := 313) (by decide +kernel), List.mem_of_getElem? (i := 694) (by decide +kernel), List.mem_of_getElem? (i := 695) (by decide +kernel)⟩
def lw_privs_1 : List (MethodName × Nat) := [(⟨"OneSunbeam", "changeMirror", "(IIIZ)I"⟩, 16), (⟨"OneSunbeam", "putOnTape", "(I)V"⟩, 16), (⟨"OneSunbeam$LawReader", "readToken", "()V"⟩, 14), (⟨"OneSunbeam$LawReader", "byteAt", "(I)I"⟩, 14), (⟨"OneSunbeam$LawReader", "readNumber", "()V"⟩, 14), (⟨"OneSunbeam$LawReader", "yardHere", "()I"⟩, 14), (⟨"OneSunbeam$LawReader", "wordHere", "()I"⟩, 14), (⟨"OneSunbeam$LawReader", "isWord", "(Ljava/lang/String;)Z"⟩, 14), (⟨"OneSunbeam$LawReader", "signHere", "()I"⟩, 14), (⟨"OneSunbeam$LawReader", "takeToken", "()V"⟩, 14), (⟨"OneSunbeam$LawReader", "takeTurn", "()V"⟩, 14), (⟨"OneSunbeam$LawReader", "fail", "(I)V"⟩, 14), (⟨"OneSunbeam$LawReader", "takeMirror", "()V"⟩, 14), (⟨"OneSunbeam$LawReader", "takeFact", "()V"⟩, 14), (⟨"OneSunbeam$LawReader", "takeValue", "()V"⟩, 14), (⟨"OneSunbeam$LawReader", "countsOneMore", "()Z"⟩, 14)]
theorem lw_r1 : ∀ q ∈ lw_privs_1, lw_okq q := List.forall_mem_cons.mpr ⟨lw_p0, List.forall_mem_cons.mpr ⟨lw_p1, List.forall_mem_cons.mpr ⟨lw_p2, List.forall_mem_cons.mpr ⟨lw_p3, List.forall_mem_cons.mpr ⟨lw_p4, List.forall_mem_cons.mpr ⟨lw_p5, List.forall_mem_cons.mpr ⟨lw_p6, List.forall_mem_cons.mpr ⟨lw_p7, List.forall_mem_cons.mpr ⟨lw_p8, List.forall_mem_cons.mpr ⟨lw_p9, List.forall_mem_cons.mpr ⟨lw_p10, List.forall_mem_cons.mpr ⟨lw_p11, List.forall_mem_cons.mpr ⟨lw_p12, List.forall_mem_cons.mpr ⟨lw_p13, List.forall_mem_cons.mpr ⟨lw_p14, List.forall_mem_cons.mpr ⟨lw_p15, fun _ h => absurd h List.not_mem_nil⟩⟩⟩⟩⟩⟩⟩⟩⟩⟩⟩⟩⟩⟩⟩⟩
theorem lw_p16 : lw_okq (⟨"OneSunbeam$LawReader", "push", "(I)V"⟩, 14) := ⟨⟨by decide +kernel, by decide +kernel⟩, List.mem_of_getElem? (i := 313) (by decide +kernel), List.mem_of_getElem? (i := 702) (by decide +kernel), List.mem_of_getElem? (i := 703) (by decide +kernel)⟩
theorem lw_p17 : lw_okq (⟨"OneSunbeam$LawReader", "takeBehind", "()V"⟩, 14) := ⟨⟨by decide +kernel, by decide +kernel⟩, List.mem_of_getElem? (i := 313) (by decide +kernel), List.mem_of_getElem? (i := 706) (by decide +kernel), List.mem_of_getElem? (i := 707) (by decide +kernel)⟩
theorem lw_p18 : lw_okq (⟨"OneSunbeam$LawReader", "takeSign", "(II)V"⟩, 14) := ⟨⟨by decide +kernel, by decide +kernel⟩, List.mem_of_getElem? (i := 313) (by decide +kernel), List.mem_of_getElem? (i := 710) (by decide +kernel), List.mem_of_getElem? (i := 711) (by decide +kernel)⟩
theorem lw_p19 : lw_okq (⟨"OneSunbeam$LawReader", "popDownTo", "(I)V"⟩, 14) := ⟨⟨by decide +kernel, by decide +kernel⟩, List.mem_of_getElem? (i := 313) (by decide +kernel), List.mem_of_getElem? (i := 717) (by decide +kernel), List.mem_of_getElem? (i := 718) (by decide +kernel)⟩
theorem lw_p20 : lw_okq (⟨"OneSunbeam$LawReader", "closeBracket", "()V"⟩, 14) := ⟨⟨by decide +kernel, by decide +kernel⟩, List.mem_of_getElem? (i := 313) (by decide +kernel), List.mem_of_getElem? (i := 721) (by decide +kernel), List.mem_of_getElem? (i := 722) (by decide +kernel)⟩
theorem lw_p21 : lw_okq (⟨"OneSunbeam$LawReader", "takeClauseEnd", "()V"⟩, 14) := ⟨⟨by decide +kernel, by decide +kernel⟩, List.mem_of_getElem? (i := 313) (by decide +kernel), List.mem_of_getElem? (i := 729) (by decide +kernel), List.mem_of_getElem? (i := 730) (by decide +kernel)⟩
theorem lw_p22 : lw_okq (⟨"OneSunbeam", "findLaw", "(I)LOneSunbeam$Law;"⟩, 16) := ⟨⟨by decide +kernel, by decide +kernel⟩, List.mem_of_getElem? (i := 21) (by decide +kernel), List.mem_of_getElem? (i := 741) (by decide +kernel), List.mem_of_getElem? (i := 742) (by decide +kernel)⟩
theorem lw_p23 : lw_okq (⟨"OneSunbeam$Keepers", "turnMirrors", "(LOneSunbeam$Town;LOneSunbeam$Law;)V"⟩, 4) := ⟨⟨by decide +kernel, by decide +kernel⟩, List.mem_of_getElem? (i := 180) (by decide +kernel), List.mem_of_getElem? (i := 750) (by decide +kernel), List.mem_of_getElem? (i := 751) (by decide +kernel)⟩
theorem lw_p24 : lw_okq (⟨"OneSunbeam$Keepers", "holds", "(LOneSunbeam$Town;LOneSunbeam$Law;I)Z"⟩, 4) := ⟨⟨by decide +kernel, by decide +kernel⟩, List.mem_of_getElem? (i := 180) (by decide +kernel), List.mem_of_getElem? (i := 755) (by decide +kernel), List.mem_of_getElem? (i := 756) (by decide +kernel)⟩
theorem lw_p25 : lw_okq (⟨"OneSunbeam$Keepers", "valueOf", "(LOneSunbeam$Town;LOneSunbeam$Law;III)J"⟩, 4) := ⟨⟨by decide +kernel, by decide +kernel⟩, List.mem_of_getElem? (i := 180) (by decide +kernel), List.mem_of_getElem? (i := 759) (by decide +kernel), List.mem_of_getElem? (i := 760) (by decide +kernel)⟩
theorem lw_p26 : lw_okq (⟨"OneSunbeam$Keepers", "wordValue", "(LOneSunbeam$Town;II)J"⟩, 4) := ⟨⟨by decide +kernel, by decide +kernel⟩, List.mem_of_getElem? (i := 180) (by decide +kernel), List.mem_of_getElem? (i := 763) (by decide +kernel), List.mem_of_getElem? (i := 764) (by decide +kernel)⟩
theorem lw_p27 : lw_okq (⟨"OneSunbeam$Keepers", "gotByYard", "(I)J"⟩, 4) := ⟨⟨by decide +kernel, by decide +kernel⟩, List.mem_of_getElem? (i := 180) (by decide +kernel), List.mem_of_getElem? (i := 777) (by decide +kernel), List.mem_of_getElem? (i := 778) (by decide +kernel)⟩
theorem lw_p28 : lw_okq (⟨"OneSunbeam$Beams", "clear", "()V"⟩, 13) := ⟨⟨by decide +kernel, by decide +kernel⟩, List.mem_of_getElem? (i := 124) (by decide +kernel), List.mem_of_getElem? (i := 806) (by decide +kernel), List.mem_of_getElem? (i := 807) (by decide +kernel)⟩
theorem lw_p29 : lw_okq (⟨"OneSunbeam$Beams", "follow", "(LOneSunbeam$Town;IIII)V"⟩, 13) := ⟨⟨by decide +kernel, by decide +kernel⟩, List.mem_of_getElem? (i := 124) (by decide +kernel), List.mem_of_getElem? (i := 815) (by decide +kernel), List.mem_of_getElem? (i := 816) (by decide +kernel)⟩
theorem lw_p30 : lw_okq (⟨"OneSunbeam$Beams", "passAir", "(LOneSunbeam$Town;II)I"⟩, 13) := ⟨⟨by decide +kernel, by decide +kernel⟩, List.mem_of_getElem? (i := 124) (by decide +kernel), List.mem_of_getElem? (i := 824) (by decide +kernel), List.mem_of_getElem? (i := 825) (by decide +kernel)⟩
theorem lw_p31 : lw_okq (⟨"OneSunbeam$Beams", "passYard", "(LOneSunbeam$Town;II)I"⟩, 13) := ⟨⟨by decide +kernel, by decide +kernel⟩, List.mem_of_getElem? (i := 124) (by decide +kernel), List.mem_of_getElem? (i := 831) (by decide +kernel), List.mem_of_getElem? (i := 832) (by decide +kernel)⟩
def lw_privs_2 : List (MethodName × Nat) := [(⟨"OneSunbeam$LawReader", "push", "(I)V"⟩, 14), (⟨"OneSunbeam$LawReader", "takeBehind", "()V"⟩, 14), (⟨"OneSunbeam$LawReader", "takeSign", "(II)V"⟩, 14), (⟨"OneSunbeam$LawReader", "popDownTo", "(I)V"⟩, 14), (⟨"OneSunbeam$LawReader", "closeBracket", "()V"⟩, 14), (⟨"OneSunbeam$LawReader", "takeClauseEnd", "()V"⟩, 14), (⟨"OneSunbeam", "findLaw", "(I)LOneSunbeam$Law;"⟩, 16), (⟨"OneSunbeam$Keepers", "turnMirrors", "(LOneSunbeam$Town;LOneSunbeam$Law;)V"⟩, 4), (⟨"OneSunbeam$Keepers", "holds", "(LOneSunbeam$Town;LOneSunbeam$Law;I)Z"⟩, 4), (⟨"OneSunbeam$Keepers", "valueOf", "(LOneSunbeam$Town;LOneSunbeam$Law;III)J"⟩, 4), (⟨"OneSunbeam$Keepers", "wordValue", "(LOneSunbeam$Town;II)J"⟩, 4), (⟨"OneSunbeam$Keepers", "gotByYard", "(I)J"⟩, 4), (⟨"OneSunbeam$Beams", "clear", "()V"⟩, 13), (⟨"OneSunbeam$Beams", "follow", "(LOneSunbeam$Town;IIII)V"⟩, 13), (⟨"OneSunbeam$Beams", "passAir", "(LOneSunbeam$Town;II)I"⟩, 13), (⟨"OneSunbeam$Beams", "passYard", "(LOneSunbeam$Town;II)I"⟩, 13)]
theorem lw_r2 : ∀ q ∈ lw_privs_2, lw_okq q := List.forall_mem_cons.mpr ⟨lw_p16, List.forall_mem_cons.mpr ⟨lw_p17, List.forall_mem_cons.mpr ⟨lw_p18, List.forall_mem_cons.mpr ⟨lw_p19, List.forall_mem_cons.mpr ⟨lw_p20, List.forall_mem_cons.mpr ⟨lw_p21, List.forall_mem_cons.mpr ⟨lw_p22, List.forall_mem_cons.mpr ⟨lw_p23, List.forall_mem_cons.mpr ⟨lw_p24, List.forall_mem_cons.mpr ⟨lw_p25, List.forall_mem_cons.mpr ⟨lw_p26, List.forall_mem_cons.mpr ⟨lw_p27, List.forall_mem_cons.mpr ⟨lw_p28, List.forall_mem_cons.mpr ⟨lw_p29, List.forall_mem_cons.mpr ⟨lw_p30, List.forall_mem_cons.mpr ⟨lw_p31, fun _ h => absurd h List.not_mem_nil⟩⟩⟩⟩⟩⟩⟩⟩⟩⟩⟩⟩⟩⟩⟩⟩
theorem lw_p32 : lw_okq (⟨"OneSunbeam$Beams", "passMirror", "(LOneSunbeam$Town;III)I"⟩, 13) := ⟨⟨by decide +kernel, by decide +kernel⟩, List.mem_of_getElem? (i := 124) (by decide +kernel), List.mem_of_getElem? (i := 843) (by decide +kernel), List.mem_of_getElem? (i := 844) (by decide +kernel)⟩
theorem lw_p33 : lw_okq (⟨"OneSunbeam$Beams", "letWait", "(II)V"⟩, 13) := ⟨⟨by decide +kernel, by decide +kernel⟩, List.mem_of_getElem? (i := 124) (by decide +kernel), List.mem_of_getElem? (i := 852) (by decide +kernel), List.mem_of_getElem? (i := 853) (by decide +kernel)⟩
theorem lw_p34 : lw_okq (⟨"OneSunbeam$Beams", "isBlind", "(LOneSunbeam$Town;I)Z"⟩, 13) := ⟨⟨by decide +kernel, by decide +kernel⟩, List.mem_of_getElem? (i := 124) (by decide +kernel), List.mem_of_getElem? (i := 868) (by decide +kernel), List.mem_of_getElem? (i := 869) (by decide +kernel)⟩
theorem lw_p35 : lw_okq (⟨"OneSunbeam$Keepers", "addToday", "()V"⟩, 4) := ⟨⟨by decide +kernel, by decide +kernel⟩, List.mem_of_getElem? (i := 180) (by decide +kernel), List.mem_of_getElem? (i := 873) (by decide +kernel), List.mem_of_getElem? (i := 874) (by decide +kernel)⟩
theorem lw_p36 : lw_okq (⟨"OneSunbeam", "worthOfSet", "(II)I"⟩, 16) := ⟨⟨by decide +kernel, by decide +kernel⟩, List.mem_of_getElem? (i := 21) (by decide +kernel), List.mem_of_getElem? (i := 937) (by decide +kernel), List.mem_of_getElem? (i := 938) (by decide +kernel)⟩
theorem lw_p37 : lw_okq (⟨"OneSunbeam", "isPlaceOfSet", "(II)Z"⟩, 16) := ⟨⟨by decide +kernel, by decide +kernel⟩, List.mem_of_getElem? (i := 21) (by decide +kernel), List.mem_of_getElem? (i := 957) (by decide +kernel), List.mem_of_getElem? (i := 958) (by decide +kernel)⟩
theorem lw_p38 : lw_okq (⟨"OneSunbeam$Aiming", "gather", "(LOneSunbeam$Town;I)V"⟩, 7) := ⟨⟨by decide +kernel, by decide +kernel⟩, List.mem_of_getElem? (i := 200) (by decide +kernel), List.mem_of_getElem? (i := 971) (by decide +kernel), List.mem_of_getElem? (i := 972) (by decide +kernel)⟩
theorem lw_p39 : lw_okq (⟨"OneSunbeam$Aiming", "putSlants", "(LOneSunbeam$Town;[I)V"⟩, 7) := ⟨⟨by decide +kernel, by decide +kernel⟩, List.mem_of_getElem? (i := 200) (by decide +kernel), List.mem_of_getElem? (i := 976) (by decide +kernel), List.mem_of_getElem? (i := 977) (by decide +kernel)⟩
theorem lw_p40 : lw_okq (⟨"OneSunbeam$Aiming", "leastGot", "(LOneSunbeam$Town;)I"⟩, 7) := ⟨⟨by decide +kernel, by decide +kernel⟩, List.mem_of_getElem? (i := 200) (by decide +kernel), List.mem_of_getElem? (i := 982) (by decide +kernel), List.mem_of_getElem? (i := 983) (by decide +kernel)⟩
theorem lw_p41 : lw_okq (⟨"OneSunbeam$Aiming", "lastTouched", "()I"⟩, 7) := ⟨⟨by decide +kernel, by decide +kernel⟩, List.mem_of_getElem? (i := 200) (by decide +kernel), List.mem_of_getElem? (i := 988) (by decide +kernel), List.mem_of_getElem? (i := 989) (by decide +kernel)⟩
theorem lw_p42 : lw_okq (⟨"OneSunbeam$Aiming", "goOn", "(I)Z"⟩, 7) := ⟨⟨by decide +kernel, by decide +kernel⟩, List.mem_of_getElem? (i := 200) (by decide +kernel), List.mem_of_getElem? (i := 996) (by decide +kernel), List.mem_of_getElem? (i := 997) (by decide +kernel)⟩
theorem lw_p43 : lw_okq (⟨"OneSunbeam$Mending", "isEnough", "()Z"⟩, 9) := ⟨⟨by decide +kernel, by decide +kernel⟩, List.mem_of_getElem? (i := 228) (by decide +kernel), List.mem_of_getElem? (i := 1025) (by decide +kernel), List.mem_of_getElem? (i := 1026) (by decide +kernel)⟩
theorem lw_p44 : lw_okq (⟨"OneSunbeam$Mending", "isMendedBy", "(II)Z"⟩, 9) := ⟨⟨by decide +kernel, by decide +kernel⟩, List.mem_of_getElem? (i := 228) (by decide +kernel), List.mem_of_getElem? (i := 1040) (by decide +kernel), List.mem_of_getElem? (i := 1041) (by decide +kernel)⟩
theorem lw_p45 : lw_okq (⟨"OneSunbeam$Mending", "findSlants", "(II)Z"⟩, 9) := ⟨⟨by decide +kernel, by decide +kernel⟩, List.mem_of_getElem? (i := 228) (by decide +kernel), List.mem_of_getElem? (i := 1048) (by decide +kernel), List.mem_of_getElem? (i := 1049) (by decide +kernel)⟩
theorem lw_p46 : lw_okq (⟨"OneSunbeam$Mending", "doesPairMatter", "(IIII)Z"⟩, 9) := ⟨⟨by decide +kernel, by decide +kernel⟩, List.mem_of_getElem? (i := 228) (by decide +kernel), List.mem_of_getElem? (i := 1052) (by decide +kernel), List.mem_of_getElem? (i := 1053) (by decide +kernel)⟩
theorem lw_p47 : lw_okq (⟨"OneSunbeam$Opening", "tryWays", "(LOneSunbeam$Town;I)V"⟩, 4) := ⟨⟨by decide +kernel, by decide +kernel⟩, List.mem_of_getElem? (i := 263) (by decide +kernel), List.mem_of_getElem? (i := 1073) (by decide +kernel), List.mem_of_getElem? (i := 1074) (by decide +kernel)⟩
def lw_privs_3 : List (MethodName × Nat) := [(⟨"OneSunbeam$Beams", "passMirror", "(LOneSunbeam$Town;III)I"⟩, 13), (⟨"OneSunbeam$Beams", "letWait", "(II)V"⟩, 13), (⟨"OneSunbeam$Beams", "isBlind", "(LOneSunbeam$Town;I)Z"⟩, 13), (⟨"OneSunbeam$Keepers", "addToday", "()V"⟩, 4), (⟨"OneSunbeam", "worthOfSet", "(II)I"⟩, 16), (⟨"OneSunbeam", "isPlaceOfSet", "(II)Z"⟩, 16), (⟨"OneSunbeam$Aiming", "gather", "(LOneSunbeam$Town;I)V"⟩, 7), (⟨"OneSunbeam$Aiming", "putSlants", "(LOneSunbeam$Town;[I)V"⟩, 7), (⟨"OneSunbeam$Aiming", "leastGot", "(LOneSunbeam$Town;)I"⟩, 7), (⟨"OneSunbeam$Aiming", "lastTouched", "()I"⟩, 7), (⟨"OneSunbeam$Aiming", "goOn", "(I)Z"⟩, 7), (⟨"OneSunbeam$Mending", "isEnough", "()Z"⟩, 9), (⟨"OneSunbeam$Mending", "isMendedBy", "(II)Z"⟩, 9), (⟨"OneSunbeam$Mending", "findSlants", "(II)Z"⟩, 9), (⟨"OneSunbeam$Mending", "doesPairMatter", "(IIII)Z"⟩, 9), (⟨"OneSunbeam$Opening", "tryWays", "(LOneSunbeam$Town;I)V"⟩, 4)]
theorem lw_r3 : ∀ q ∈ lw_privs_3, lw_okq q := List.forall_mem_cons.mpr ⟨lw_p32, List.forall_mem_cons.mpr ⟨lw_p33, List.forall_mem_cons.mpr ⟨lw_p34, List.forall_mem_cons.mpr ⟨lw_p35, List.forall_mem_cons.mpr ⟨lw_p36, List.forall_mem_cons.mpr ⟨lw_p37, List.forall_mem_cons.mpr ⟨lw_p38, List.forall_mem_cons.mpr ⟨lw_p39, List.forall_mem_cons.mpr ⟨lw_p40, List.forall_mem_cons.mpr ⟨lw_p41, List.forall_mem_cons.mpr ⟨lw_p42, List.forall_mem_cons.mpr ⟨lw_p43, List.forall_mem_cons.mpr ⟨lw_p44, List.forall_mem_cons.mpr ⟨lw_p45, List.forall_mem_cons.mpr ⟨lw_p46, List.forall_mem_cons.mpr ⟨lw_p47, fun _ h => absurd h List.not_mem_nil⟩⟩⟩⟩⟩⟩⟩⟩⟩⟩⟩⟩⟩⟩⟩⟩
theorem lw_p48 : lw_okq (⟨"OneSunbeam$Theft", "walk", "(LOneSunbeam$Town;I)V"⟩, 6) := ⟨⟨by decide +kernel, by decide +kernel⟩, List.mem_of_getElem? (i := 285) (by decide +kernel), List.mem_of_getElem? (i := 1095) (by decide +kernel), List.mem_of_getElem? (i := 1096) (by decide +kernel)⟩
theorem lw_p49 : lw_okq (⟨"OneSunbeam$Theft", "meet", "(II)I"⟩, 6) := ⟨⟨by decide +kernel, by decide +kernel⟩, List.mem_of_getElem? (i := 285) (by decide +kernel), List.mem_of_getElem? (i := 1109) (by decide +kernel), List.mem_of_getElem? (i := 1110) (by decide +kernel)⟩
theorem lw_p50 : lw_okq (⟨"OneSunbeam$Theft", "isExplainedBehind", "(LOneSunbeam$Town;II)Z"⟩, 6) := ⟨⟨by decide +kernel, by decide +kernel⟩, List.mem_of_getElem? (i := 285) (by decide +kernel), List.mem_of_getElem? (i := 1118) (by decide +kernel), List.mem_of_getElem? (i := 1119) (by decide +kernel)⟩
theorem lw_p51 : lw_okq (⟨"OneSunbeam", "leastDust", "(IIII)I"⟩, 16) := ⟨⟨by decide +kernel, by decide +kernel⟩, List.mem_of_getElem? (i := 21) (by decide +kernel), List.mem_of_getElem? (i := 1127) (by decide +kernel), List.mem_of_getElem? (i := 1128) (by decide +kernel)⟩
theorem lw_p52 : lw_okq (⟨"OneSunbeam", "getWithDust", "(IIII)I"⟩, 16) := ⟨⟨by decide +kernel, by decide +kernel⟩, List.mem_of_getElem? (i := 21) (by decide +kernel), List.mem_of_getElem? (i := 1131) (by decide +kernel), List.mem_of_getElem? (i := 1132) (by decide +kernel)⟩
theorem lw_p53 : lw_okq (⟨"OneSunbeam", "leastDustOneByOne", "(IIII)I"⟩, 16) := ⟨⟨by decide +kernel, by decide +kernel⟩, List.mem_of_getElem? (i := 21) (by decide +kernel), List.mem_of_getElem? (i := 1136) (by decide +kernel), List.mem_of_getElem? (i := 1137) (by decide +kernel)⟩
theorem lw_p54 : lw_okq (⟨"OneSunbeam", "leastDustByHalves", "(IIII)I"⟩, 16) := ⟨⟨by decide +kernel, by decide +kernel⟩, List.mem_of_getElem? (i := 21) (by decide +kernel), List.mem_of_getElem? (i := 1140) (by decide +kernel), List.mem_of_getElem? (i := 1141) (by decide +kernel)⟩
theorem lw_p55 : lw_okq (⟨"OneSunbeam", "countOfTown", "(I)I"⟩, 16) := ⟨⟨by decide +kernel, by decide +kernel⟩, List.mem_of_getElem? (i := 21) (by decide +kernel), List.mem_of_getElem? (i := 1161) (by decide +kernel), List.mem_of_getElem? (i := 1162) (by decide +kernel)⟩
theorem lw_p56 : lw_okq (⟨"OneSunbeamModel", "isArea", "(IIII)Z"⟩, 80) := ⟨⟨by decide +kernel, by decide +kernel⟩, List.mem_of_getElem? (i := 1173) (by decide +kernel), List.mem_of_getElem? (i := 1434) (by decide +kernel), List.mem_of_getElem? (i := 1435) (by decide +kernel)⟩
theorem lw_p57 : lw_okq (⟨"OneSunbeamModel", "isCell", "(II)Z"⟩, 80) := ⟨⟨by decide +kernel, by decide +kernel⟩, List.mem_of_getElem? (i := 1173) (by decide +kernel), List.mem_of_getElem? (i := 1438) (by decide +kernel), List.mem_of_getElem? (i := 1439) (by decide +kernel)⟩
theorem lw_p58 : lw_okq (⟨"OneSunbeamModel", "isTown", "()Z"⟩, 80) := ⟨⟨by decide +kernel, by decide +kernel⟩, List.mem_of_getElem? (i := 1173) (by decide +kernel), List.mem_of_getElem? (i := 1442) (by decide +kernel), List.mem_of_getElem? (i := 1443) (by decide +kernel)⟩
theorem lw_p59 : lw_okq (⟨"OneSunbeamModel", "isMirror", "(I)Z"⟩, 80) := ⟨⟨by decide +kernel, by decide +kernel⟩, List.mem_of_getElem? (i := 1173) (by decide +kernel), List.mem_of_getElem? (i := 1463) (by decide +kernel), List.mem_of_getElem? (i := 1464) (by decide +kernel)⟩
theorem lw_p60 : lw_okq (⟨"OneSunbeamModel", "put", "(I)V"⟩, 80) := ⟨⟨by decide +kernel, by decide +kernel⟩, List.mem_of_getElem? (i := 1173) (by decide +kernel), List.mem_of_getElem? (i := 1491) (by decide +kernel), List.mem_of_getElem? (i := 1492) (by decide +kernel)⟩
theorem lw_p61 : lw_okq (⟨"OneSunbeamModel", "clause", "(I)V"⟩, 80) := ⟨⟨by decide +kernel, by decide +kernel⟩, List.mem_of_getElem? (i := 1173) (by decide +kernel), List.mem_of_getElem? (i := 1503) (by decide +kernel), List.mem_of_getElem? (i := 1504) (by decide +kernel)⟩
theorem lw_p62 : lw_okq (⟨"OneSunbeamModel", "blanks", "()V"⟩, 80) := ⟨⟨by decide +kernel, by decide +kernel⟩, List.mem_of_getElem? (i := 1173) (by decide +kernel), List.mem_of_getElem? (i := 1507) (by decide +kernel), List.mem_of_getElem? (i := 1508) (by decide +kernel)⟩
theorem lw_p63 : lw_okq (⟨"OneSunbeamModel", "sign", "()I"⟩, 80) := ⟨⟨by decide +kernel, by decide +kernel⟩, List.mem_of_getElem? (i := 1173) (by decide +kernel), List.mem_of_getElem? (i := 1511) (by decide +kernel), List.mem_of_getElem? (i := 1512) (by decide +kernel)⟩
def lw_privs_4 : List (MethodName × Nat) := [(⟨"OneSunbeam$Theft", "walk", "(LOneSunbeam$Town;I)V"⟩, 6), (⟨"OneSunbeam$Theft", "meet", "(II)I"⟩, 6), (⟨"OneSunbeam$Theft", "isExplainedBehind", "(LOneSunbeam$Town;II)Z"⟩, 6), (⟨"OneSunbeam", "leastDust", "(IIII)I"⟩, 16), (⟨"OneSunbeam", "getWithDust", "(IIII)I"⟩, 16), (⟨"OneSunbeam", "leastDustOneByOne", "(IIII)I"⟩, 16), (⟨"OneSunbeam", "leastDustByHalves", "(IIII)I"⟩, 16), (⟨"OneSunbeam", "countOfTown", "(I)I"⟩, 16), (⟨"OneSunbeamModel", "isArea", "(IIII)Z"⟩, 80), (⟨"OneSunbeamModel", "isCell", "(II)Z"⟩, 80), (⟨"OneSunbeamModel", "isTown", "()Z"⟩, 80), (⟨"OneSunbeamModel", "isMirror", "(I)Z"⟩, 80), (⟨"OneSunbeamModel", "put", "(I)V"⟩, 80), (⟨"OneSunbeamModel", "clause", "(I)V"⟩, 80), (⟨"OneSunbeamModel", "blanks", "()V"⟩, 80), (⟨"OneSunbeamModel", "sign", "()I"⟩, 80)]
theorem lw_r4 : ∀ q ∈ lw_privs_4, lw_okq q := List.forall_mem_cons.mpr ⟨lw_p48, List.forall_mem_cons.mpr ⟨lw_p49, List.forall_mem_cons.mpr ⟨lw_p50, List.forall_mem_cons.mpr ⟨lw_p51, List.forall_mem_cons.mpr ⟨lw_p52, List.forall_mem_cons.mpr ⟨lw_p53, List.forall_mem_cons.mpr ⟨lw_p54, List.forall_mem_cons.mpr ⟨lw_p55, List.forall_mem_cons.mpr ⟨lw_p56, List.forall_mem_cons.mpr ⟨lw_p57, List.forall_mem_cons.mpr ⟨lw_p58, List.forall_mem_cons.mpr ⟨lw_p59, List.forall_mem_cons.mpr ⟨lw_p60, List.forall_mem_cons.mpr ⟨lw_p61, List.forall_mem_cons.mpr ⟨lw_p62, List.forall_mem_cons.mpr ⟨lw_p63, fun _ h => absurd h List.not_mem_nil⟩⟩⟩⟩⟩⟩⟩⟩⟩⟩⟩⟩⟩⟩⟩⟩
theorem lw_p64 : lw_okq (⟨"OneSunbeamModel", "stands", "(Ljava/lang/String;)Z"⟩, 80) := ⟨⟨by decide +kernel, by decide +kernel⟩, List.mem_of_getElem? (i := 1173) (by decide +kernel), List.mem_of_getElem? (i := 1516) (by decide +kernel), List.mem_of_getElem? (i := 1517) (by decide +kernel)⟩
theorem lw_p65 : lw_okq (⟨"OneSunbeamModel", "fails", "(II)V"⟩, 80) := ⟨⟨by decide +kernel, by decide +kernel⟩, List.mem_of_getElem? (i := 1173) (by decide +kernel), List.mem_of_getElem? (i := 1522) (by decide +kernel), List.mem_of_getElem? (i := 1523) (by decide +kernel)⟩
theorem lw_p66 : lw_okq (⟨"OneSunbeamModel", "digits", "(I)I"⟩, 80) := ⟨⟨by decide +kernel, by decide +kernel⟩, List.mem_of_getElem? (i := 1173) (by decide +kernel), List.mem_of_getElem? (i := 1526) (by decide +kernel), List.mem_of_getElem? (i := 1527) (by decide +kernel)⟩
theorem lw_p67 : lw_okq (⟨"OneSunbeamModel", "isDigit", "()Z"⟩, 80) := ⟨⟨by decide +kernel, by decide +kernel⟩, List.mem_of_getElem? (i := 1173) (by decide +kernel), List.mem_of_getElem? (i := 1530) (by decide +kernel), List.mem_of_getElem? (i := 1531) (by decide +kernel)⟩
theorem lw_p68 : lw_okq (⟨"OneSunbeamModel", "sum", "()V"⟩, 80) := ⟨⟨by decide +kernel, by decide +kernel⟩, List.mem_of_getElem? (i := 1173) (by decide +kernel), List.mem_of_getElem? (i := 1536) (by decide +kernel), List.mem_of_getElem? (i := 1537) (by decide +kernel)⟩
theorem lw_p69 : lw_okq (⟨"OneSunbeamModel", "term", "()V"⟩, 80) := ⟨⟨by decide +kernel, by decide +kernel⟩, List.mem_of_getElem? (i := 1173) (by decide +kernel), List.mem_of_getElem? (i := 1540) (by decide +kernel), List.mem_of_getElem? (i := 1541) (by decide +kernel)⟩
theorem lw_p70 : lw_okq (⟨"OneSunbeamModel", "value", "()V"⟩, 80) := ⟨⟨by decide +kernel, by decide +kernel⟩, List.mem_of_getElem? (i := 1173) (by decide +kernel), List.mem_of_getElem? (i := 1544) (by decide +kernel), List.mem_of_getElem? (i := 1545) (by decide +kernel)⟩
theorem lw_p71 : lw_okq (⟨"OneSunbeamModel", "isCounted", "(I)V"⟩, 80) := ⟨⟨by decide +kernel, by decide +kernel⟩, List.mem_of_getElem? (i := 1173) (by decide +kernel), List.mem_of_getElem? (i := 1549) (by decide +kernel), List.mem_of_getElem? (i := 1550) (by decide +kernel)⟩
theorem lw_p72 : lw_okq (⟨"OneSunbeamModel", "entry", "(II)V"⟩, 80) := ⟨⟨by decide +kernel, by decide +kernel⟩, List.mem_of_getElem? (i := 1173) (by decide +kernel), List.mem_of_getElem? (i := 1553) (by decide +kernel), List.mem_of_getElem? (i := 1554) (by decide +kernel)⟩
theorem lw_p73 : lw_okq (⟨"OneSunbeamModel", "takes", "(Ljava/lang/String;)Z"⟩, 80) := ⟨⟨by decide +kernel, by decide +kernel⟩, List.mem_of_getElem? (i := 1173) (by decide +kernel), List.mem_of_getElem? (i := 1574) (by decide +kernel), List.mem_of_getElem? (i := 1575) (by decide +kernel)⟩
theorem lw_p74 : lw_okq (⟨"OneSunbeamModel", "test", "()V"⟩, 80) := ⟨⟨by decide +kernel, by decide +kernel⟩, List.mem_of_getElem? (i := 1173) (by decide +kernel), List.mem_of_getElem? (i := 1578) (by decide +kernel), List.mem_of_getElem? (i := 1579) (by decide +kernel)⟩
theorem lw_p75 : lw_okq (⟨"OneSunbeamModel", "fact", "()Z"⟩, 80) := ⟨⟨by decide +kernel, by decide +kernel⟩, List.mem_of_getElem? (i := 1173) (by decide +kernel), List.mem_of_getElem? (i := 1582) (by decide +kernel), List.mem_of_getElem? (i := 1583) (by decide +kernel)⟩
theorem lw_p76 : lw_okq (⟨"OneSunbeamModel", "opens", "(I)V"⟩, 80) := ⟨⟨by decide +kernel, by decide +kernel⟩, List.mem_of_getElem? (i := 1173) (by decide +kernel), List.mem_of_getElem? (i := 1587) (by decide +kernel), List.mem_of_getElem? (i := 1588) (by decide +kernel)⟩
theorem lw_p77 : lw_okq (⟨"OneSunbeamModel", "compared", "()V"⟩, 80) := ⟨⟨by decide +kernel, by decide +kernel⟩, List.mem_of_getElem? (i := 1173) (by decide +kernel), List.mem_of_getElem? (i := 1591) (by decide +kernel), List.mem_of_getElem? (i := 1592) (by decide +kernel)⟩
theorem lw_p78 : lw_okq (⟨"OneSunbeamModel", "answers", "(I)V"⟩, 80) := ⟨⟨by decide +kernel, by decide +kernel⟩, List.mem_of_getElem? (i := 1173) (by decide +kernel), List.mem_of_getElem? (i := 1595) (by decide +kernel), List.mem_of_getElem? (i := 1596) (by decide +kernel)⟩
theorem lw_p79 : lw_okq (⟨"OneSunbeamModel", "top", "()I"⟩, 80) := ⟨⟨by decide +kernel, by decide +kernel⟩, List.mem_of_getElem? (i := 1173) (by decide +kernel), List.mem_of_getElem? (i := 1599) (by decide +kernel), List.mem_of_getElem? (i := 1600) (by decide +kernel)⟩
def lw_privs_5 : List (MethodName × Nat) := [(⟨"OneSunbeamModel", "stands", "(Ljava/lang/String;)Z"⟩, 80), (⟨"OneSunbeamModel", "fails", "(II)V"⟩, 80), (⟨"OneSunbeamModel", "digits", "(I)I"⟩, 80), (⟨"OneSunbeamModel", "isDigit", "()Z"⟩, 80), (⟨"OneSunbeamModel", "sum", "()V"⟩, 80), (⟨"OneSunbeamModel", "term", "()V"⟩, 80), (⟨"OneSunbeamModel", "value", "()V"⟩, 80), (⟨"OneSunbeamModel", "isCounted", "(I)V"⟩, 80), (⟨"OneSunbeamModel", "entry", "(II)V"⟩, 80), (⟨"OneSunbeamModel", "takes", "(Ljava/lang/String;)Z"⟩, 80), (⟨"OneSunbeamModel", "test", "()V"⟩, 80), (⟨"OneSunbeamModel", "fact", "()Z"⟩, 80), (⟨"OneSunbeamModel", "opens", "(I)V"⟩, 80), (⟨"OneSunbeamModel", "compared", "()V"⟩, 80), (⟨"OneSunbeamModel", "answers", "(I)V"⟩, 80), (⟨"OneSunbeamModel", "top", "()I"⟩, 80)]
theorem lw_r5 : ∀ q ∈ lw_privs_5, lw_okq q := List.forall_mem_cons.mpr ⟨lw_p64, List.forall_mem_cons.mpr ⟨lw_p65, List.forall_mem_cons.mpr ⟨lw_p66, List.forall_mem_cons.mpr ⟨lw_p67, List.forall_mem_cons.mpr ⟨lw_p68, List.forall_mem_cons.mpr ⟨lw_p69, List.forall_mem_cons.mpr ⟨lw_p70, List.forall_mem_cons.mpr ⟨lw_p71, List.forall_mem_cons.mpr ⟨lw_p72, List.forall_mem_cons.mpr ⟨lw_p73, List.forall_mem_cons.mpr ⟨lw_p74, List.forall_mem_cons.mpr ⟨lw_p75, List.forall_mem_cons.mpr ⟨lw_p76, List.forall_mem_cons.mpr ⟨lw_p77, List.forall_mem_cons.mpr ⟨lw_p78, List.forall_mem_cons.mpr ⟨lw_p79, fun _ h => absurd h List.not_mem_nil⟩⟩⟩⟩⟩⟩⟩⟩⟩⟩⟩⟩⟩⟩⟩⟩
theorem lw_p80 : lw_okq (⟨"OneSunbeamModel", "isLaw", "(I)Z"⟩, 80) := ⟨⟨by decide +kernel, by decide +kernel⟩, List.mem_of_getElem? (i := 1173) (by decide +kernel), List.mem_of_getElem? (i := 1609) (by decide +kernel), List.mem_of_getElem? (i := 1610) (by decide +kernel)⟩
theorem lw_p81 : lw_okq (⟨"OneSunbeamModel", "goesDay", "(I)V"⟩, 80) := ⟨⟨by decide +kernel, by decide +kernel⟩, List.mem_of_getElem? (i := 1173) (by decide +kernel), List.mem_of_getElem? (i := 1614) (by decide +kernel), List.mem_of_getElem? (i := 1615) (by decide +kernel)⟩
theorem lw_p82 : lw_okq (⟨"OneSunbeamModel", "turns", "(III)V"⟩, 80) := ⟨⟨by decide +kernel, by decide +kernel⟩, List.mem_of_getElem? (i := 1173) (by decide +kernel), List.mem_of_getElem? (i := 1618) (by decide +kernel), List.mem_of_getElem? (i := 1619) (by decide +kernel)⟩
theorem lw_p83 : lw_okq (⟨"OneSunbeamModel", "asks", "(II)V"⟩, 80) := ⟨⟨by decide +kernel, by decide +kernel⟩, List.mem_of_getElem? (i := 1173) (by decide +kernel), List.mem_of_getElem? (i := 1622) (by decide +kernel), List.mem_of_getElem? (i := 1623) (by decide +kernel)⟩
theorem lw_p84 : lw_okq (⟨"OneSunbeamModel", "sunOf", "(I)I"⟩, 80) := ⟨⟨by decide +kernel, by decide +kernel⟩, List.mem_of_getElem? (i := 1173) (by decide +kernel), List.mem_of_getElem? (i := 1626) (by decide +kernel), List.mem_of_getElem? (i := 1627) (by decide +kernel)⟩
theorem lw_p85 : lw_okq (⟨"OneSunbeamModel", "answer", "(III)J"⟩, 80) := ⟨⟨by decide +kernel, by decide +kernel⟩, List.mem_of_getElem? (i := 1173) (by decide +kernel), List.mem_of_getElem? (i := 1631) (by decide +kernel), List.mem_of_getElem? (i := 1632) (by decide +kernel)⟩
theorem lw_p86 : lw_okq (⟨"OneSunbeamModel", "shines", "(I)V"⟩, 80) := ⟨⟨by decide +kernel, by decide +kernel⟩, List.mem_of_getElem? (i := 1173) (by decide +kernel), List.mem_of_getElem? (i := 1641) (by decide +kernel), List.mem_of_getElem? (i := 1642) (by decide +kernel)⟩
theorem lw_p87 : lw_okq (⟨"OneSunbeamModel", "traces", "(III)V"⟩, 80) := ⟨⟨by decide +kernel, by decide +kernel⟩, List.mem_of_getElem? (i := 1173) (by decide +kernel), List.mem_of_getElem? (i := 1645) (by decide +kernel), List.mem_of_getElem? (i := 1646) (by decide +kernel)⟩
theorem lw_p88 : lw_okq (⟨"OneSunbeamModel", "goes", "(IIII)V"⟩, 80) := ⟨⟨by decide +kernel, by decide +kernel⟩, List.mem_of_getElem? (i := 1173) (by decide +kernel), List.mem_of_getElem? (i := 1649) (by decide +kernel), List.mem_of_getElem? (i := 1650) (by decide +kernel)⟩
theorem lw_p89 : lw_okq (⟨"OneSunbeamModel", "yardOf", "(II)I"⟩, 80) := ⟨⟨by decide +kernel, by decide +kernel⟩, List.mem_of_getElem? (i := 1173) (by decide +kernel), List.mem_of_getElem? (i := 1653) (by decide +kernel), List.mem_of_getElem? (i := 1654) (by decide +kernel)⟩
theorem lw_p90 : lw_okq (⟨"OneSunbeamModel", "told", "(II)I"⟩, 80) := ⟨⟨by decide +kernel, by decide +kernel⟩, List.mem_of_getElem? (i := 1173) (by decide +kernel), List.mem_of_getElem? (i := 1657) (by decide +kernel), List.mem_of_getElem? (i := 1658) (by decide +kernel)⟩
theorem lw_p91 : lw_okq (⟨"OneSunbeamModel", "waitsFor", "(IIII)V"⟩, 80) := ⟨⟨by decide +kernel, by decide +kernel⟩, List.mem_of_getElem? (i := 1173) (by decide +kernel), List.mem_of_getElem? (i := 1667) (by decide +kernel), List.mem_of_getElem? (i := 1668) (by decide +kernel)⟩
theorem lw_p92 : lw_okq (⟨"OneSunbeamModel", "blindCells", "()I"⟩, 80) := ⟨⟨by decide +kernel, by decide +kernel⟩, List.mem_of_getElem? (i := 1173) (by decide +kernel), List.mem_of_getElem? (i := 1671) (by decide +kernel), List.mem_of_getElem? (i := 1672) (by decide +kernel)⟩
theorem lw_p93 : lw_okq (⟨"OneSunbeamModel", "met", "()I"⟩, 80) := ⟨⟨by decide +kernel, by decide +kernel⟩, List.mem_of_getElem? (i := 1173) (by decide +kernel), List.mem_of_getElem? (i := 1675) (by decide +kernel), List.mem_of_getElem? (i := 1676) (by decide +kernel)⟩
theorem lw_p94 : lw_okq (⟨"OneSunbeamModel", "isYard", "(I)Z"⟩, 80) := ⟨⟨by decide +kernel, by decide +kernel⟩, List.mem_of_getElem? (i := 1173) (by decide +kernel), List.mem_of_getElem? (i := 1687) (by decide +kernel), List.mem_of_getElem? (i := 1688) (by decide +kernel)⟩
theorem lw_p95 : lw_okq (⟨"OneSunbeamModel", "isBright", "(I)Z"⟩, 80) := ⟨⟨by decide +kernel, by decide +kernel⟩, List.mem_of_getElem? (i := 1173) (by decide +kernel), List.mem_of_getElem? (i := 1699) (by decide +kernel), List.mem_of_getElem? (i := 1700) (by decide +kernel)⟩
def lw_privs_6 : List (MethodName × Nat) := [(⟨"OneSunbeamModel", "isLaw", "(I)Z"⟩, 80), (⟨"OneSunbeamModel", "goesDay", "(I)V"⟩, 80), (⟨"OneSunbeamModel", "turns", "(III)V"⟩, 80), (⟨"OneSunbeamModel", "asks", "(II)V"⟩, 80), (⟨"OneSunbeamModel", "sunOf", "(I)I"⟩, 80), (⟨"OneSunbeamModel", "answer", "(III)J"⟩, 80), (⟨"OneSunbeamModel", "shines", "(I)V"⟩, 80), (⟨"OneSunbeamModel", "traces", "(III)V"⟩, 80), (⟨"OneSunbeamModel", "goes", "(IIII)V"⟩, 80), (⟨"OneSunbeamModel", "yardOf", "(II)I"⟩, 80), (⟨"OneSunbeamModel", "told", "(II)I"⟩, 80), (⟨"OneSunbeamModel", "waitsFor", "(IIII)V"⟩, 80), (⟨"OneSunbeamModel", "blindCells", "()I"⟩, 80), (⟨"OneSunbeamModel", "met", "()I"⟩, 80), (⟨"OneSunbeamModel", "isYard", "(I)Z"⟩, 80), (⟨"OneSunbeamModel", "isBright", "(I)Z"⟩, 80)]
theorem lw_r6 : ∀ q ∈ lw_privs_6, lw_okq q := List.forall_mem_cons.mpr ⟨lw_p80, List.forall_mem_cons.mpr ⟨lw_p81, List.forall_mem_cons.mpr ⟨lw_p82, List.forall_mem_cons.mpr ⟨lw_p83, List.forall_mem_cons.mpr ⟨lw_p84, List.forall_mem_cons.mpr ⟨lw_p85, List.forall_mem_cons.mpr ⟨lw_p86, List.forall_mem_cons.mpr ⟨lw_p87, List.forall_mem_cons.mpr ⟨lw_p88, List.forall_mem_cons.mpr ⟨lw_p89, List.forall_mem_cons.mpr ⟨lw_p90, List.forall_mem_cons.mpr ⟨lw_p91, List.forall_mem_cons.mpr ⟨lw_p92, List.forall_mem_cons.mpr ⟨lw_p93, List.forall_mem_cons.mpr ⟨lw_p94, List.forall_mem_cons.mpr ⟨lw_p95, fun _ h => absurd h List.not_mem_nil⟩⟩⟩⟩⟩⟩⟩⟩⟩⟩⟩⟩⟩⟩⟩⟩
theorem lw_p96 : lw_okq (⟨"OneSunbeamModel", "allGot", "()I"⟩, 80) := ⟨⟨by decide +kernel, by decide +kernel⟩, List.mem_of_getElem? (i := 1173) (by decide +kernel), List.mem_of_getElem? (i := 1708) (by decide +kernel), List.mem_of_getElem? (i := 1709) (by decide +kernel)⟩
theorem lw_p97 : lw_okq (⟨"OneSunbeamModel", "firstBlind", "()I"⟩, 80) := ⟨⟨by decide +kernel, by decide +kernel⟩, List.mem_of_getElem? (i := 1173) (by decide +kernel), List.mem_of_getElem? (i := 1712) (by decide +kernel), List.mem_of_getElem? (i := 1713) (by decide +kernel)⟩
theorem lw_p98 : lw_okq (⟨"OneSunbeamModel", "isSet", "(I)Z"⟩, 80) := ⟨⟨by decide +kernel, by decide +kernel⟩, List.mem_of_getElem? (i := 1173) (by decide +kernel), List.mem_of_getElem? (i := 1740) (by decide +kernel), List.mem_of_getElem? (i := 1741) (by decide +kernel)⟩
theorem lw_p99 : lw_okq (⟨"OneSunbeamModel", "searches", "(III)I"⟩, 80) := ⟨⟨by decide +kernel, by decide +kernel⟩, List.mem_of_getElem? (i := 1173) (by decide +kernel), List.mem_of_getElem? (i := 1747) (by decide +kernel), List.mem_of_getElem? (i := 1748) (by decide +kernel)⟩
theorem lw_p100 : lw_okq (⟨"OneSunbeamModel", "fairest", "()I"⟩, 80) := ⟨⟨by decide +kernel, by decide +kernel⟩, List.mem_of_getElem? (i := 1173) (by decide +kernel), List.mem_of_getElem? (i := 1754) (by decide +kernel), List.mem_of_getElem? (i := 1755) (by decide +kernel)⟩
theorem lw_p101 : lw_okq (⟨"OneSunbeamModel", "isMended", "(IIIII)V"⟩, 80) := ⟨⟨by decide +kernel, by decide +kernel⟩, List.mem_of_getElem? (i := 1173) (by decide +kernel), List.mem_of_getElem? (i := 1766) (by decide +kernel), List.mem_of_getElem? (i := 1767) (by decide +kernel)⟩
theorem lw_p102 : lw_okq (⟨"OneSunbeamModel", "isHalf", "(I)Z"⟩, 80) := ⟨⟨by decide +kernel, by decide +kernel⟩, List.mem_of_getElem? (i := 1173) (by decide +kernel), List.mem_of_getElem? (i := 1770) (by decide +kernel), List.mem_of_getElem? (i := 1771) (by decide +kernel)⟩
theorem lw_p103 : lw_okq (⟨"OneSunbeamModel", "mendsOne", "(I)Z"⟩, 80) := ⟨⟨by decide +kernel, by decide +kernel⟩, List.mem_of_getElem? (i := 1173) (by decide +kernel), List.mem_of_getElem? (i := 1774) (by decide +kernel), List.mem_of_getElem? (i := 1775) (by decide +kernel)⟩
theorem lw_p104 : lw_okq (⟨"OneSunbeamModel", "mendsTwo", "(I)Z"⟩, 80) := ⟨⟨by decide +kernel, by decide +kernel⟩, List.mem_of_getElem? (i := 1173) (by decide +kernel), List.mem_of_getElem? (i := 1778) (by decide +kernel), List.mem_of_getElem? (i := 1779) (by decide +kernel)⟩
theorem lw_p105 : lw_okq (⟨"OneSunbeamModel", "mendsPair", "(III)Z"⟩, 80) := ⟨⟨by decide +kernel, by decide +kernel⟩, List.mem_of_getElem? (i := 1173) (by decide +kernel), List.mem_of_getElem? (i := 1782) (by decide +kernel), List.mem_of_getElem? (i := 1783) (by decide +kernel)⟩
theorem lw_p106 : lw_okq (⟨"OneSunbeamModel", "follows", "(I)V"⟩, 80) := ⟨⟨by decide +kernel, by decide +kernel⟩, List.mem_of_getElem? (i := 1173) (by decide +kernel), List.mem_of_getElem? (i := 1795) (by decide +kernel), List.mem_of_getElem? (i := 1796) (by decide +kernel)⟩
theorem lw_p107 : lw_okq (⟨"OneSunbeamModel", "keeps", "()V"⟩, 80) := ⟨⟨by decide +kernel, by decide +kernel⟩, List.mem_of_getElem? (i := 1173) (by decide +kernel), List.mem_of_getElem? (i := 1807) (by decide +kernel), List.mem_of_getElem? (i := 1808) (by decide +kernel)⟩
theorem lw_p108 : lw_okq (⟨"OneSunbeamModel", "putsBack", "()V"⟩, 80) := ⟨⟨by decide +kernel, by decide +kernel⟩, List.mem_of_getElem? (i := 1173) (by decide +kernel), List.mem_of_getElem? (i := 1811) (by decide +kernel), List.mem_of_getElem? (i := 1812) (by decide +kernel)⟩
theorem lw_p109 : lw_okq (⟨"OneSunbeamModel", "carriesAll", "(IZ)V"⟩, 80) := ⟨⟨by decide +kernel, by decide +kernel⟩, List.mem_of_getElem? (i := 1173) (by decide +kernel), List.mem_of_getElem? (i := 1829) (by decide +kernel), List.mem_of_getElem? (i := 1830) (by decide +kernel)⟩
theorem lw_p110 : lw_okq (⟨"OneSunbeamModel", "carry", "([I)V"⟩, 80) := ⟨⟨by decide +kernel, by decide +kernel⟩, List.mem_of_getElem? (i := 1173) (by decide +kernel), List.mem_of_getElem? (i := 1833) (by decide +kernel), List.mem_of_getElem? (i := 1834) (by decide +kernel)⟩
def lw_privs_7 : List (MethodName × Nat) := [(⟨"OneSunbeamModel", "allGot", "()I"⟩, 80), (⟨"OneSunbeamModel", "firstBlind", "()I"⟩, 80), (⟨"OneSunbeamModel", "isSet", "(I)Z"⟩, 80), (⟨"OneSunbeamModel", "searches", "(III)I"⟩, 80), (⟨"OneSunbeamModel", "fairest", "()I"⟩, 80), (⟨"OneSunbeamModel", "isMended", "(IIIII)V"⟩, 80), (⟨"OneSunbeamModel", "isHalf", "(I)Z"⟩, 80), (⟨"OneSunbeamModel", "mendsOne", "(I)Z"⟩, 80), (⟨"OneSunbeamModel", "mendsTwo", "(I)Z"⟩, 80), (⟨"OneSunbeamModel", "mendsPair", "(III)Z"⟩, 80), (⟨"OneSunbeamModel", "follows", "(I)V"⟩, 80), (⟨"OneSunbeamModel", "keeps", "()V"⟩, 80), (⟨"OneSunbeamModel", "putsBack", "()V"⟩, 80), (⟨"OneSunbeamModel", "carriesAll", "(IZ)V"⟩, 80), (⟨"OneSunbeamModel", "carry", "([I)V"⟩, 80)]
theorem lw_r7 : ∀ q ∈ lw_privs_7, lw_okq q := List.forall_mem_cons.mpr ⟨lw_p96, List.forall_mem_cons.mpr ⟨lw_p97, List.forall_mem_cons.mpr ⟨lw_p98, List.forall_mem_cons.mpr ⟨lw_p99, List.forall_mem_cons.mpr ⟨lw_p100, List.forall_mem_cons.mpr ⟨lw_p101, List.forall_mem_cons.mpr ⟨lw_p102, List.forall_mem_cons.mpr ⟨lw_p103, List.forall_mem_cons.mpr ⟨lw_p104, List.forall_mem_cons.mpr ⟨lw_p105, List.forall_mem_cons.mpr ⟨lw_p106, List.forall_mem_cons.mpr ⟨lw_p107, List.forall_mem_cons.mpr ⟨lw_p108, List.forall_mem_cons.mpr ⟨lw_p109, List.forall_mem_cons.mpr ⟨lw_p110, fun _ h => absurd h List.not_mem_nil⟩⟩⟩⟩⟩⟩⟩⟩⟩⟩⟩⟩⟩⟩⟩
def lw_privs : List (MethodName × Nat) := lw_privs_1 ++ (lw_privs_2 ++ (lw_privs_3 ++ (lw_privs_4 ++ (lw_privs_5 ++ (lw_privs_6 ++ (lw_privs_7))))))
def lw_tbl : List Cond := k2_sels lw_privs ++ tables_1
theorem lw_privs_ok : ∀ q ∈ lw_privs, lw_okq q := by
  show ∀ q ∈ lw_privs_1 ++ (lw_privs_2 ++ (lw_privs_3 ++ (lw_privs_4 ++ (lw_privs_5 ++ (lw_privs_6 ++ (lw_privs_7)))))), lw_okq q
  exact List.forall_mem_append.mpr ⟨lw_r1, List.forall_mem_append.mpr ⟨lw_r2, List.forall_mem_append.mpr ⟨lw_r3, List.forall_mem_append.mpr ⟨lw_r4, List.forall_mem_append.mpr ⟨lw_r5, List.forall_mem_append.mpr ⟨lw_r6, lw_r7⟩⟩⟩⟩⟩⟩

def RX0 : String := "OneSunbeam$Aiming"
def TX0 : u_T := fun k => match k with
  | 0 => ("OneSunbeam$Aiming", "beams", "LOneSunbeam$Beams;", true)
  | 1 => ("OneSunbeam$Aiming", "members", "[I", true)
  | 2 => ("OneSunbeam$Aiming", "before", "[I", true)
  | 3 => ("OneSunbeam$Aiming", "tried", "[I", true)
  | 4 => ("OneSunbeam$Aiming", "best", "[I", true)
  | 5 => ("OneSunbeam$Aiming", "size", "I", false)
  | _ => ("OneSunbeam$Aiming", "most", "I", false)
def tyX0 : Nat → FieldType := fun k => match k with
  | 0 => .object "OneSunbeam$Beams"
  | 1 => .array .int
  | 2 => .array .int
  | 3 => .array .int
  | 4 => .array .int
  | 5 => .int
  | _ => .int
abbrev wsX00 : List Cond := u_ws RX0 TX0 7
theorem nmX0 : ∀ a, a < 7 → ∀ b, b < 7 → a ≠ b → (TX0 a).2.1 ≠ (TX0 b).2.1 := by decide +kernel
theorem tyX0_ok : ∀ k, k < 7 → parseFieldDescriptor (TX0 k).2.2.1 = some (tyX0 k) := by decide +kernel
abbrev cX0_init : ByteArray := prog_2_method_1_code
def yX0_init : MethodName := ⟨RX0, "<init>", "(LOneSunbeam$Beams;)V"⟩
abbrev cX0_answer : ByteArray := prog_2_method_2_code
def yX0_answer : MethodName := ⟨RX0, "answer", "(I)I"⟩
abbrev cX0_search : ByteArray := prog_2_method_3_code
def yX0_search : MethodName := ⟨RX0, "search", "(LOneSunbeam$Town;III)V"⟩
abbrev cX0_gather : ByteArray := prog_2_method_4_code
def yX0_gather : MethodName := ⟨RX0, "gather", "(LOneSunbeam$Town;I)V"⟩
abbrev cX0_putSlants : ByteArray := prog_2_method_5_code
def yX0_putSlants : MethodName := ⟨RX0, "putSlants", "(LOneSunbeam$Town;[I)V"⟩
abbrev cX0_lastTouched : ByteArray := prog_2_method_6_code
def yX0_lastTouched : MethodName := ⟨RX0, "lastTouched", "()I"⟩
abbrev cX0_goOn : ByteArray := prog_2_method_7_code
def yX0_goOn : MethodName := ⟨RX0, "goOn", "(I)Z"⟩
abbrev cX0_leastGot : ByteArray := prog_2_method_8_code
def yX0_leastGot : MethodName := ⟨RX0, "leastGot", "(LOneSunbeam$Town;)I"⟩
def RX1 : String := "OneSunbeam$Beams"
def TX1 : u_T := fun k => match k with
  | 0 => ("OneSunbeam$Beams", "got", "[I", true)
  | 1 => ("OneSunbeam$Beams", "passed", "[I", true)
  | 2 => ("OneSunbeam$Beams", "lost", "I", false)
  | 3 => ("OneSunbeam$Beams", "spilt", "I", false)
  | 4 => ("OneSunbeam$Beams", "cellCount", "I", false)
  | 5 => ("OneSunbeam$Beams", "beamCount", "I", false)
  | 6 => ("OneSunbeam$Beams", "isCut", "Z", false)
  | 7 => ("OneSunbeam$Beams", "touched", "I", false)
  | 8 => ("OneSunbeam$Beams", "isWatching", "Z", false)
  | 9 => ("OneSunbeam$Beams", "waitingFrom", "[I", true)
  | 10 => ("OneSunbeam$Beams", "waitingLight", "[I", true)
  | 11 => ("OneSunbeam$Beams", "waitingHead", "I", false)
  | _ => ("OneSunbeam$Beams", "waitingCount", "I", false)
def tyX1 : Nat → FieldType := fun k => match k with
  | 0 => .array .int
  | 1 => .array .int
  | 2 => .int
  | 3 => .int
  | 4 => .int
  | 5 => .int
  | 6 => .boolean
  | 7 => .int
  | 8 => .boolean
  | 9 => .array .int
  | 10 => .array .int
  | 11 => .int
  | _ => .int
abbrev wsX10 : List Cond := u_ws RX1 TX1 13
theorem nmX1 : ∀ a, a < 13 → ∀ b, b < 13 → a ≠ b → (TX1 a).2.1 ≠ (TX1 b).2.1 := by decide +kernel
theorem tyX1_ok : ∀ k, k < 13 → parseFieldDescriptor (TX1 k).2.2.1 = some (tyX1 k) := by decide +kernel
abbrev cX1_init : ByteArray := prog_3_method_1_code
def yX1_init : MethodName := ⟨RX1, "<init>", "()V"⟩
abbrev cX1_shine : ByteArray := prog_3_method_2_code
def yX1_shine : MethodName := ⟨RX1, "shine", "(LOneSunbeam$Town;I)V"⟩
abbrev cX1_shineWatched : ByteArray := prog_3_method_3_code
def yX1_shineWatched : MethodName := ⟨RX1, "shineWatched", "(LOneSunbeam$Town;I)V"⟩
abbrev cX1_total : ByteArray := prog_3_method_4_code
def yX1_total : MethodName := ⟨RX1, "total", "()I"⟩
abbrev cX1_touches : ByteArray := prog_3_method_5_code
def yX1_touches : MethodName := ⟨RX1, "touches", "(I)Z"⟩
abbrev cX1_touchedSet : ByteArray := prog_3_method_6_code
def yX1_touchedSet : MethodName := ⟨RX1, "touchedSet", "()I"⟩
abbrev cX1_blindCount : ByteArray := prog_3_method_7_code
def yX1_blindCount : MethodName := ⟨RX1, "blindCount", "(LOneSunbeam$Town;)I"⟩
abbrev cX1_firstBlind : ByteArray := prog_3_method_8_code
def yX1_firstBlind : MethodName := ⟨RX1, "firstBlind", "(LOneSunbeam$Town;)I"⟩
abbrev cX1_isBlind : ByteArray := prog_3_method_9_code
def yX1_isBlind : MethodName := ⟨RX1, "isBlind", "(LOneSunbeam$Town;I)Z"⟩
abbrev cX1_clear : ByteArray := prog_3_method_10_code
def yX1_clear : MethodName := ⟨RX1, "clear", "()V"⟩
abbrev cX1_follow : ByteArray := prog_3_method_11_code
def yX1_follow : MethodName := ⟨RX1, "follow", "(LOneSunbeam$Town;IIII)V"⟩
abbrev cX1_passAir : ByteArray := prog_3_method_12_code
def yX1_passAir : MethodName := ⟨RX1, "passAir", "(LOneSunbeam$Town;II)I"⟩
abbrev cX1_passYard : ByteArray := prog_3_method_13_code
def yX1_passYard : MethodName := ⟨RX1, "passYard", "(LOneSunbeam$Town;II)I"⟩
abbrev cX1_passMirror : ByteArray := prog_3_method_14_code
def yX1_passMirror : MethodName := ⟨RX1, "passMirror", "(LOneSunbeam$Town;III)I"⟩
abbrev cX1_letWait : ByteArray := prog_3_method_15_code
def yX1_letWait : MethodName := ⟨RX1, "letWait", "(II)V"⟩
def RX2 : String := "OneSunbeam$Keepers"
def TX2 : u_T := fun k => match k with
  | 0 => ("OneSunbeam$Keepers", "beams", "LOneSunbeam$Beams;", true)
  | 1 => ("OneSunbeam$Keepers", "gotToday", "[I", true)
  | 2 => ("OneSunbeam$Keepers", "stack", "[J", true)
  | _ => ("OneSunbeam$Keepers", "hour", "I", false)
def tyX2 : Nat → FieldType := fun k => match k with
  | 0 => .object "OneSunbeam$Beams"
  | 1 => .array .int
  | 2 => .array .long
  | _ => .int
abbrev wsX20 : List Cond := u_ws RX2 TX2 4
theorem nmX2 : ∀ a, a < 4 → ∀ b, b < 4 → a ≠ b → (TX2 a).2.1 ≠ (TX2 b).2.1 := by decide +kernel
theorem tyX2_ok : ∀ k, k < 4 → parseFieldDescriptor (TX2 k).2.2.1 = some (tyX2 k) := by decide +kernel
abbrev cX2_init : ByteArray := prog_4_method_1_code
def yX2_init : MethodName := ⟨RX2, "<init>", "(LOneSunbeam$Beams;)V"⟩
abbrev cX2_passDay : ByteArray := prog_4_method_2_code
def yX2_passDay : MethodName := ⟨RX2, "passDay", "(LOneSunbeam$Town;LOneSunbeam$Law;Z)I"⟩
abbrev cX2_turnMirrors : ByteArray := prog_4_method_3_code
def yX2_turnMirrors : MethodName := ⟨RX2, "turnMirrors", "(LOneSunbeam$Town;LOneSunbeam$Law;)V"⟩
abbrev cX2_addToday : ByteArray := prog_4_method_4_code
def yX2_addToday : MethodName := ⟨RX2, "addToday", "()V"⟩
abbrev cX2_holds : ByteArray := prog_4_method_5_code
def yX2_holds : MethodName := ⟨RX2, "holds", "(LOneSunbeam$Town;LOneSunbeam$Law;I)Z"⟩
abbrev cX2_valueOf : ByteArray := prog_4_method_6_code
def yX2_valueOf : MethodName := ⟨RX2, "valueOf", "(LOneSunbeam$Town;LOneSunbeam$Law;III)J"⟩
abbrev cX2_wordValue : ByteArray := prog_4_method_7_code
def yX2_wordValue : MethodName := ⟨RX2, "wordValue", "(LOneSunbeam$Town;II)J"⟩
abbrev cX2_gotByYard : ByteArray := prog_4_method_8_code
def yX2_gotByYard : MethodName := ⟨RX2, "gotByYard", "(I)J"⟩
abbrev cX2_join : ByteArray := prog_4_method_9_code
def yX2_join : MethodName := ⟨RX2, "join", "(IJJ)J"⟩
abbrev cX2_joinTruth : ByteArray := prog_4_method_10_code
def yX2_joinTruth : MethodName := ⟨RX2, "joinTruth", "(IJJ)Z"⟩
def RX3 : String := "OneSunbeam$Law"
def TX3 : u_T := fun k => match k with
  | 0 => ("OneSunbeam$Law", "code", "[I", true)
  | 1 => ("OneSunbeam$Law", "mirror", "[I", true)
  | 2 => ("OneSunbeam$Law", "sumFrom", "[I", true)
  | 3 => ("OneSunbeam$Law", "testFrom", "[I", true)
  | 4 => ("OneSunbeam$Law", "testTo", "[I", true)
  | 5 => ("OneSunbeam$Law", "clauseCount", "I", false)
  | _ => ("OneSunbeam$Law", "length", "I", false)
def tyX3 : Nat → FieldType := fun k => match k with
  | 0 => .array .int
  | 1 => .array .int
  | 2 => .array .int
  | 3 => .array .int
  | 4 => .array .int
  | 5 => .int
  | _ => .int
abbrev wsX30 : List Cond := u_ws RX3 TX3 7
theorem nmX3 : ∀ a, a < 7 → ∀ b, b < 7 → a ≠ b → (TX3 a).2.1 ≠ (TX3 b).2.1 := by decide +kernel
theorem tyX3_ok : ∀ k, k < 7 → parseFieldDescriptor (TX3 k).2.2.1 = some (tyX3 k) := by decide +kernel
abbrev cX3_init : ByteArray := prog_5_method_1_code
def yX3_init : MethodName := ⟨RX3, "<init>", "()V"⟩
abbrev cX3_clear : ByteArray := prog_5_method_2_code
def yX3_clear : MethodName := ⟨RX3, "clear", "()V"⟩
abbrev cX3_add : ByteArray := prog_5_method_3_code
def yX3_add : MethodName := ⟨RX3, "add", "(I)V"⟩
abbrev cX3_beginClause : ByteArray := prog_5_method_4_code
def yX3_beginClause : MethodName := ⟨RX3, "beginClause", "(I)V"⟩
abbrev cX3_beginTest : ByteArray := prog_5_method_5_code
def yX3_beginTest : MethodName := ⟨RX3, "beginTest", "()V"⟩
abbrev cX3_endClause : ByteArray := prog_5_method_6_code
def yX3_endClause : MethodName := ⟨RX3, "endClause", "()V"⟩
def RX4 : String := "OneSunbeam$LawReader"
def TX4 : u_T := fun k => match k with
  | 0 => ("OneSunbeam$LawReader", "text", "[B", true)
  | 1 => ("OneSunbeam$LawReader", "open", "[I", true)
  | 2 => ("OneSunbeam$LawReader", "openCount", "I", false)
  | 3 => ("OneSunbeam$LawReader", "length", "I", false)
  | 4 => ("OneSunbeam$LawReader", "place", "I", false)
  | 5 => ("OneSunbeam$LawReader", "token", "I", false)
  | 6 => ("OneSunbeam$LawReader", "tokenLength", "I", false)
  | 7 => ("OneSunbeam$LawReader", "awaited", "I", false)
  | 8 => ("OneSunbeam$LawReader", "part", "I", false)
  | 9 => ("OneSunbeam$LawReader", "depth", "I", false)
  | 10 => ("OneSunbeam$LawReader", "brackets", "I", false)
  | 11 => ("OneSunbeam$LawReader", "valueCount", "I", false)
  | 12 => ("OneSunbeam$LawReader", "fault", "I", false)
  | _ => ("OneSunbeam$LawReader", "draft", "LOneSunbeam$Law;", false)
def tyX4 : Nat → FieldType := fun k => match k with
  | 0 => .array .byte
  | 1 => .array .int
  | 2 => .int
  | 3 => .int
  | 4 => .int
  | 5 => .int
  | 6 => .int
  | 7 => .int
  | 8 => .int
  | 9 => .int
  | 10 => .int
  | 11 => .int
  | 12 => .int
  | _ => .object "OneSunbeam$Law"
abbrev wsX40 : List Cond := u_ws RX4 TX4 14
theorem nmX4 : ∀ a, a < 14 → ∀ b, b < 14 → a ≠ b → (TX4 a).2.1 ≠ (TX4 b).2.1 := by decide +kernel
theorem tyX4_ok : ∀ k, k < 14 → parseFieldDescriptor (TX4 k).2.2.1 = some (tyX4 k) := by decide +kernel
abbrev cX4_init : ByteArray := prog_6_method_1_code
def yX4_init : MethodName := ⟨RX4, "<init>", "()V"⟩
abbrev cX4_read : ByteArray := prog_6_method_2_code
def yX4_read : MethodName := ⟨RX4, "read", "([BILOneSunbeam$Law;)I"⟩
abbrev cX4_fail : ByteArray := prog_6_method_3_code
def yX4_fail : MethodName := ⟨RX4, "fail", "(I)V"⟩
abbrev cX4_takeToken : ByteArray := prog_6_method_4_code
def yX4_takeToken : MethodName := ⟨RX4, "takeToken", "()V"⟩
abbrev cX4_takeTurn : ByteArray := prog_6_method_5_code
def yX4_takeTurn : MethodName := ⟨RX4, "takeTurn", "()V"⟩
abbrev cX4_takeMirror : ByteArray := prog_6_method_6_code
def yX4_takeMirror : MethodName := ⟨RX4, "takeMirror", "()V"⟩
abbrev cX4_takeFact : ByteArray := prog_6_method_7_code
def yX4_takeFact : MethodName := ⟨RX4, "takeFact", "()V"⟩
abbrev cX4_takeValue : ByteArray := prog_6_method_8_code
def yX4_takeValue : MethodName := ⟨RX4, "takeValue", "()V"⟩
abbrev cX4_takeBehind : ByteArray := prog_6_method_9_code
def yX4_takeBehind : MethodName := ⟨RX4, "takeBehind", "()V"⟩
abbrev cX4_takeSign : ByteArray := prog_6_method_10_code
def yX4_takeSign : MethodName := ⟨RX4, "takeSign", "(II)V"⟩
abbrev cX4_closeBracket : ByteArray := prog_6_method_11_code
def yX4_closeBracket : MethodName := ⟨RX4, "closeBracket", "()V"⟩
abbrev cX4_takeClauseEnd : ByteArray := prog_6_method_12_code
def yX4_takeClauseEnd : MethodName := ⟨RX4, "takeClauseEnd", "()V"⟩
abbrev cX4_countsOneMore : ByteArray := prog_6_method_13_code
def yX4_countsOneMore : MethodName := ⟨RX4, "countsOneMore", "()Z"⟩
abbrev cX4_push : ByteArray := prog_6_method_14_code
def yX4_push : MethodName := ⟨RX4, "push", "(I)V"⟩
abbrev cX4_popDownTo : ByteArray := prog_6_method_15_code
def yX4_popDownTo : MethodName := ⟨RX4, "popDownTo", "(I)V"⟩
abbrev cX4_rankOf : ByteArray := prog_6_method_16_code
def yX4_rankOf : MethodName := ⟨RX4, "rankOf", "(I)I"⟩
abbrev cX4_readToken : ByteArray := prog_6_method_17_code
def yX4_readToken : MethodName := ⟨RX4, "readToken", "()V"⟩
abbrev cX4_readNumber : ByteArray := prog_6_method_18_code
def yX4_readNumber : MethodName := ⟨RX4, "readNumber", "()V"⟩
abbrev cX4_yardHere : ByteArray := prog_6_method_19_code
def yX4_yardHere : MethodName := ⟨RX4, "yardHere", "()I"⟩
abbrev cX4_wordHere : ByteArray := prog_6_method_20_code
def yX4_wordHere : MethodName := ⟨RX4, "wordHere", "()I"⟩
abbrev cX4_isWord : ByteArray := prog_6_method_21_code
def yX4_isWord : MethodName := ⟨RX4, "isWord", "(Ljava/lang/String;)Z"⟩
abbrev cX4_signHere : ByteArray := prog_6_method_22_code
def yX4_signHere : MethodName := ⟨RX4, "signHere", "()I"⟩
abbrev cX4_byteAt : ByteArray := prog_6_method_23_code
def yX4_byteAt : MethodName := ⟨RX4, "byteAt", "(I)I"⟩
abbrev cX4_isDigit : ByteArray := prog_6_method_24_code
def yX4_isDigit : MethodName := ⟨RX4, "isDigit", "(I)Z"⟩
abbrev cX4_isLetter : ByteArray := prog_6_method_25_code
def yX4_isLetter : MethodName := ⟨RX4, "isLetter", "(I)Z"⟩
def RX5 : String := "OneSunbeam$Mending"
def TX5 : u_T := fun k => match k with
  | 0 => ("OneSunbeam$Mending", "answers", "[I", true)
  | 1 => ("OneSunbeam$Mending", "town", "LOneSunbeam$Town;", true)
  | 2 => ("OneSunbeam$Mending", "beams", "LOneSunbeam$Beams;", true)
  | 3 => ("OneSunbeam$Mending", "needed", "[I", true)
  | 4 => ("OneSunbeam$Mending", "touchedWith", "[I", true)
  | 5 => ("OneSunbeam$Mending", "hour", "I", false)
  | 6 => ("OneSunbeam$Mending", "breaking", "I", false)
  | 7 => ("OneSunbeam$Mending", "brokenBefore", "I", false)
  | _ => ("OneSunbeam$Mending", "touchedNow", "I", false)
def tyX5 : Nat → FieldType := fun k => match k with
  | 0 => .array .int
  | 1 => .object "OneSunbeam$Town"
  | 2 => .object "OneSunbeam$Beams"
  | 3 => .array .int
  | 4 => .array .int
  | 5 => .int
  | 6 => .int
  | 7 => .int
  | _ => .int
abbrev wsX50 : List Cond := u_ws RX5 TX5 9
theorem nmX5 : ∀ a, a < 9 → ∀ b, b < 9 → a ≠ b → (TX5 a).2.1 ≠ (TX5 b).2.1 := by decide +kernel
theorem tyX5_ok : ∀ k, k < 9 → parseFieldDescriptor (TX5 k).2.2.1 = some (tyX5 k) := by decide +kernel
abbrev cX5_init : ByteArray := prog_7_method_1_code
def yX5_init : MethodName := ⟨RX5, "<init>", "(LOneSunbeam$Town;LOneSunbeam$Beams;)V"⟩
abbrev cX5_begin : ByteArray := prog_7_method_2_code
def yX5_begin : MethodName := ⟨RX5, "begin", "(II)V"⟩
abbrev cX5_restore : ByteArray := prog_7_method_3_code
def yX5_restore : MethodName := ⟨RX5, "restore", "()V"⟩
abbrev cX5_needsNone : ByteArray := prog_7_method_4_code
def yX5_needsNone : MethodName := ⟨RX5, "needsNone", "()Z"⟩
abbrev cX5_findOne : ByteArray := prog_7_method_5_code
def yX5_findOne : MethodName := ⟨RX5, "findOne", "()Z"⟩
abbrev cX5_findTwo : ByteArray := prog_7_method_6_code
def yX5_findTwo : MethodName := ⟨RX5, "findTwo", "()V"⟩
abbrev cX5_isEnough : ByteArray := prog_7_method_7_code
def yX5_isEnough : MethodName := ⟨RX5, "isEnough", "()Z"⟩
abbrev cX5_isMendedBy : ByteArray := prog_7_method_8_code
def yX5_isMendedBy : MethodName := ⟨RX5, "isMendedBy", "(II)Z"⟩
abbrev cX5_findSlants : ByteArray := prog_7_method_9_code
def yX5_findSlants : MethodName := ⟨RX5, "findSlants", "(II)Z"⟩
abbrev cX5_doesPairMatter : ByteArray := prog_7_method_10_code
def yX5_doesPairMatter : MethodName := ⟨RX5, "doesPairMatter", "(IIII)Z"⟩
abbrev cX5_isIn : ByteArray := prog_7_method_11_code
def yX5_isIn : MethodName := ⟨RX5, "isIn", "(II)Z"⟩
def RX6 : String := "OneSunbeam$Opening"
def TX6 : u_T := fun k => match k with
  | 0 => ("OneSunbeam$Opening", "cell", "I", false)
  | 1 => ("OneSunbeam$Opening", "way", "I", false)
  | 2 => ("OneSunbeam$Opening", "most", "I", false)
  | _ => ("OneSunbeam$Opening", "beams", "LOneSunbeam$Beams;", true)
def tyX6 : Nat → FieldType := fun k => match k with
  | 0 => .int
  | 1 => .int
  | 2 => .int
  | _ => .object "OneSunbeam$Beams"
abbrev wsX60 : List Cond := u_ws RX6 TX6 4
theorem nmX6 : ∀ a, a < 4 → ∀ b, b < 4 → a ≠ b → (TX6 a).2.1 ≠ (TX6 b).2.1 := by decide +kernel
theorem tyX6_ok : ∀ k, k < 4 → parseFieldDescriptor (TX6 k).2.2.1 = some (tyX6 k) := by decide +kernel
abbrev cX6_init : ByteArray := prog_8_method_1_code
def yX6_init : MethodName := ⟨RX6, "<init>", "(LOneSunbeam$Beams;)V"⟩
abbrev cX6_search : ByteArray := prog_8_method_2_code
def yX6_search : MethodName := ⟨RX6, "search", "(LOneSunbeam$Town;I)V"⟩
abbrev cX6_isEdge : ByteArray := prog_8_method_3_code
def yX6_isEdge : MethodName := ⟨RX6, "isEdge", "(LOneSunbeam$Town;II)Z"⟩
abbrev cX6_tryWays : ByteArray := prog_8_method_4_code
def yX6_tryWays : MethodName := ⟨RX6, "tryWays", "(LOneSunbeam$Town;I)V"⟩
def RX7 : String := "OneSunbeam$Theft"
def TX7 : u_T := fun k => match k with
  | 0 => ("OneSunbeam$Theft", "mirror", "I", false)
  | 1 => ("OneSunbeam$Theft", "missing", "I", false)
  | 2 => ("OneSunbeam$Theft", "explains", "I", false)
  | 3 => ("OneSunbeam$Theft", "order", "[I", true)
  | 4 => ("OneSunbeam$Theft", "comes", "[I", true)
  | _ => ("OneSunbeam$Theft", "metCount", "I", false)
def tyX7 : Nat → FieldType := fun k => match k with
  | 0 => .int
  | 1 => .int
  | 2 => .int
  | 3 => .array .int
  | 4 => .array .int
  | _ => .int
abbrev wsX70 : List Cond := u_ws RX7 TX7 6
theorem nmX7 : ∀ a, a < 6 → ∀ b, b < 6 → a ≠ b → (TX7 a).2.1 ≠ (TX7 b).2.1 := by decide +kernel
theorem tyX7_ok : ∀ k, k < 6 → parseFieldDescriptor (TX7 k).2.2.1 = some (tyX7 k) := by decide +kernel
abbrev cX7_init : ByteArray := prog_9_method_1_code
def yX7_init : MethodName := ⟨RX7, "<init>", "()V"⟩
abbrev cX7_search : ByteArray := prog_9_method_2_code
def yX7_search : MethodName := ⟨RX7, "search", "(LOneSunbeam$Town;I)V"⟩
abbrev cX7_isExplainedBehind : ByteArray := prog_9_method_3_code
def yX7_isExplainedBehind : MethodName := ⟨RX7, "isExplainedBehind", "(LOneSunbeam$Town;II)Z"⟩
abbrev cX7_walk : ByteArray := prog_9_method_4_code
def yX7_walk : MethodName := ⟨RX7, "walk", "(LOneSunbeam$Town;I)V"⟩
abbrev cX7_meet : ByteArray := prog_9_method_5_code
def yX7_meet : MethodName := ⟨RX7, "meet", "(II)I"⟩
def RX8 : String := "OneSunbeam$Town"
def TX8 : u_T := fun k => match k with
  | 0 => ("OneSunbeam$Town", "columns", "I", false)
  | 1 => ("OneSunbeam$Town", "rows", "I", false)
  | 2 => ("OneSunbeam$Town", "gapX", "I", false)
  | 3 => ("OneSunbeam$Town", "gapY", "I", false)
  | 4 => ("OneSunbeam$Town", "air", "I", false)
  | 5 => ("OneSunbeam$Town", "month", "I", false)
  | 6 => ("OneSunbeam$Town", "day", "I", false)
  | 7 => ("OneSunbeam$Town", "fall", "I", false)
  | 8 => ("OneSunbeam$Town", "mirrorCount", "I", false)
  | 9 => ("OneSunbeam$Town", "yardCount", "I", false)
  | 10 => ("OneSunbeam$Town", "rock", "[I", true)
  | 11 => ("OneSunbeam$Town", "eyes", "[I", true)
  | 12 => ("OneSunbeam$Town", "mirrorAt", "[I", true)
  | 13 => ("OneSunbeam$Town", "yardAt", "[I", true)
  | 14 => ("OneSunbeam$Town", "sunWay", "[I", true)
  | 15 => ("OneSunbeam$Town", "sunStrength", "[I", true)
  | 16 => ("OneSunbeam$Town", "mirrorTable", "[I", true)
  | _ => ("OneSunbeam$Town", "yardTable", "[I", true)
def tyX8 : Nat → FieldType := fun k => match k with
  | 0 => .int
  | 1 => .int
  | 2 => .int
  | 3 => .int
  | 4 => .int
  | 5 => .int
  | 6 => .int
  | 7 => .int
  | 8 => .int
  | 9 => .int
  | 10 => .array .int
  | 11 => .array .int
  | 12 => .array .int
  | 13 => .array .int
  | 14 => .array .int
  | 15 => .array .int
  | 16 => .array .int
  | _ => .array .int
abbrev wsX80 : List Cond := u_ws RX8 TX8 18
theorem nmX8 : ∀ a, a < 18 → ∀ b, b < 18 → a ≠ b → (TX8 a).2.1 ≠ (TX8 b).2.1 := by decide +kernel
theorem tyX8_ok : ∀ k, k < 18 → parseFieldDescriptor (TX8 k).2.2.1 = some (tyX8 k) := by decide +kernel
abbrev cX8_init : ByteArray := prog_10_method_1_code
def yX8_init : MethodName := ⟨RX8, "<init>", "()V"⟩
abbrev cX8_begin : ByteArray := prog_10_method_2_code
def yX8_begin : MethodName := ⟨RX8, "begin", "(IIIII)V"⟩
abbrev cX8_copyFrom : ByteArray := prog_10_method_3_code
def yX8_copyFrom : MethodName := ⟨RX8, "copyFrom", "(LOneSunbeam$Town;)V"⟩
abbrev cX8_isBegun : ByteArray := prog_10_method_4_code
def yX8_isBegun : MethodName := ⟨RX8, "isBegun", "()Z"⟩
abbrev cX8_hasCell : ByteArray := prog_10_method_5_code
def yX8_hasCell : MethodName := ⟨RX8, "hasCell", "(II)Z"⟩
abbrev cX8_isOpen : ByteArray := prog_10_method_6_code
def yX8_isOpen : MethodName := ⟨RX8, "isOpen", "(II)Z"⟩
abbrev cX8_hasRectangle : ByteArray := prog_10_method_7_code
def yX8_hasRectangle : MethodName := ⟨RX8, "hasRectangle", "(IIII)Z"⟩
abbrev cX8_hasMirror : ByteArray := prog_10_method_8_code
def yX8_hasMirror : MethodName := ⟨RX8, "hasMirror", "(I)Z"⟩
abbrev cX8_hasYard : ByteArray := prog_10_method_9_code
def yX8_hasYard : MethodName := ⟨RX8, "hasYard", "(I)Z"⟩
abbrev cX8_isLit : ByteArray := prog_10_method_10_code
def yX8_isLit : MethodName := ⟨RX8, "isLit", "(I)Z"⟩
abbrev cX8_wayOf : ByteArray := prog_10_method_11_code
def yX8_wayOf : MethodName := ⟨RX8, "wayOf", "(I)I"⟩
abbrev cX8_strengthOf : ByteArray := prog_10_method_12_code
def yX8_strengthOf : MethodName := ⟨RX8, "strengthOf", "(I)I"⟩
abbrev cX8_setWay : ByteArray := prog_10_method_13_code
def yX8_setWay : MethodName := ⟨RX8, "setWay", "(II)V"⟩
abbrev cX8_ofMirror : ByteArray := prog_10_method_14_code
def yX8_ofMirror : MethodName := ⟨RX8, "ofMirror", "(II)I"⟩
abbrev cX8_setMirror : ByteArray := prog_10_method_15_code
def yX8_setMirror : MethodName := ⟨RX8, "setMirror", "(III)V"⟩
abbrev cX8_ofYard : ByteArray := prog_10_method_16_code
def yX8_ofYard : MethodName := ⟨RX8, "ofYard", "(II)I"⟩
abbrev cX8_setYard : ByteArray := prog_10_method_17_code
def yX8_setYard : MethodName := ⟨RX8, "setYard", "(III)V"⟩
abbrev cX8_setRock : ByteArray := prog_10_method_18_code
def yX8_setRock : MethodName := ⟨RX8, "setRock", "(IIIII)I"⟩
abbrev cX8_addMirror : ByteArray := prog_10_method_19_code
def yX8_addMirror : MethodName := ⟨RX8, "addMirror", "(II)I"⟩
abbrev cX8_addYard : ByteArray := prog_10_method_20_code
def yX8_addYard : MethodName := ⟨RX8, "addYard", "(IIII)I"⟩
abbrev cX8_isWhole : ByteArray := prog_10_method_21_code
def yX8_isWhole : MethodName := ⟨RX8, "isWhole", "(I)Z"⟩
abbrev cX8_takeAt : ByteArray := prog_10_method_22_code
def yX8_takeAt : MethodName := ⟨RX8, "takeAt", "(I)I"⟩
abbrev cX8_lossOf : ByteArray := prog_10_method_23_code
def yX8_lossOf : MethodName := ⟨RX8, "lossOf", "(I)I"⟩
abbrev cX8_wayFrom : ByteArray := prog_10_method_24_code
def yX8_wayFrom : MethodName := ⟨RX8, "wayFrom", "(II)I"⟩
abbrev cX8_mirrorsWith : ByteArray := prog_10_method_25_code
def yX8_mirrorsWith : MethodName := ⟨RX8, "mirrorsWith", "(II)I"⟩
abbrev cX8_setBroken : ByteArray := prog_10_method_26_code
def yX8_setBroken : MethodName := ⟨RX8, "setBroken", "(II)V"⟩
abbrev cX8_turnTowards : ByteArray := prog_10_method_27_code
def yX8_turnTowards : MethodName := ⟨RX8, "turnTowards", "(II)V"⟩
abbrev cX8_endDay : ByteArray := prog_10_method_28_code
def yX8_endDay : MethodName := ⟨RX8, "endDay", "([I)V"⟩
abbrev cX8_metCount : ByteArray := prog_10_method_29_code
def yX8_metCount : MethodName := ⟨RX8, "metCount", "()I"⟩
def RX9 : String := "OneSunbeam"
def TX9 : u_T := fun k => match k with
  | 0 => ("OneSunbeam", "town", "LOneSunbeam$Town;", true)
  | 1 => ("OneSunbeam", "trial", "LOneSunbeam$Town;", true)
  | 2 => ("OneSunbeam", "images", "[LOneSunbeam$Town;", true)
  | 3 => ("OneSunbeam", "beams", "LOneSunbeam$Beams;", true)
  | 4 => ("OneSunbeam", "keepers", "LOneSunbeam$Keepers;", true)
  | 5 => ("OneSunbeam", "aiming", "LOneSunbeam$Aiming;", true)
  | 6 => ("OneSunbeam", "mending", "LOneSunbeam$Mending;", true)
  | 7 => ("OneSunbeam", "opening", "LOneSunbeam$Opening;", true)
  | 8 => ("OneSunbeam", "theft", "LOneSunbeam$Theft;", true)
  | 9 => ("OneSunbeam", "reader", "LOneSunbeam$LawReader;", true)
  | 10 => ("OneSunbeam", "laws", "[LOneSunbeam$Law;", true)
  | 11 => ("OneSunbeam", "tape", "[B", true)
  | 12 => ("OneSunbeam", "gotNow", "[I", true)
  | 13 => ("OneSunbeam", "draft", "LOneSunbeam$Law;", false)
  | 14 => ("OneSunbeam", "lawCount", "I", false)
  | _ => ("OneSunbeam", "tapeLength", "I", false)
def tyX9 : Nat → FieldType := fun k => match k with
  | 0 => .object "OneSunbeam$Town"
  | 1 => .object "OneSunbeam$Town"
  | 2 => .array (.object "OneSunbeam$Town")
  | 3 => .object "OneSunbeam$Beams"
  | 4 => .object "OneSunbeam$Keepers"
  | 5 => .object "OneSunbeam$Aiming"
  | 6 => .object "OneSunbeam$Mending"
  | 7 => .object "OneSunbeam$Opening"
  | 8 => .object "OneSunbeam$Theft"
  | 9 => .object "OneSunbeam$LawReader"
  | 10 => .array (.object "OneSunbeam$Law")
  | 11 => .array .byte
  | 12 => .array .int
  | 13 => .object "OneSunbeam$Law"
  | 14 => .int
  | _ => .int
abbrev wsX90 : List Cond := u_ws RX9 TX9 16
theorem nmX9 : ∀ a, a < 16 → ∀ b, b < 16 → a ≠ b → (TX9 a).2.1 ≠ (TX9 b).2.1 := by decide +kernel
theorem tyX9_ok : ∀ k, k < 16 → parseFieldDescriptor (TX9 k).2.2.1 = some (tyX9 k) := by decide +kernel
abbrev cX9_init : ByteArray := prog_1_method_1_code
def yX9_init : MethodName := ⟨RX9, "<init>", "()V"⟩
abbrev cX9_town : ByteArray := prog_1_method_2_code
def yX9_town : MethodName := ⟨RX9, "town", "(IIIII)Z"⟩
abbrev cX9_rock : ByteArray := prog_1_method_3_code
def yX9_rock : MethodName := ⟨RX9, "rock", "(IIIIZ)I"⟩
abbrev cX9_sun : ByteArray := prog_1_method_4_code
def yX9_sun : MethodName := ⟨RX9, "sun", "(IIII)Z"⟩
abbrev cX9_mirror : ByteArray := prog_1_method_5_code
def yX9_mirror : MethodName := ⟨RX9, "mirror", "(IIIIIII)I"⟩
abbrev cX9_sets : ByteArray := prog_1_method_6_code
def yX9_sets : MethodName := ⟨RX9, "sets", "(III)I"⟩
abbrev cX9_yard : ByteArray := prog_1_method_7_code
def yX9_yard : MethodName := ⟨RX9, "yard", "(IIIIII)I"⟩
abbrev cX9_eyes : ByteArray := prog_1_method_8_code
def yX9_eyes : MethodName := ⟨RX9, "eyes", "(III)I"⟩
abbrev cX9_month : ByteArray := prog_1_method_9_code
def yX9_month : MethodName := ⟨RX9, "month", "(I)I"⟩
abbrev cX9_falls : ByteArray := prog_1_method_10_code
def yX9_falls : MethodName := ⟨RX9, "falls", "(I)I"⟩
abbrev cX9_feed : ByteArray := prog_1_method_11_code
def yX9_feed : MethodName := ⟨RX9, "feed", "(IIIII)I"⟩
abbrev cX9_end : ByteArray := prog_1_method_12_code
def yX9_end : MethodName := ⟨RX9, "end", "(I)I"⟩
abbrev cX9_law : ByteArray := prog_1_method_13_code
def yX9_law : MethodName := ⟨RX9, "law", "()I"⟩
abbrev cX9_days : ByteArray := prog_1_method_14_code
def yX9_days : MethodName := ⟨RX9, "days", "(II)I"⟩
abbrev cX9_mirrors : ByteArray := prog_1_method_15_code
def yX9_mirrors : MethodName := ⟨RX9, "mirrors", "(II)I"⟩
abbrev cX9_yards : ByteArray := prog_1_method_16_code
def yX9_yards : MethodName := ⟨RX9, "yards", "(II)I"⟩
abbrev cX9_cell : ByteArray := prog_1_method_17_code
def yX9_cell : MethodName := ⟨RX9, "cell", "(III)I"⟩
abbrev cX9_gets : ByteArray := prog_1_method_18_code
def yX9_gets : MethodName := ⟨RX9, "gets", "(II)I"⟩
abbrev cX9_light : ByteArray := prog_1_method_19_code
def yX9_light : MethodName := ⟨RX9, "light", "(II)I"⟩
abbrev cX9_passes : ByteArray := prog_1_method_20_code
def yX9_passes : MethodName := ⟨RX9, "passes", "(III)I"⟩
abbrev cX9_sees : ByteArray := prog_1_method_21_code
def yX9_sees : MethodName := ⟨RX9, "sees", "(II)I"⟩
abbrev cX9_worth : ByteArray := prog_1_method_22_code
def yX9_worth : MethodName := ⟨RX9, "worth", "(II)I"⟩
abbrev cX9_owned : ByteArray := prog_1_method_23_code
def yX9_owned : MethodName := ⟨RX9, "owned", "(II)I"⟩
abbrev cX9_aim : ByteArray := prog_1_method_24_code
def yX9_aim : MethodName := ⟨RX9, "aim", "(IIII)I"⟩
abbrev cX9_fair : ByteArray := prog_1_method_25_code
def yX9_fair : MethodName := ⟨RX9, "fair", "(III)I"⟩
abbrev cX9_mends : ByteArray := prog_1_method_26_code
def yX9_mends : MethodName := ⟨RX9, "mends", "(III)I"⟩
abbrev cX9_second : ByteArray := prog_1_method_27_code
def yX9_second : MethodName := ⟨RX9, "second", "(II)I"⟩
abbrev cX9_thief : ByteArray := prog_1_method_28_code
def yX9_thief : MethodName := ⟨RX9, "thief", "(II)I"⟩
abbrev cX9_dusty : ByteArray := prog_1_method_29_code
def yX9_dusty : MethodName := ⟨RX9, "dusty", "(IIII)I"⟩
abbrev cX9_dark : ByteArray := prog_1_method_30_code
def yX9_dark : MethodName := ⟨RX9, "dark", "(III)I"⟩
abbrev cX9_ahead : ByteArray := prog_1_method_31_code
def yX9_ahead : MethodName := ⟨RX9, "ahead", "(III)I"⟩
abbrev cX9_count : ByteArray := prog_1_method_32_code
def yX9_count : MethodName := ⟨RX9, "count", "(I)I"⟩
abbrev cX9_image : ByteArray := prog_1_method_33_code
def yX9_image : MethodName := ⟨RX9, "image", "(I)I"⟩
abbrev cX9_back : ByteArray := prog_1_method_34_code
def yX9_back : MethodName := ⟨RX9, "back", "(I)I"⟩
abbrev cX9_isWithin : ByteArray := prog_1_method_35_code
def yX9_isWithin : MethodName := ⟨RX9, "isWithin", "(III)Z"⟩
abbrev cX9_cellOf : ByteArray := prog_1_method_36_code
def yX9_cellOf : MethodName := ⟨RX9, "cellOf", "(II)I"⟩
abbrev cX9_shareOf : ByteArray := prog_1_method_37_code
def yX9_shareOf : MethodName := ⟨RX9, "shareOf", "(II)I"⟩
abbrev cX9_changeMirror : ByteArray := prog_1_method_38_code
def yX9_changeMirror : MethodName := ⟨RX9, "changeMirror", "(IIIZ)I"⟩
abbrev cX9_putOnTape : ByteArray := prog_1_method_39_code
def yX9_putOnTape : MethodName := ⟨RX9, "putOnTape", "(I)V"⟩
abbrev cX9_findLaw : ByteArray := prog_1_method_40_code
def yX9_findLaw : MethodName := ⟨RX9, "findLaw", "(I)LOneSunbeam$Law;"⟩
abbrev cX9_isPlaceOfSet : ByteArray := prog_1_method_41_code
def yX9_isPlaceOfSet : MethodName := ⟨RX9, "isPlaceOfSet", "(II)Z"⟩
abbrev cX9_worthOfSet : ByteArray := prog_1_method_42_code
def yX9_worthOfSet : MethodName := ⟨RX9, "worthOfSet", "(II)I"⟩
abbrev cX9_leastDust : ByteArray := prog_1_method_43_code
def yX9_leastDust : MethodName := ⟨RX9, "leastDust", "(IIII)I"⟩
abbrev cX9_leastDustOneByOne : ByteArray := prog_1_method_44_code
def yX9_leastDustOneByOne : MethodName := ⟨RX9, "leastDustOneByOne", "(IIII)I"⟩
abbrev cX9_leastDustByHalves : ByteArray := prog_1_method_45_code
def yX9_leastDustByHalves : MethodName := ⟨RX9, "leastDustByHalves", "(IIII)I"⟩
abbrev cX9_getWithDust : ByteArray := prog_1_method_46_code
def yX9_getWithDust : MethodName := ⟨RX9, "getWithDust", "(IIII)I"⟩
abbrev cX9_countOfTown : ByteArray := prog_1_method_47_code
def yX9_countOfTown : MethodName := ⟨RX9, "countOfTown", "(I)I"⟩
def RX10 : String := "OneSunbeamModel"
def TX10 : u_T := fun k => match k with
  | 0 => ("OneSunbeamModel", "thrown", "I", false)
  | 1 => ("OneSunbeamModel", "scalar", "[I", true)
  | 2 => ("OneSunbeamModel", "rocky", "[I", true)
  | 3 => ("OneSunbeamModel", "eyed", "[I", true)
  | 4 => ("OneSunbeamModel", "sunWay", "[I", true)
  | 5 => ("OneSunbeamModel", "sunStrong", "[I", true)
  | 6 => ("OneSunbeamModel", "mirrorAt", "[I", true)
  | 7 => ("OneSunbeamModel", "mx", "[I", true)
  | 8 => ("OneSunbeamModel", "my", "[I", true)
  | 9 => ("OneSunbeamModel", "slant", "[I", true)
  | 10 => ("OneSunbeamModel", "loss", "[I", true)
  | 11 => ("OneSunbeamModel", "through", "[I", true)
  | 12 => ("OneSunbeamModel", "reach", "[I", true)
  | 13 => ("OneSunbeamModel", "owner", "[I", true)
  | 14 => ("OneSunbeamModel", "dust", "[I", true)
  | 15 => ("OneSunbeamModel", "broken", "[I", true)
  | 16 => ("OneSunbeamModel", "reading", "[I", true)
  | 17 => ("OneSunbeamModel", "yx", "[I", true)
  | 18 => ("OneSunbeamModel", "yy", "[I", true)
  | 19 => ("OneSunbeamModel", "yToX", "[I", true)
  | 20 => ("OneSunbeamModel", "yToY", "[I", true)
  | 21 => ("OneSunbeamModel", "take", "[I", true)
  | 22 => ("OneSunbeamModel", "want", "[I", true)
  | 23 => ("OneSunbeamModel", "lit", "[I", true)
  | 24 => ("OneSunbeamModel", "taped", "I", false)
  | 25 => ("OneSunbeamModel", "p", "I", false)
  | 26 => ("OneSunbeamModel", "fault", "I", false)
  | 27 => ("OneSunbeamModel", "slot", "I", false)
  | 28 => ("OneSunbeamModel", "laws", "I", false)
  | 29 => ("OneSunbeamModel", "entries", "I", false)
  | 30 => ("OneSunbeamModel", "deep", "I", false)
  | 31 => ("OneSunbeamModel", "counted", "I", false)
  | 32 => ("OneSunbeamModel", "opened", "I", false)
  | 33 => ("OneSunbeamModel", "words", "I", false)
  | 34 => ("OneSunbeamModel", "tape", "[B", true)
  | 35 => ("OneSunbeamModel", "sort", "[I", true)
  | 36 => ("OneSunbeamModel", "number", "[I", true)
  | 37 => ("OneSunbeamModel", "clauses", "[I", true)
  | 38 => ("OneSunbeamModel", "turned", "[I", true)
  | 39 => ("OneSunbeamModel", "sumAt", "[I", true)
  | 40 => ("OneSunbeamModel", "testAt", "[I", true)
  | 41 => ("OneSunbeamModel", "endAt", "[I", true)
  | 42 => ("OneSunbeamModel", "open", "[I", true)
  | 43 => ("OneSunbeamModel", "asked", "[J", true)
  | 44 => ("OneSunbeamModel", "stack", "[J", true)
  | 45 => ("OneSunbeamModel", "waitX", "[I", true)
  | 46 => ("OneSunbeamModel", "waitY", "[I", true)
  | 47 => ("OneSunbeamModel", "waitWay", "[I", true)
  | 48 => ("OneSunbeamModel", "waitStrong", "[I", true)
  | 49 => ("OneSunbeamModel", "passing", "[I", true)
  | 50 => ("OneSunbeamModel", "got", "[I", true)
  | 51 => ("OneSunbeamModel", "firstWaits", "I", false)
  | 52 => ("OneSunbeamModel", "waits", "I", false)
  | 53 => ("OneSunbeamModel", "lost", "I", false)
  | 54 => ("OneSunbeamModel", "spilt", "I", false)
  | 55 => ("OneSunbeamModel", "entered", "I", false)
  | 56 => ("OneSunbeamModel", "beams", "I", false)
  | 57 => ("OneSunbeamModel", "thief", "I", false)
  | 58 => ("OneSunbeamModel", "isMet", "[Z", true)
  | 59 => ("OneSunbeamModel", "seeks", "Z", false)
  | 60 => ("OneSunbeamModel", "order", "[I", true)
  | 61 => ("OneSunbeamModel", "comes", "[I", true)
  | 62 => ("OneSunbeamModel", "comesAt", "[I", true)
  | 63 => ("OneSunbeamModel", "manyMet", "I", false)
  | 64 => ("OneSunbeamModel", "dayGot", "[I", true)
  | 65 => ("OneSunbeamModel", "blindHours", "I", false)
  | 66 => ("OneSunbeamModel", "before", "[I", true)
  | 67 => ("OneSunbeamModel", "keptSlant", "[I", true)
  | 68 => ("OneSunbeamModel", "keptBroken", "[I", true)
  | 69 => ("OneSunbeamModel", "keptDust", "[I", true)
  | 70 => ("OneSunbeamModel", "keptLit", "[I", true)
  | 71 => ("OneSunbeamModel", "row", "[I", true)
  | 72 => ("OneSunbeamModel", "bestRow", "[I", true)
  | 73 => ("OneSunbeamModel", "mended", "[I", true)
  | 74 => ("OneSunbeamModel", "keptDay", "I", false)
  | 75 => ("OneSunbeamModel", "keptMonth", "I", false)
  | 76 => ("OneSunbeamModel", "images", "[I", true)
  | 77 => ("OneSunbeamModel", "isMade", "[Z", true)
  | 78 => ("OneSunbeamModel", "imageAt", "I", false)
  | _ => ("OneSunbeamModel", "goesBack", "Z", false)
def tyX10 : Nat → FieldType := fun k => match k with
  | 0 => .int
  | 1 => .array .int
  | 2 => .array .int
  | 3 => .array .int
  | 4 => .array .int
  | 5 => .array .int
  | 6 => .array .int
  | 7 => .array .int
  | 8 => .array .int
  | 9 => .array .int
  | 10 => .array .int
  | 11 => .array .int
  | 12 => .array .int
  | 13 => .array .int
  | 14 => .array .int
  | 15 => .array .int
  | 16 => .array .int
  | 17 => .array .int
  | 18 => .array .int
  | 19 => .array .int
  | 20 => .array .int
  | 21 => .array .int
  | 22 => .array .int
  | 23 => .array .int
  | 24 => .int
  | 25 => .int
  | 26 => .int
  | 27 => .int
  | 28 => .int
  | 29 => .int
  | 30 => .int
  | 31 => .int
  | 32 => .int
  | 33 => .int
  | 34 => .array .byte
  | 35 => .array .int
  | 36 => .array .int
  | 37 => .array .int
  | 38 => .array .int
  | 39 => .array .int
  | 40 => .array .int
  | 41 => .array .int
  | 42 => .array .int
  | 43 => .array .long
  | 44 => .array .long
  | 45 => .array .int
  | 46 => .array .int
  | 47 => .array .int
  | 48 => .array .int
  | 49 => .array .int
  | 50 => .array .int
  | 51 => .int
  | 52 => .int
  | 53 => .int
  | 54 => .int
  | 55 => .int
  | 56 => .int
  | 57 => .int
  | 58 => .array .boolean
  | 59 => .boolean
  | 60 => .array .int
  | 61 => .array .int
  | 62 => .array .int
  | 63 => .int
  | 64 => .array .int
  | 65 => .int
  | 66 => .array .int
  | 67 => .array .int
  | 68 => .array .int
  | 69 => .array .int
  | 70 => .array .int
  | 71 => .array .int
  | 72 => .array .int
  | 73 => .array .int
  | 74 => .int
  | 75 => .int
  | 76 => .array .int
  | 77 => .array .boolean
  | 78 => .int
  | _ => .boolean
abbrev wsX100 : List Cond := u_ws RX10 TX10 80
theorem nmX10 : ∀ a, a < 80 → ∀ b, b < 80 → a ≠ b → (TX10 a).2.1 ≠ (TX10 b).2.1 := by decide +kernel
theorem tyX10_ok : ∀ k, k < 80 → parseFieldDescriptor (TX10 k).2.2.1 = some (tyX10 k) := by decide +kernel
abbrev cX10_init : ByteArray := prog_12_method_1_code
def yX10_init : MethodName := ⟨RX10, "<init>", "()V"⟩
abbrev cX10_in : ByteArray := prog_12_method_3_code
def yX10_in : MethodName := ⟨RX10, "in", "(JJJ)Z"⟩
abbrev cX10_has : ByteArray := prog_12_method_4_code
def yX10_has : MethodName := ⟨RX10, "has", "(II)Z"⟩
abbrev cX10_bits : ByteArray := prog_12_method_5_code
def yX10_bits : MethodName := ⟨RX10, "bits", "(I)I"⟩
abbrev cX10_isTown : ByteArray := prog_12_method_6_code
def yX10_isTown : MethodName := ⟨RX10, "isTown", "()Z"⟩
abbrev cX10_isCell : ByteArray := prog_12_method_7_code
def yX10_isCell : MethodName := ⟨RX10, "isCell", "(II)Z"⟩
abbrev cX10_isArea : ByteArray := prog_12_method_8_code
def yX10_isArea : MethodName := ⟨RX10, "isArea", "(IIII)Z"⟩
abbrev cX10_isMirror : ByteArray := prog_12_method_9_code
def yX10_isMirror : MethodName := ⟨RX10, "isMirror", "(I)Z"⟩
abbrev cX10_isYard : ByteArray := prog_12_method_10_code
def yX10_isYard : MethodName := ⟨RX10, "isYard", "(I)Z"⟩
abbrev cX10_town : ByteArray := prog_12_method_11_code
def yX10_town : MethodName := ⟨RX10, "town", "(IIIII)Z"⟩
abbrev cX10_rock : ByteArray := prog_12_method_12_code
def yX10_rock : MethodName := ⟨RX10, "rock", "(IIIIZ)I"⟩
abbrev cX10_sun : ByteArray := prog_12_method_13_code
def yX10_sun : MethodName := ⟨RX10, "sun", "(IIII)Z"⟩
abbrev cX10_mirror : ByteArray := prog_12_method_14_code
def yX10_mirror : MethodName := ⟨RX10, "mirror", "(IIIIIII)I"⟩
abbrev cX10_sets : ByteArray := prog_12_method_15_code
def yX10_sets : MethodName := ⟨RX10, "sets", "(III)I"⟩
abbrev cX10_yard : ByteArray := prog_12_method_16_code
def yX10_yard : MethodName := ⟨RX10, "yard", "(IIIIII)I"⟩
abbrev cX10_eyes : ByteArray := prog_12_method_17_code
def yX10_eyes : MethodName := ⟨RX10, "eyes", "(III)I"⟩
abbrev cX10_month : ByteArray := prog_12_method_18_code
def yX10_month : MethodName := ⟨RX10, "month", "(I)I"⟩
abbrev cX10_falls : ByteArray := prog_12_method_19_code
def yX10_falls : MethodName := ⟨RX10, "falls", "(I)I"⟩
abbrev cX10_feed : ByteArray := prog_12_method_20_code
def yX10_feed : MethodName := ⟨RX10, "feed", "(IIIII)I"⟩
abbrev cX10_put : ByteArray := prog_12_method_21_code
def yX10_put : MethodName := ⟨RX10, "put", "(I)V"⟩
abbrev cX10_end : ByteArray := prog_12_method_22_code
def yX10_end : MethodName := ⟨RX10, "end", "(I)I"⟩
abbrev cX10_wordOf : ByteArray := prog_12_method_23_code
def yX10_wordOf : MethodName := ⟨RX10, "wordOf", "(I)Ljava/lang/String;"⟩
abbrev cX10_fails : ByteArray := prog_12_method_24_code
def yX10_fails : MethodName := ⟨RX10, "fails", "(II)V"⟩
abbrev cX10_sign : ByteArray := prog_12_method_25_code
def yX10_sign : MethodName := ⟨RX10, "sign", "()I"⟩
abbrev cX10_blanks : ByteArray := prog_12_method_26_code
def yX10_blanks : MethodName := ⟨RX10, "blanks", "()V"⟩
abbrev cX10_isDigit : ByteArray := prog_12_method_27_code
def yX10_isDigit : MethodName := ⟨RX10, "isDigit", "()Z"⟩
abbrev cX10_stands : ByteArray := prog_12_method_28_code
def yX10_stands : MethodName := ⟨RX10, "stands", "(Ljava/lang/String;)Z"⟩
abbrev cX10_takes : ByteArray := prog_12_method_29_code
def yX10_takes : MethodName := ⟨RX10, "takes", "(Ljava/lang/String;)Z"⟩
abbrev cX10_entry : ByteArray := prog_12_method_30_code
def yX10_entry : MethodName := ⟨RX10, "entry", "(II)V"⟩
abbrev cX10_isCounted : ByteArray := prog_12_method_31_code
def yX10_isCounted : MethodName := ⟨RX10, "isCounted", "(I)V"⟩
abbrev cX10_digits : ByteArray := prog_12_method_32_code
def yX10_digits : MethodName := ⟨RX10, "digits", "(I)I"⟩
abbrev cX10_value : ByteArray := prog_12_method_33_code
def yX10_value : MethodName := ⟨RX10, "value", "()V"⟩
abbrev cX10_term : ByteArray := prog_12_method_34_code
def yX10_term : MethodName := ⟨RX10, "term", "()V"⟩
abbrev cX10_sum : ByteArray := prog_12_method_35_code
def yX10_sum : MethodName := ⟨RX10, "sum", "()V"⟩
abbrev cX10_compared : ByteArray := prog_12_method_36_code
def yX10_compared : MethodName := ⟨RX10, "compared", "()V"⟩
abbrev cX10_top : ByteArray := prog_12_method_37_code
def yX10_top : MethodName := ⟨RX10, "top", "()I"⟩
abbrev cX10_opens : ByteArray := prog_12_method_38_code
def yX10_opens : MethodName := ⟨RX10, "opens", "(I)V"⟩
abbrev cX10_answers : ByteArray := prog_12_method_39_code
def yX10_answers : MethodName := ⟨RX10, "answers", "(I)V"⟩
abbrev cX10_fact : ByteArray := prog_12_method_40_code
def yX10_fact : MethodName := ⟨RX10, "fact", "()Z"⟩
abbrev cX10_test : ByteArray := prog_12_method_41_code
def yX10_test : MethodName := ⟨RX10, "test", "()V"⟩
abbrev cX10_clause : ByteArray := prog_12_method_42_code
def yX10_clause : MethodName := ⟨RX10, "clause", "(I)V"⟩
abbrev cX10_law : ByteArray := prog_12_method_43_code
def yX10_law : MethodName := ⟨RX10, "law", "()I"⟩
abbrev cX10_isLaw : ByteArray := prog_12_method_44_code
def yX10_isLaw : MethodName := ⟨RX10, "isLaw", "(I)Z"⟩
abbrev cX10_truth : ByteArray := prog_12_method_45_code
def yX10_truth : MethodName := ⟨RX10, "truth", "(Z)J"⟩
abbrev cX10_both : ByteArray := prog_12_method_46_code
def yX10_both : MethodName := ⟨RX10, "both", "(IJJ)J"⟩
abbrev cX10_answer : ByteArray := prog_12_method_47_code
def yX10_answer : MethodName := ⟨RX10, "answer", "(III)J"⟩
abbrev cX10_stepX : ByteArray := prog_12_method_48_code
def yX10_stepX : MethodName := ⟨RX10, "stepX", "(I)I"⟩
abbrev cX10_stepY : ByteArray := prog_12_method_49_code
def yX10_stepY : MethodName := ⟨RX10, "stepY", "(I)I"⟩
abbrev cX10_yardOf : ByteArray := prog_12_method_50_code
def yX10_yardOf : MethodName := ⟨RX10, "yardOf", "(II)I"⟩
abbrev cX10_waitsFor : ByteArray := prog_12_method_51_code
def yX10_waitsFor : MethodName := ⟨RX10, "waitsFor", "(IIII)V"⟩
abbrev cX10_told : ByteArray := prog_12_method_52_code
def yX10_told : MethodName := ⟨RX10, "told", "(II)I"⟩
abbrev cX10_follows : ByteArray := prog_12_method_53_code
def yX10_follows : MethodName := ⟨RX10, "follows", "(I)V"⟩
abbrev cX10_goes : ByteArray := prog_12_method_54_code
def yX10_goes : MethodName := ⟨RX10, "goes", "(IIII)V"⟩
abbrev cX10_traces : ByteArray := prog_12_method_55_code
def yX10_traces : MethodName := ⟨RX10, "traces", "(III)V"⟩
abbrev cX10_sunOf : ByteArray := prog_12_method_56_code
def yX10_sunOf : MethodName := ⟨RX10, "sunOf", "(I)I"⟩
abbrev cX10_shines : ByteArray := prog_12_method_57_code
def yX10_shines : MethodName := ⟨RX10, "shines", "(I)V"⟩
abbrev cX10_allGot : ByteArray := prog_12_method_58_code
def yX10_allGot : MethodName := ⟨RX10, "allGot", "()I"⟩
abbrev cX10_blindCells : ByteArray := prog_12_method_59_code
def yX10_blindCells : MethodName := ⟨RX10, "blindCells", "()I"⟩
abbrev cX10_firstBlind : ByteArray := prog_12_method_60_code
def yX10_firstBlind : MethodName := ⟨RX10, "firstBlind", "()I"⟩
abbrev cX10_asks : ByteArray := prog_12_method_61_code
def yX10_asks : MethodName := ⟨RX10, "asks", "(II)V"⟩
abbrev cX10_turns : ByteArray := prog_12_method_62_code
def yX10_turns : MethodName := ⟨RX10, "turns", "(III)V"⟩
abbrev cX10_goesDay : ByteArray := prog_12_method_63_code
def yX10_goesDay : MethodName := ⟨RX10, "goesDay", "(I)V"⟩
abbrev cX10_met : ByteArray := prog_12_method_64_code
def yX10_met : MethodName := ⟨RX10, "met", "()I"⟩
abbrev cX10_days : ByteArray := prog_12_method_65_code
def yX10_days : MethodName := ⟨RX10, "days", "(II)I"⟩
abbrev cX10_mirrors : ByteArray := prog_12_method_66_code
def yX10_mirrors : MethodName := ⟨RX10, "mirrors", "(II)I"⟩
abbrev cX10_yards : ByteArray := prog_12_method_67_code
def yX10_yards : MethodName := ⟨RX10, "yards", "(II)I"⟩
abbrev cX10_cell : ByteArray := prog_12_method_68_code
def yX10_cell : MethodName := ⟨RX10, "cell", "(III)I"⟩
abbrev cX10_isBright : ByteArray := prog_12_method_69_code
def yX10_isBright : MethodName := ⟨RX10, "isBright", "(I)Z"⟩
abbrev cX10_gets : ByteArray := prog_12_method_70_code
def yX10_gets : MethodName := ⟨RX10, "gets", "(II)I"⟩
abbrev cX10_light : ByteArray := prog_12_method_71_code
def yX10_light : MethodName := ⟨RX10, "light", "(II)I"⟩
abbrev cX10_passes : ByteArray := prog_12_method_72_code
def yX10_passes : MethodName := ⟨RX10, "passes", "(III)I"⟩
abbrev cX10_copy : ByteArray := prog_12_method_73_code
def yX10_copy : MethodName := ⟨RX10, "copy", "([I[I)V"⟩
abbrev cX10_sees : ByteArray := prog_12_method_74_code
def yX10_sees : MethodName := ⟨RX10, "sees", "(II)I"⟩
abbrev cX10_worth : ByteArray := prog_12_method_75_code
def yX10_worth : MethodName := ⟨RX10, "worth", "(II)I"⟩
abbrev cX10_owned : ByteArray := prog_12_method_76_code
def yX10_owned : MethodName := ⟨RX10, "owned", "(II)I"⟩
abbrev cX10_isSet : ByteArray := prog_12_method_77_code
def yX10_isSet : MethodName := ⟨RX10, "isSet", "(I)Z"⟩
abbrev cX10_fairest : ByteArray := prog_12_method_78_code
def yX10_fairest : MethodName := ⟨RX10, "fairest", "()I"⟩
abbrev cX10_searches : ByteArray := prog_12_method_79_code
def yX10_searches : MethodName := ⟨RX10, "searches", "(III)I"⟩
abbrev cX10_aim : ByteArray := prog_12_method_80_code
def yX10_aim : MethodName := ⟨RX10, "aim", "(IIII)I"⟩
abbrev cX10_fair : ByteArray := prog_12_method_81_code
def yX10_fair : MethodName := ⟨RX10, "fair", "(III)I"⟩
abbrev cX10_isHalf : ByteArray := prog_12_method_82_code
def yX10_isHalf : MethodName := ⟨RX10, "isHalf", "(I)Z"⟩
abbrev cX10_isMended : ByteArray := prog_12_method_83_code
def yX10_isMended : MethodName := ⟨RX10, "isMended", "(IIIII)V"⟩
abbrev cX10_mendsOne : ByteArray := prog_12_method_84_code
def yX10_mendsOne : MethodName := ⟨RX10, "mendsOne", "(I)Z"⟩
abbrev cX10_mendsPair : ByteArray := prog_12_method_85_code
def yX10_mendsPair : MethodName := ⟨RX10, "mendsPair", "(III)Z"⟩
abbrev cX10_mendsTwo : ByteArray := prog_12_method_86_code
def yX10_mendsTwo : MethodName := ⟨RX10, "mendsTwo", "(I)Z"⟩
abbrev cX10_mends : ByteArray := prog_12_method_87_code
def yX10_mends : MethodName := ⟨RX10, "mends", "(III)I"⟩
abbrev cX10_second : ByteArray := prog_12_method_88_code
def yX10_second : MethodName := ⟨RX10, "second", "(II)I"⟩
abbrev cX10_thief : ByteArray := prog_12_method_89_code
def yX10_thief : MethodName := ⟨RX10, "thief", "(II)I"⟩
abbrev cX10_dusty : ByteArray := prog_12_method_90_code
def yX10_dusty : MethodName := ⟨RX10, "dusty", "(IIII)I"⟩
abbrev cX10_keeps : ByteArray := prog_12_method_91_code
def yX10_keeps : MethodName := ⟨RX10, "keeps", "()V"⟩
abbrev cX10_putsBack : ByteArray := prog_12_method_92_code
def yX10_putsBack : MethodName := ⟨RX10, "putsBack", "()V"⟩
abbrev cX10_dark : ByteArray := prog_12_method_93_code
def yX10_dark : MethodName := ⟨RX10, "dark", "(III)I"⟩
abbrev cX10_ahead : ByteArray := prog_12_method_94_code
def yX10_ahead : MethodName := ⟨RX10, "ahead", "(III)I"⟩
abbrev cX10_count : ByteArray := prog_12_method_95_code
def yX10_count : MethodName := ⟨RX10, "count", "(I)I"⟩
abbrev cX10_carry : ByteArray := prog_12_method_96_code
def yX10_carry : MethodName := ⟨RX10, "carry", "([I)V"⟩
abbrev cX10_carriesAll : ByteArray := prog_12_method_97_code
def yX10_carriesAll : MethodName := ⟨RX10, "carriesAll", "(IZ)V"⟩
abbrev cX10_image : ByteArray := prog_12_method_98_code
def yX10_image : MethodName := ⟨RX10, "image", "(I)I"⟩
abbrev cX10_back : ByteArray := prog_12_method_99_code
def yX10_back : MethodName := ⟨RX10, "back", "(I)I"⟩
def RJx145de : String := "java/io/Serializable"
def TJx145de : u_T := fun k => match k with
  | _ => ("", "", "", false)
def tyJx145de : Nat → FieldType := fun k => match k with
  | _ => .int
abbrev wsJx145de0 : List Cond := u_ws RJx145de TJx145de 0
theorem nmJx145de : ∀ a, a < 0 → ∀ b, b < 0 → a ≠ b → (TJx145de a).2.1 ≠ (TJx145de b).2.1 := by decide +kernel
theorem tyJx145de_ok : ∀ k, k < 0 → parseFieldDescriptor (TJx145de k).2.2.1 = some (tyJx145de k) := by decide +kernel
def RJx9f9b0 : String := "java/lang/CharSequence"
def TJx9f9b0 : u_T := fun k => match k with
  | _ => ("", "", "", false)
def tyJx9f9b0 : Nat → FieldType := fun k => match k with
  | _ => .int
abbrev wsJx9f9b00 : List Cond := u_ws RJx9f9b0 TJx9f9b0 0
theorem nmJx9f9b0 : ∀ a, a < 0 → ∀ b, b < 0 → a ≠ b → (TJx9f9b0 a).2.1 ≠ (TJx9f9b0 b).2.1 := by decide +kernel
theorem tyJx9f9b0_ok : ∀ k, k < 0 → parseFieldDescriptor (TJx9f9b0 k).2.2.1 = some (tyJx9f9b0 k) := by decide +kernel
def RJxb160c : String := "java/lang/Comparable"
def TJxb160c : u_T := fun k => match k with
  | _ => ("", "", "", false)
def tyJxb160c : Nat → FieldType := fun k => match k with
  | _ => .int
abbrev wsJxb160c0 : List Cond := u_ws RJxb160c TJxb160c 0
theorem nmJxb160c : ∀ a, a < 0 → ∀ b, b < 0 → a ≠ b → (TJxb160c a).2.1 ≠ (TJxb160c b).2.1 := by decide +kernel
theorem tyJxb160c_ok : ∀ k, k < 0 → parseFieldDescriptor (TJxb160c k).2.2.1 = some (tyJxb160c k) := by decide +kernel
def RJ6 : String := "java/lang/Integer"
def TJ6 : u_T := fun k => match k with
  | _ => ("", "", "", false)
def tyJ6 : Nat → FieldType := fun k => match k with
  | _ => .int
abbrev wsJ60 : List Cond := u_ws RJ6 TJ6 0
theorem nmJ6 : ∀ a, a < 0 → ∀ b, b < 0 → a ≠ b → (TJ6 a).2.1 ≠ (TJ6 b).2.1 := by decide +kernel
theorem tyJ6_ok : ∀ k, k < 0 → parseFieldDescriptor (TJ6 k).2.2.1 = some (tyJ6 k) := by decide +kernel
abbrev cJ6_bitCount_0f7a4 : ByteArray := prog_13_method_49_code
def yJ6_bitCount_0f7a4 : MethodName := ⟨RJ6, "bitCount", "(I)I"⟩
def RJ9 : String := "java/lang/Math"
def TJ9 : u_T := fun k => match k with
  | _ => ("", "", "", false)
def tyJ9 : Nat → FieldType := fun k => match k with
  | _ => .int
abbrev wsJ90 : List Cond := u_ws RJ9 TJ9 0
theorem nmJ9 : ∀ a, a < 0 → ∀ b, b < 0 → a ≠ b → (TJ9 a).2.1 ≠ (TJ9 b).2.1 := by decide +kernel
theorem tyJ9_ok : ∀ k, k < 0 → parseFieldDescriptor (TJ9 k).2.2.1 = some (tyJ9 k) := by decide +kernel
abbrev cJ9_min_7cf53 : ByteArray := prog_14_method_69_code
def yJ9_min_7cf53 : MethodName := ⟨RJ9, "min", "(II)I"⟩
def RJ0 : String := "java/lang/String"
def TJ0 : u_T := fun k => match k with
  | _ => ("", "", "", false)
def tyJ0 : Nat → FieldType := fun k => match k with
  | _ => .int
abbrev wsJ00 : List Cond := u_ws RJ0 TJ0 0
theorem nmJ0 : ∀ a, a < 0 → ∀ b, b < 0 → a ≠ b → (TJ0 a).2.1 ≠ (TJ0 b).2.1 := by decide +kernel
theorem tyJ0_ok : ∀ k, k < 0 → parseFieldDescriptor (TJ0 k).2.2.1 = some (tyJ0 k) := by decide +kernel
abbrev cJ0_length_8abf5 : ByteArray := prog_15_method_54_code
def yJ0_length_8abf5 : MethodName := ⟨RJ0, "length", "()I"⟩
abbrev cJ0_charAt_5068e : ByteArray := prog_15_method_56_code
def yJ0_charAt_5068e : MethodName := ⟨RJ0, "charAt", "(I)C"⟩
abbrev cJ0_coder_7d493 : ByteArray := prog_15_method_152_code
def yJ0_coder_7d493 : MethodName := ⟨RJ0, "coder", "()B"⟩
abbrev cJ0_isLatin1_aae02 : ByteArray := prog_15_method_154_code
def yJ0_isLatin1_aae02 : MethodName := ⟨RJ0, "isLatin1", "()Z"⟩
abbrev cJ0_checkIndex_df160 : ByteArray := prog_15_method_155_code
def yJ0_checkIndex_df160 : MethodName := ⟨RJ0, "checkIndex", "(II)V"⟩
def RJ1 : String := "java/lang/StringLatin1"
def TJ1 : u_T := fun k => match k with
  | _ => ("", "", "", false)
def tyJ1 : Nat → FieldType := fun k => match k with
  | _ => .int
abbrev wsJ10 : List Cond := u_ws RJ1 TJ1 0
theorem nmJ1 : ∀ a, a < 0 → ∀ b, b < 0 → a ≠ b → (TJ1 a).2.1 ≠ (TJ1 b).2.1 := by decide +kernel
theorem tyJ1_ok : ∀ k, k < 0 → parseFieldDescriptor (TJ1 k).2.2.1 = some (tyJ1 k) := by decide +kernel
abbrev cJ1_charAt_3b067 : ByteArray := prog_16_method_2_code
def yJ1_charAt_3b067 : MethodName := ⟨RJ1, "charAt", "([BI)C"⟩
def RJ2 : String := "java/lang/StringUTF16"
def TJ2 : u_T := fun k => match k with
  | _ => ("", "", "", false)
def tyJ2 : Nat → FieldType := fun k => match k with
  | _ => .int
abbrev wsJ20 : List Cond := u_ws RJ2 TJ2 0
theorem nmJ2 : ∀ a, a < 0 → ∀ b, b < 0 → a ≠ b → (TJ2 a).2.1 ≠ (TJ2 b).2.1 := by decide +kernel
theorem tyJ2_ok : ∀ k, k < 0 → parseFieldDescriptor (TJ2 k).2.2.1 = some (tyJ2 k) := by decide +kernel
abbrev cJ2_getChar_3b067 : ByteArray := prog_17_method_5_code
def yJ2_getChar_3b067 : MethodName := ⟨RJ2, "getChar", "([BI)C"⟩
abbrev cJ2_length_9d52b : ByteArray := prog_17_method_6_code
def yJ2_length_9d52b : MethodName := ⟨RJ2, "length", "([B)I"⟩
abbrev cJ2_charAt_3b067 : ByteArray := prog_17_method_83_code
def yJ2_charAt_3b067 : MethodName := ⟨RJ2, "charAt", "([BI)C"⟩
abbrev cJ2_checkIndex_2214a : ByteArray := prog_17_method_91_code
def yJ2_checkIndex_2214a : MethodName := ⟨RJ2, "checkIndex", "(I[B)V"⟩
def RJ10 : String := "java/lang/System"
def TJ10 : u_T := fun k => match k with
  | _ => ("", "", "", false)
def tyJ10 : Nat → FieldType := fun k => match k with
  | _ => .int
abbrev wsJ100 : List Cond := u_ws RJ10 TJ10 0
theorem nmJ10 : ∀ a, a < 0 → ∀ b, b < 0 → a ≠ b → (TJ10 a).2.1 ≠ (TJ10 b).2.1 := by decide +kernel
theorem tyJ10_ok : ∀ k, k < 0 → parseFieldDescriptor (TJ10 k).2.2.1 = some (tyJ10 k) := by decide +kernel
def RJxfd54e : String := "java/lang/constant/Constable"
def TJxfd54e : u_T := fun k => match k with
  | _ => ("", "", "", false)
def tyJxfd54e : Nat → FieldType := fun k => match k with
  | _ => .int
abbrev wsJxfd54e0 : List Cond := u_ws RJxfd54e TJxfd54e 0
theorem nmJxfd54e : ∀ a, a < 0 → ∀ b, b < 0 → a ≠ b → (TJxfd54e a).2.1 ≠ (TJxfd54e b).2.1 := by decide +kernel
theorem tyJxfd54e_ok : ∀ k, k < 0 → parseFieldDescriptor (TJxfd54e k).2.2.1 = some (tyJxfd54e k) := by decide +kernel
def RJx3cf43 : String := "java/lang/constant/ConstantDesc"
def TJx3cf43 : u_T := fun k => match k with
  | _ => ("", "", "", false)
def tyJx3cf43 : Nat → FieldType := fun k => match k with
  | _ => .int
abbrev wsJx3cf430 : List Cond := u_ws RJx3cf43 TJx3cf43 0
theorem nmJx3cf43 : ∀ a, a < 0 → ∀ b, b < 0 → a ≠ b → (TJx3cf43 a).2.1 ≠ (TJx3cf43 b).2.1 := by decide +kernel
theorem tyJx3cf43_ok : ∀ k, k < 0 → parseFieldDescriptor (TJx3cf43 k).2.2.1 = some (tyJx3cf43 k) := by decide +kernel
def RJ7 : String := "java/util/Arrays"
def TJ7 : u_T := fun k => match k with
  | _ => ("", "", "", false)
def tyJ7 : Nat → FieldType := fun k => match k with
  | _ => .int
abbrev wsJ70 : List Cond := u_ws RJ7 TJ7 0
theorem nmJ7 : ∀ a, a < 0 → ∀ b, b < 0 → a ≠ b → (TJ7 a).2.1 ≠ (TJ7 b).2.1 := by decide +kernel
theorem tyJ7_ok : ∀ k, k < 0 → parseFieldDescriptor (TJ7 k).2.2.1 = some (tyJ7 k) := by decide +kernel
abbrev cJ7_fill_53178 : ByteArray := prog_19_method_103_code
def yJ7_fill_53178 : MethodName := ⟨RJ7, "fill", "([II)V"⟩
def RJ3 : String := "jdk/internal/util/Preconditions"
def TJ3 : u_T := fun k => match k with
  | _ => ("", "", "", false)
def tyJ3 : Nat → FieldType := fun k => match k with
  | _ => .int
abbrev wsJ30 : List Cond := u_ws RJ3 TJ3 0
theorem nmJ3 : ∀ a, a < 0 → ∀ b, b < 0 → a ≠ b → (TJ3 a).2.1 ≠ (TJ3 b).2.1 := by decide +kernel
theorem tyJ3_ok : ∀ k, k < 0 → parseFieldDescriptor (TJ3 k).2.2.1 = some (tyJ3 k) := by decide +kernel
abbrev cJ3_checkIndex_8e157 : ByteArray := prog_20_method_11_code
def yJ3_checkIndex_8e157 : MethodName := ⟨RJ3, "checkIndex", "(IILjava/util/function/BiFunction;)I"⟩
def RL : String := "OneSunbeamLaw"
abbrev cL_law : ByteArray := code
def yL_law : MethodName := ⟨RL, "law", "([I)Z"⟩
end
section
abbrev cls : List vw_C := [(RX0, TX0, 7), (RX1, TX1, 13), (RX2, TX2, 4), (RX3, TX3, 7), (RX4, TX4, 14), (RX5, TX5, 9), (RX6, TX6, 4), (RX7, TX7, 6), (RX8, TX8, 18), (RX9, TX9, 16), (RX10, TX10, 80)]
/-- which slots of a kind of object hold references -/
def skl : List (List Bool) := [[true, true, true, true, true, false, false], [true, true, false, false, false, false, false, false, false, true, true, false, false], [true, true, true, false], [true, true, true, true, true, false, false], [true, true, false, false, false, false, false, false, false, false, false, false, false, true], [true, true, true, true, true, false, false, false, false], [false, false, false, true], [false, false, false, true, true, false], [false, false, false, false, false, false, false, false, false, false, true, true, true, true, true, true, true, true], [true, true, true, true, true, true, true, true, true, true, true, true, true, true, false, false], [false, true, true, true, true, true, true, true, true, true, true, true, true, true, true, true, true, true, true, true, true, true, true, true, false, false, false, false, false, false, false, false, false, false, true, true, true, true, true, true, true, true, true, true, true, true, true, true, true, true, true, false, false, false, false, false, false, false, true, false, true, true, true, false, true, false, true, true, true, true, true, true, true, true, false, false, true, true, false, false]]
def sk (ci k : Nat) : Bool := (skl.getD ci []).getD k false
/-- kind and length of what has a name: kinds below 20 are objects (their class), 20 ints, 21 bytes, 22 longs, 23 booleans, 24 and 25 rows of objects -/
def kd0 (n : Nat) : Nat × Nat := match n with
  | 0 => (9, 16)
  | 1 => (24, 4)
  | 2 => (25, 6)
  | 3 => (21, 400)
  | 4 => (20, 8)
  | 10 => (1, 13)
  | 11 => (20, 8)
  | 12 => (20, 576)
  | 13 => (20, 60)
  | 14 => (20, 60)
  | 20 => (2, 4)
  | 21 => (20, 8)
  | 22 => (22, 64)
  | 30 => (0, 7)
  | 31 => (20, 4)
  | 32 => (20, 4)
  | 33 => (20, 4)
  | 34 => (20, 4)
  | 40 => (5, 9)
  | 41 => (20, 5)
  | 42 => (20, 8)
  | 43 => (20, 192)
  | 50 => (6, 4)
  | 60 => (7, 6)
  | 61 => (20, 24)
  | 62 => (20, 24)
  | 70 => (4, 14)
  | 71 => (21, 400)
  | 72 => (20, 64)
  | _ => (99, 0)
def kd1 (n : Nat) : Nat × Nat := match n with
  | 0 => (8, 18)
  | 1 => (20, 576)
  | 2 => (20, 576)
  | 3 => (20, 576)
  | 4 => (20, 576)
  | 5 => (20, 288)
  | 6 => (20, 288)
  | 7 => (20, 240)
  | 8 => (20, 56)
  | _ => (99, 0)
def kd2 (n : Nat) : Nat × Nat := match n with
  | 0 => (3, 7)
  | 1 => (20, 400)
  | 2 => (20, 12)
  | 3 => (20, 12)
  | 4 => (20, 12)
  | 5 => (20, 12)
  | _ => (99, 0)
def kd3 (n : Nat) : Nat × Nat := match n with
  | 0 => (10, 80)
  | 1 => (20, 10)
  | 2 => (20, 576)
  | 3 => (20, 576)
  | 4 => (20, 288)
  | 5 => (20, 288)
  | 6 => (20, 576)
  | 7 => (20, 24)
  | 8 => (20, 24)
  | 9 => (20, 24)
  | 10 => (20, 24)
  | 11 => (20, 24)
  | 12 => (20, 24)
  | 13 => (20, 24)
  | 14 => (20, 24)
  | 15 => (20, 24)
  | 16 => (20, 24)
  | 17 => (20, 8)
  | 18 => (20, 8)
  | 19 => (20, 8)
  | 20 => (20, 8)
  | 21 => (20, 8)
  | 22 => (20, 8)
  | 23 => (20, 8)
  | 34 => (21, 400)
  | 35 => (20, 1800)
  | 36 => (20, 1800)
  | 37 => (20, 6)
  | 38 => (20, 72)
  | 39 => (20, 72)
  | 40 => (20, 72)
  | 41 => (20, 72)
  | 42 => (20, 402)
  | 43 => (22, 13)
  | 44 => (22, 300)
  | 45 => (20, 60)
  | 46 => (20, 60)
  | 47 => (20, 60)
  | 48 => (20, 60)
  | 49 => (20, 576)
  | 50 => (20, 8)
  | 58 => (23, 24)
  | 60 => (20, 24)
  | 61 => (20, 24)
  | 62 => (20, 24)
  | 64 => (20, 8)
  | 66 => (20, 8)
  | 67 => (20, 24)
  | 68 => (20, 24)
  | 69 => (20, 24)
  | 70 => (20, 8)
  | 71 => (20, 4)
  | 72 => (20, 4)
  | 73 => (20, 5)
  | 76 => (20, 10880)
  | 77 => (23, 4)
  | _ => (99, 0)
def kd (n : Nat) : Nat × Nat := if n < 100 then kd0 n else if n < 200 then kd1 (n % 10) else if n < 300 then kd2 (n % 10) else if n < 1000 then (99, 0) else kd3 (n - 1000)
abbrev MI : Type := Nat → Nat → Int32
abbrev ML : Type := Nat → Nat → Int64
abbrev MG : Type := Nat → Nat → Nat
abbrev MS : Type := (Nat → Nat) × List Nat × MI × ML × MG
def rn (ad : Nat → Nat) (g : Nat) : Option Nat := if g = 0 then none else some (ad g)
def sv (ad : Nat → Nat) (I : MI) (G : MG) (n ci k : Nat) : Value := if sk ci k = true then va_rf (rn ad (G n k)) else .int (I n k)
def cE (D : va_G) (ad : Nat → Nat) (I : MI) (L : ML) (G : MG) (n : Nat) : va_E :=
  if (kd n).1 < 20 then .inr ((kd n).1, (List.range (kd n).2).map (sv ad I G n (kd n).1))
  else if (kd n).1 = 22 then .inl (D.1 22, (kd n).2, .inr (.inl (L n)))
  else if (kd n).1 < 24 then .inl (D.1 (kd n).1, (kd n).2, .inl (I n))
  else .inl (D.1 (kd n).1, (kd n).2, .inr (.inr (.inr (.inr (fun k => rn ad (G n k))))))
def cf (D : va_G) (ad : Nat → Nat) (I : MI) (L : ML) (G : MG) (n : Nat) : Nat × va_E := (ad n, cE D ad I L G n)
def u2 {α : Type} (f : Nat → Nat → α) (n k : Nat) (v : α) : Nat → Nat → α := fun n' => if n' = n then va_up (f n) k v else f n'
theorem u2_at {α : Type} (f : Nat → Nat → α) (n k : Nat) (v : α) : u2 f n k v n = va_up (f n) k v := if_pos rfl
theorem u2_ne {α : Type} (f : Nat → Nat → α) {n m : Nat} (k : Nat) (v : α) (h : m ≠ n) : u2 f n k v m = f m := if_neg h
theorem u2_self {α : Type} (f : Nat → Nat → α) (n k : Nat) (v : α) : u2 f n k v n k = v := by rw [u2_at, va_up_self]
def Mem (D : va_G) (A : Nat → Prop) (ad : Nat → Nat) (ns : List Nat) (I : MI) (L : ML) (G : MG) (H : Heap) : Prop :=
  va_P D cls (ns.map (cf D ad I L G)) H ∧ va_D A (ns.map (cf D ad I L G)) ∧ ns.Nodup ∧ (∀ m ∈ ns, ∀ k, G m k = 0 ∨ G m k ∈ ns) ∧ ∀ m, m ∉ ns → ∀ k, I m k = 0 ∧ L m k = 0 ∧ G m k = 0
theorem map_set {f g : Nat → Nat × va_E} {ns : List Nat} {q n : Nat} (hn : ns.Nodup) (hq : ns[q]? = some n) (h : ∀ m ∈ ns, m ≠ n → g m = f m) : (ns.map f).set q (g n) = ns.map g := by
  have hl : q < ns.length := (List.getElem?_eq_some_iff.mp hq).1
  apply List.ext_getElem?
  intro j
  by_cases hj : j = q
  · subst hj
    rw [List.getElem?_set_self (by simpa using hl), List.getElem?_map, hq]
    rfl
  · rw [List.getElem?_set_ne (Ne.symm hj), List.getElem?_map, List.getElem?_map]
    cases hb : ns[j]? with
    | none => rfl
    | some b =>
      have hne : b ≠ n := by
        intro e
        subst e
        exact hj ((List.getElem?_inj hl hn).mp (hq.trans hb.symm)).symm
      show some (f b) = some (g b)
      rw [h b (List.mem_of_getElem? hb) hne]
theorem Mem.at {D : va_G} {A : Nat → Prop} {ad : Nat → Nat} {ns : List Nat} {I : MI} {L : ML} {G : MG} {n : Nat} (hn : n ∈ ns) : ∃ q : Nat, ns[q]? = some n ∧ (ns.map (cf D ad I L G))[q]? = some (ad n, cE D ad I L G n) := by
  obtain ⟨q, hq⟩ := List.getElem?_of_mem hn
  exact ⟨q, hq, by rw [List.getElem?_map, hq]; rfl⟩
theorem cE_obj {D : va_G} {ad : Nat → Nat} {I : MI} {L : ML} {G : MG} {n ci N : Nat} (h : kd n = (ci, N)) (hc : ci < 20) : cE D ad I L G n = .inr (ci, (List.range N).map (sv ad I G n ci)) := by
  simp only [cE, h, hc, if_true]
theorem cE_int {D : va_G} {ad : Nat → Nat} {I : MI} {L : ML} {G : MG} {n ci N : Nat} (h : kd n = (ci, N)) (hc : ci = 20 ∨ ci = 21 ∨ ci = 23) : cE D ad I L G n = .inl (D.1 ci, N, .inl (I n)) := by
  rcases hc with rfl | rfl | rfl <;> simp [cE, h]
theorem cE_long {D : va_G} {ad : Nat → Nat} {I : MI} {L : ML} {G : MG} {n N : Nat} (h : kd n = (22, N)) : cE D ad I L G n = .inl (D.1 22, N, .inr (.inl (L n))) := by
  simp [cE, h]
theorem cE_ref {D : va_G} {ad : Nat → Nat} {I : MI} {L : ML} {G : MG} {n ci N : Nat} (h : kd n = (ci, N)) (hc : ci = 24 ∨ ci = 25) : cE D ad I L G n = .inl (D.1 ci, N, .inr (.inr (.inr (.inr (fun k => rn ad (G n k)))))) := by
  rcases hc with rfl | rfl <;> simp [cE, h]
/-- what a name holds is said by its own numbers alone -/
theorem cE_congr {D : va_G} {ad ad' : Nat → Nat} {I I' : MI} {L L' : ML} {G G' : MG} {n : Nat} (hI : I' n = I n) (hL : L' n = L n) (hG : G' n = G n) (ha : ∀ k, G n k ≠ 0 → ad' (G n k) = ad (G n k)) : cE D ad' I' L' G' n = cE D ad I L G n := by
  have h1 : ∀ k, rn ad' (G' n k) = rn ad (G n k) := fun k => by
    rw [hG]
    by_cases hz : G n k = 0
    · simp [rn, hz]
    · simp only [rn, hz, if_false]
      rw [ha k hz]
  have h2 : sv ad' I' G' n = sv ad I G n := by
    funext ci k
    simp only [sv, h1, hI]
  simp only [cE, h2, hL, hI, h1]
theorem cf_congr {D : va_G} {ad ad' : Nat → Nat} {I I' : MI} {L L' : ML} {G G' : MG} {n : Nat} (hn : ad' n = ad n) (hI : I' n = I n) (hL : L' n = L n) (hG : G' n = G n) (ha : ∀ k, G n k ≠ 0 → ad' (G n k) = ad (G n k)) : cf D ad' I' L' G' n = cf D ad I L G n := by
  simp only [cf, hn, cE_congr hI hL hG ha]
theorem range_set {f : Nat → Value} {N k : Nat} {v : Value} (hk : k < N) : ((List.range N).map f).set k v = (List.range N).map (va_up f k v) := by
  apply List.ext_getElem?
  intro j
  by_cases hj : j = k
  · subst hj
    rw [List.getElem?_set_self (by simpa using hk), List.getElem?_map, List.getElem?_range hk]
    simp [va_up]
  · rw [List.getElem?_set_ne (Ne.symm hj), List.getElem?_map, List.getElem?_map]
    cases hb : (List.range N)[j]? with
    | none => rfl
    | some b =>
      have hb2 : b = j := by
        have := List.getElem?_eq_some_iff.mp hb
        obtain ⟨h1, h2⟩ := this
        simpa using h2.symm
      subst hb2
      simp [va_up, hj]
-- the words
def gt : List Cond := lw_tbl.filter goodWord
theorem gt_of {w : Cond} (h : w ∈ lw_tbl) (g : goodWord w = true) : w ∈ gt := List.mem_filter.mpr ⟨h, g⟩
def wd (y : MethodName) (b : ByteArray) (n : Nat) (r : Option FieldType) : List Cond := Cond.code y b n r :: gt
theorem gt_good {x : List Cond} {y : MethodName} {b : ByteArray} {n : Nat} {r : Option FieldType} (hx : ∀ w ∈ gt, w ∈ x) (h : Cond.code y b n r ∈ gt) : GoodIn x (wd y b n r) := by
  intro w hw
  have hg : w ∈ gt := by
    rcases List.mem_cons.mp hw with rfl | h2
    · exact h
    · exact h2
  exact ⟨hx w hg, good_of_word (List.mem_filter.mp hg).2⟩
-- what holds of the machine around: classes, links of nest mates, rows of objects, constant texts, constant tables
abbrev tyl (D : va_G) : List (ClassId × FieldType) := [(D.1 20, .int), (D.1 21, .byte), (D.1 22, .long), (D.1 23, .boolean), (D.1 24, .object RX8), (D.1 25, .object RX3)]
def SC (q : String × Nat × String × List Int32) (A : Nat → Prop) (U : State) (H : Heap) : Prop :=
  ∃ a v : Nat, vk_R q.1 q.2.1 q.2.2.1 a U ∧ va_O "java/lang/String" a A U H ∧ va_OF "java/lang/String" "coder" "B" (.int 0) a A U H ∧ va_OF "java/lang/String" "value" "[B" (.ref v) a A U H ∧ va_T .byte v q.2.2.2.length (fun j => .int (q.2.2.2.getD j 0)) A U H
theorem SC.warm {q : String × Nat × String × List Int32} {A : Nat → Prop} {s U : State} {H : Heap} (hW : s.WarmedH U.vm) (h : SC q A s H) : SC q A U H := by
  obtain ⟨a, v, h1, h2, h3, h4, h5⟩ := h
  exact ⟨a, v, h1.warm hW, h2.moved hW.alike, h3.moved hW.alike, h4.moved hW.alike, h5.moved hW.alike⟩
theorem SC.kept {q : String × Nat × String × List Int32} {A : Nat → Prop} {U : State} {H H1 : Heap} (h : SC q A U H) (hq : ∀ a : Nat, a < H.size → ¬ A a → H1[a]? = H[a]?) : SC q A U H1 := by
  obtain ⟨a, v, h1, h2, h3, h4, h5⟩ := h
  exact ⟨a, v, h1, h2.kept hq, h3.kept hq, h4.kept hq, h5.kept hq⟩
def stX : List Int32 := [1, 1, 0, -1, -1, -1, 0, 1]
def stY : List Int32 := [0, 1, 1, 1, 0, -1, -1, -1]
def TBL (nm : String) (f : List Int32) (A : Nat → Prop) (U : State) (H : Heap) : Prop := ∃ t : Nat, va_Z "OneSunbeam" nm "[I" (.ref t) A U H ∧ va_T .int t 8 (fun j => .int (f.getD j 0)) A U H
theorem TBL.warm {nm : String} {f : List Int32} {A : Nat → Prop} {s U : State} {H : Heap} (hW : s.WarmedH U.vm) (h : TBL nm f A s H) : TBL nm f A U H := by
  obtain ⟨t, h1, h2⟩ := h
  exact ⟨t, h1.moved hW.alike, h2.moved hW.alike⟩
theorem TBL.kept {nm : String} {f : List Int32} {A : Nat → Prop} {U : State} {H H1 : Heap} (h : TBL nm f A U H) (hq : ∀ a : Nat, a < H.size → ¬ A a → H1[a]? = H[a]?) : TBL nm f A U H1 := by
  obtain ⟨t, h1, h2⟩ := h
  exact ⟨t, h1.kept hq, h2.kept hq⟩
def nwk (w : Cond) : Prop := (∃ a i x h, w = .methodLinkNest a i x h) ∨ (∃ a i b n d h, w = .fieldLinkNest a i b n d h)
def nw : List Cond := [(Cond.methodLinkNest "OneSunbeam" (9 : Nat) ({ cls := "OneSunbeam$Town", name := "<init>", desc := "()V" } : MethodName) "OneSunbeam"), (Cond.methodLinkNest "OneSunbeam" (25 : Nat) ({ cls := "OneSunbeam$Beams", name := "<init>", desc := "()V" } : MethodName) "OneSunbeam"), (Cond.methodLinkNest "OneSunbeam" (64 : Nat) ({ cls := "OneSunbeam$Theft", name := "<init>", desc := "()V" } : MethodName) "OneSunbeam"), (Cond.methodLinkNest "OneSunbeam" (71 : Nat) ({ cls := "OneSunbeam$LawReader", name := "<init>", desc := "()V" } : MethodName) "OneSunbeam"), (Cond.methodLinkNest "OneSunbeam" (90 : Nat) ({ cls := "OneSunbeam$Law", name := "<init>", desc := "()V" } : MethodName) "OneSunbeam"), (Cond.methodLinkNest "OneSunbeam$Town" (83 : Nat) ({ cls := "OneSunbeam", name := "cellOf", desc := "(II)I" } : MethodName) "OneSunbeam"), (Cond.methodLinkNest "OneSunbeam$Keepers" (131 : Nat) ({ cls := "OneSunbeam", name := "isWithin", desc := "(III)Z" } : MethodName) "OneSunbeam"), (Cond.methodLinkNest "OneSunbeam$Beams" (102 : Nat) ({ cls := "OneSunbeam", name := "cellOf", desc := "(II)I" } : MethodName) "OneSunbeam"), (Cond.methodLinkNest "OneSunbeam$Beams" (133 : Nat) ({ cls := "OneSunbeam", name := "shareOf", desc := "(II)I" } : MethodName) "OneSunbeam"), (Cond.fieldLinkNest "OneSunbeam$Beams" (53 : Nat) "OneSunbeam" "STEP_X" "[I" "OneSunbeam"), (Cond.fieldLinkNest "OneSunbeam$Beams" (56 : Nat) "OneSunbeam" "STEP_Y" "[I" "OneSunbeam"), (Cond.methodLinkNest "OneSunbeam$Aiming" (32 : Nat) ({ cls := "OneSunbeam", name := "isWithin", desc := "(III)Z" } : MethodName) "OneSunbeam"), (Cond.fieldLinkNest "OneSunbeam$Opening" (59 : Nat) "OneSunbeam" "STEP_X" "[I" "OneSunbeam"), (Cond.fieldLinkNest "OneSunbeam$Opening" (63 : Nat) "OneSunbeam" "STEP_Y" "[I" "OneSunbeam"), (Cond.methodLinkNest "OneSunbeam$Opening" (78 : Nat) ({ cls := "OneSunbeam", name := "cellOf", desc := "(II)I" } : MethodName) "OneSunbeam"), (Cond.methodLinkNest "OneSunbeam$Theft" (73 : Nat) ({ cls := "OneSunbeam", name := "shareOf", desc := "(II)I" } : MethodName) "OneSunbeam"), (Cond.methodLinkNest "OneSunbeam$Theft" (76 : Nat) ({ cls := "OneSunbeam", name := "cellOf", desc := "(II)I" } : MethodName) "OneSunbeam"), (Cond.fieldLinkNest "OneSunbeam$Theft" (98 : Nat) "OneSunbeam" "STEP_X" "[I" "OneSunbeam"), (Cond.fieldLinkNest "OneSunbeam$Theft" (101 : Nat) "OneSunbeam" "STEP_Y" "[I" "OneSunbeam")]
theorem nw_ok : ∀ w ∈ nw, nwk w := by
  intro w hw
  simp only [nw, List.mem_cons, List.mem_nil_iff, or_false] at hw
  rcases hw with rfl | rfl | rfl | rfl | rfl | rfl | rfl | rfl | rfl | rfl | rfl | rfl | rfl | rfl | rfl | rfl | rfl | rfl | rfl <;> first | exact Or.inl ⟨_, _, _, _, rfl⟩ | exact Or.inr ⟨_, _, _, _, _, _, rfl⟩
def sq : List (String × Nat × String × List Int32) := [("OneSunbeam$LawReader", 155, "and", [97, 110, 100]), ("OneSunbeam$LawReader", 161, "day", [100, 97, 121]), ("OneSunbeam$LawReader", 163, "hour", [104, 111, 117, 114]), ("OneSunbeam$LawReader", 165, "if", [105, 102]), ("OneSunbeam$LawReader", 167, "month", [109, 111, 110, 116, 104]), ("OneSunbeam$LawReader", 169, "not", [110, 111, 116]), ("OneSunbeam$LawReader", 171, "or", [111, 114]), ("OneSunbeam$LawReader", 173, "sun", [115, 117, 110]), ("OneSunbeam$LawReader", 175, "slant", [115, 108, 97, 110, 116]), ("OneSunbeam$LawReader", 177, "turn", [116, 117, 114, 110]), ("OneSunbeamModel", 361, "turn", [116, 117, 114, 110]), ("OneSunbeamModel", 239, "hour", [104, 111, 117, 114]), ("OneSunbeamModel", 241, "month", [109, 111, 110, 116, 104]), ("OneSunbeamModel", 243, "day", [100, 97, 121]), ("OneSunbeamModel", 245, "slant", [115, 108, 97, 110, 116]), ("OneSunbeamModel", 246, "sun", [115, 117, 110]), ("OneSunbeamModel", 248, "a", [97]), ("OneSunbeamModel", 250, "b", [98]), ("OneSunbeamModel", 252, "c", [99]), ("OneSunbeamModel", 254, "d", [100]), ("OneSunbeamModel", 256, "e", [101]), ("OneSunbeamModel", 258, "f", [102]), ("OneSunbeamModel", 260, "g", [103]), ("OneSunbeamModel", 262, "h", [104]), ("OneSunbeamModel", 363, "if", [105, 102]), ("OneSunbeamModel", 343, "not", [110, 111, 116]), ("OneSunbeamModel", 357, "and", [97, 110, 100]), ("OneSunbeamModel", 359, "or", [111, 114])]
theorem nw_warm {w : Cond} (hk : nwk w) {s U : State} (hW : s.WarmedH U.vm) (h : va_Nw w s) : va_Nw w U := by
  rcases hk with ⟨a, i, x, q, rfl⟩ | ⟨a, i, b, n, d, q, rfl⟩
  · exact va_Nw.warmM hW h
  · exact va_Nw.warmF hW h
def EV (D : va_G) (A : Nat → Prop) (U : State) (H : Heap) : Prop :=
  va_K D cls (tyl D) U ∧ (∀ w ∈ nw, va_Nw w U) ∧ va_AO RX8 U ∧ va_AO RX3 U ∧ (∀ q ∈ sq, SC q A U H) ∧ TBL "STEP_X" stX A U H ∧ TBL "STEP_Y" stY A U H ∧ va_Z "java/lang/String" "COMPACT_STRINGS" "Z" (.int 1) A U H ∧ va_Zq "jdk/internal/util/Preconditions" "SIOOBE_FORMATTER" "Ljava/util/function/BiFunction;" A U H
theorem EV.warm {D : va_G} {A : Nat → Prop} {s U : State} {H : Heap} (hW : s.WarmedH U.vm) (h : EV D A s H) : EV D A U H := by
  obtain ⟨h1, h2, h3, h4, h5, h6, h7, h8, h9⟩ := h
  exact ⟨va_K.moved hW.alike h1, fun w hw => nw_warm (nw_ok w hw) hW (h2 w hw), h3.moved hW.alike, h4.moved hW.alike, fun q hq => (h5 q hq).warm hW, h6.warm hW, h7.warm hW, h8.moved hW.alike, h9.moved hW.alike⟩
theorem EV.kept {D : va_G} {A : Nat → Prop} {U : State} {H H1 : Heap} {locs : List Loc} (h : EV D A U H) (hS : va_S A H H1 locs) : EV D A U H1 := by
  obtain ⟨h1, h2, h3, h4, h5, h6, h7, h8, h9⟩ := h
  exact ⟨h1, h2, h3, h4, fun q hq => (h5 q hq).kept hS.2.1, h6.kept hS.2.1, h7.kept hS.2.1, h8.kept hS.2.1, h9.kept hS.2.1⟩
-- contracts
def PM (D : va_G) (A : Nat → Prop) (ad : Nat → Nat) (ns : List Nat) (I : MI) (L : ML) (G : MG) : State → Prop := fun U => EV D A U U.heap ∧ Mem D A ad ns I L G U.heap ∧ ∀ q, U.heap.size ≤ q → A q
def BM (D : va_G) (A : Nat → Prop) : MS → State → Prop := fun u t => Mem D A u.1 u.2.1 u.2.2.1 u.2.2.2.1 u.2.2.2.2 t.heap
def Cx (p : Program) (s : State) (m : MethodId) (args : Array Value) (meth : Method) (c : Code) (y : MethodName) (b : ByteArray) (nL : Nat) (ret : Option FieldType) : Prop :=
  p.tables.exec = Jvm.exec ∧ c.code = b ∧ c.maxLocals = nL ∧ s.vm.findClass y.cls = some m.cls ∧ (∀ w ∈ gt, w.before args s = true) ∧ meth.sig.returnType = ret ∧ meth.locks = false ∧ meth.name = y.name
theorem PM.blind {D : va_G} {A : Nat → Prop} {ad : Nat → Nat} {ns : List Nat} {I : MI} {L : ML} {G : MG} {avs : List Value} : FrameBlind (va_Pc avs (PM D A ad ns I L G)) := by
  intro a U g mk h
  obtain ⟨h0, h1, h2, h3⟩ := h
  exact ⟨h0, EV.warm (s := U) (U := U.calling g mk a) (State.WarmedH.refl U) h1, h2, h3⟩
theorem m_ofW {l : Launch} {y : MethodName} {b : ByteArray} {maxL : Nat} {ret : Option FieldType} {rm : Room} {D : va_G} {A : Nat → Prop} {ad : Nat → Nat} {ns : List Nat} {I : MI} {L : ML} {G : MG} {avs : List Value} {Qc : Array Value → State → Outcome → State → Prop} {mc ms : Nat}
    (hy : plainName y.cls = true) (hlen : (lg_sl avs).length ≤ maxL)
    (body : ∀ (p : Program) (e : Env) (s : State) (m : MethodId) (below : List Frame) (meth : Method) (c : Code) (ls : Array Slot) (args : Array Value), Cx p s m args meth c y b maxL ret → EV D A s s.heap → Mem D A ad ns I L G s.heap → (∀ q, s.heap.size ≤ q → A q) → va_S A s.heap s.heap [] → lv_has ls maxL (lv_args 0 avs) →
      W p l e rm s m args below meth c s.heap [] 0 0 (MQ below Qc args s mc ms A) (F0 m 0 ls [])) :
    Met l y (wd y b maxL ret) rm (va_Pc avs (PM D A ad ns I L G)) Qc mc ms A := by
  refine Met.ofW (cc := b) (maxL := maxL) (ret := ret) hy rfl ?_
  intro p e s m args below meth c s₁ B hml hv
  obtain ⟨rfl, hE, hM, hA⟩ := hv
  have hts := atoms_spec (ws := wd y b maxL ret) B.pre
  have hl := lv_entry avs hlen
  rw [lg_entry_eq]
  exact body p e s m below meth c _ _ ⟨B.exec, B.bytes, hml, findClass_of_methodNamed B.named, fun w hw => hts w (List.mem_cons_of_mem _ hw), B.returns, B.notSynchronized, (name_of_methodNamed B.named B.method).1⟩ hE hM hA va_S.rf hl
end
section
def OC (ci : Nat) (C : String) (T : u_T) (ty0 : Nat → FieldType) (N : Nat) : Prop := cls[ci]? = some (C, T, N) ∧ ci < 20 ∧ (∀ w ∈ u_ws C T N, w ∈ gt) ∧ (∀ k, k < N → parseFieldDescriptor (T k).2.2.1 = some (ty0 k)) ∧ (∀ a, a < N → ∀ b, b < N → a ≠ b → (T a).2.1 ≠ (T b).2.1)
theorem ne_of {ns : List Nat} {n m : Nat} (hn : n ∈ ns) (hm : m ∉ ns) : m ≠ n := fun e => hm (by rw [e]; exact hn)
section MR
variable {p : Program} {l : Launch} {e : Env} {R : Room} {s : State} {m : MethodId} {args : Array Value} {below : List Frame} {meth : Method} {c : Code} {H : Heap} {locs : List Loc} {cells slots : Nat} {Q : State → Prop}
variable {cc : ByteArray} {pc : Nat} {ls : Array Slot} {rest : List Value} {D : va_G} {A : Nat → Prop} {ad : Nat → Nat} {ns : List Nat} {I : MI} {L : ML} {G : MG}
variable {own C : String} {ci N index : Nat} {T : u_T} {ty0 : Nat → FieldType}
theorem m_geti (n k : Nat) (hx : p.tables.exec = Jvm.exec) (hb : c.code = cc) (hts : ∀ w ∈ gt, w.before args s = true) (hown : s.vm.findClass own = some m.cls) (hE : EV D A s s.heap) (oc : OC ci C T ty0 N) (hM : Mem D A ad ns I L G H) (hn : n ∈ ns) (hk : kd n = (ci, N)) (hkN : k < N) (hs : sk ci k = false) (hlink : Cond.fieldLink own index (T k).1 (T k).2.1 (T k).2.2.1 ∈ gt) (hdg : decode cc pc = .ok (.getfield index, 3))
    (kk : W p l e R s m args below meth c H locs cells slots Q (F0 m (pc + 3) ls (.int (I n k) :: rest))) : W p l e R s m args below meth c H locs cells slots Q (F0 m pc ls (.ref (ad n) :: rest)) := by
  obtain ⟨q, hq, hc⟩ := Mem.at (D := D) (A := A) (ad := ad) (I := I) (L := L) (G := G) hn
  rw [cE_obj hk oc.2.1] at hc
  exact va_get hx hb hts oc.2.2.1 hown hE.1 hM.1 q hc oc.1 k hkN (hts _ hlink) (fun _ h9 => h9) (v := .int (I n k)) (by rw [List.getElem?_map, List.getElem?_range hkN]; simp [sv, hs]) hdg kk
theorem m_getr (n k g : Nat) (hx : p.tables.exec = Jvm.exec) (hb : c.code = cc) (hts : ∀ w ∈ gt, w.before args s = true) (hown : s.vm.findClass own = some m.cls) (hE : EV D A s s.heap) (oc : OC ci C T ty0 N) (hM : Mem D A ad ns I L G H) (hn : n ∈ ns) (hk : kd n = (ci, N)) (hkN : k < N) (hs : sk ci k = true) (hg : G n k = g) (hg0 : g ≠ 0) (hlink : Cond.fieldLink own index (T k).1 (T k).2.1 (T k).2.2.1 ∈ gt) (hdg : decode cc pc = .ok (.getfield index, 3))
    (kk : W p l e R s m args below meth c H locs cells slots Q (F0 m (pc + 3) ls (.ref (ad g) :: rest))) : W p l e R s m args below meth c H locs cells slots Q (F0 m pc ls (.ref (ad n) :: rest)) := by
  obtain ⟨q, hq, hc⟩ := Mem.at (D := D) (A := A) (ad := ad) (I := I) (L := L) (G := G) hn
  rw [cE_obj hk oc.2.1] at hc
  exact va_get hx hb hts oc.2.2.1 hown hE.1 hM.1 q hc oc.1 k hkN (hts _ hlink) (fun _ h9 => h9) (v := .ref (ad g)) (by rw [List.getElem?_map, List.getElem?_range hkN]; simp [sv, hs, hg, rn, hg0, va_rf]) hdg kk
theorem m_getn (n k : Nat) (hx : p.tables.exec = Jvm.exec) (hb : c.code = cc) (hts : ∀ w ∈ gt, w.before args s = true) (hown : s.vm.findClass own = some m.cls) (hE : EV D A s s.heap) (oc : OC ci C T ty0 N) (hM : Mem D A ad ns I L G H) (hn : n ∈ ns) (hk : kd n = (ci, N)) (hkN : k < N) (hs : sk ci k = true) (hg : G n k = 0) (hlink : Cond.fieldLink own index (T k).1 (T k).2.1 (T k).2.2.1 ∈ gt) (hdg : decode cc pc = .ok (.getfield index, 3))
    (kk : W p l e R s m args below meth c H locs cells slots Q (F0 m (pc + 3) ls (.null :: rest))) : W p l e R s m args below meth c H locs cells slots Q (F0 m pc ls (.ref (ad n) :: rest)) := by
  obtain ⟨q, hq, hc⟩ := Mem.at (D := D) (A := A) (ad := ad) (I := I) (L := L) (G := G) hn
  rw [cE_obj hk oc.2.1] at hc
  exact va_get hx hb hts oc.2.2.1 hown hE.1 hM.1 q hc oc.1 k hkN (hts _ hlink) (fun _ h9 => h9) (v := .null) (by rw [List.getElem?_map, List.getElem?_range hkN]; simp [sv, hs, hg, rn, va_rf]) hdg kk
theorem sv_puti {n k : Nat} {v : Int32} (hs : sk ci k = false) : sv ad (u2 I n k v) G n ci = va_up (sv ad I G n ci) k (.int v) := by
  funext j
  by_cases hj : j = k
  · subst hj
    simp [sv, hs, va_up, u2]
  · simp [sv, va_up, hj, u2]
theorem sv_putr {n k g : Nat} (hs : sk ci k = true) : sv ad I (u2 G n k g) n ci = va_up (sv ad I G n ci) k (va_rf (rn ad g)) := by
  funext j
  by_cases hj : j = k
  · subst hj
    simp [sv, hs, va_up, u2]
  · simp [sv, va_up, hj, u2]
theorem m_puti (n k : Nat) (hx : p.tables.exec = Jvm.exec) (hb : c.code = cc) (hts : ∀ w ∈ gt, w.before args s = true) (hown : s.vm.findClass own = some m.cls) (hE : EV D A s s.heap) (oc : OC ci C T ty0 N) (hM : Mem D A ad ns I L G H) (hS : va_S A s.heap H locs) (hn : n ∈ ns) (hk : kd n = (ci, N)) (hkN : k < N) (hs : sk ci k = false) {v : Int32} (hfin : (T k).2.2.2 = false) (hnar : narrow (ty0 k) (.int v) = .int v) (hfit : fits (ty0 k) (.int v) = true) (hlink : Cond.fieldLink own index (T k).1 (T k).2.1 (T k).2.2.1 ∈ gt) (hdg : decode cc pc = .ok (.putfield index, 3))
    (kk : ∀ (H1 : Heap) (locs1 : List Loc) (I1 : MI), I1 = u2 I n k v → Mem D A ad ns I1 L G H1 → va_S A s.heap H1 locs1 → W p l e R s m args below meth c H1 locs1 cells slots Q (F0 m (pc + 3) ls rest)) : W p l e R s m args below meth c H locs cells slots Q (F0 m pc ls (.int v :: .ref (ad n) :: rest)) := by
  obtain ⟨q, hq, hc⟩ := Mem.at (D := D) (A := A) (ad := ad) (I := I) (L := L) (G := G) hn
  rw [cE_obj hk oc.2.1] at hc
  refine va_put hx hb hts oc.2.2.1 ty0 oc.2.2.2.1 oc.2.2.2.2 hown hE.1 hM.1 hM.2.1 hS q hc oc.1 k hkN (hts _ hlink) (fun _ h9 => h9) hfin (oc.2.2.2.1 k hkN) hnar hfit (by simpa using hkN) hdg (fun H1 locs1 hP hD hS => ?_)
  rw [range_set hkN, ← sv_puti hs] at hP hD
  have e1 : (ad n, (.inr (ci, (List.range N).map (sv ad (u2 I n k v) G n ci)) : va_E)) = cf D ad (u2 I n k v) L G n := by rw [cf, cE_obj hk oc.2.1]
  have e2 : (ns.map (cf D ad I L G)).set q (cf D ad (u2 I n k v) L G n) = ns.map (cf D ad (u2 I n k v) L G) := map_set hM.2.2.1 hq (fun m' _ hm => cf_congr rfl (u2_ne I k v hm) rfl rfl (fun _ _ => rfl))
  rw [e1, e2] at hP hD
  exact kk H1 locs1 _ rfl ⟨hP, hD, hM.2.2.1, hM.2.2.2.1, fun m' hm' j => by rw [u2_ne I k v (ne_of hn hm')]; exact hM.2.2.2.2 m' hm' j⟩ hS
theorem m_putr (n k g : Nat) (hx : p.tables.exec = Jvm.exec) (hb : c.code = cc) (hts : ∀ w ∈ gt, w.before args s = true) (hown : s.vm.findClass own = some m.cls) (hE : EV D A s s.heap) (oc : OC ci C T ty0 N) (hM : Mem D A ad ns I L G H) (hS : va_S A s.heap H locs) (hn : n ∈ ns) (hk : kd n = (ci, N)) (hkN : k < N) (hs : sk ci k = true) (hg0 : g ≠ 0) (hgn : g ∈ ns) (hfin : (T k).2.2.2 = false) (hnar : narrow (ty0 k) (.ref (ad g)) = .ref (ad g)) (hfit : fits (ty0 k) (.ref (ad g)) = true) (hlink : Cond.fieldLink own index (T k).1 (T k).2.1 (T k).2.2.1 ∈ gt) (hdg : decode cc pc = .ok (.putfield index, 3))
    (kk : ∀ (H1 : Heap) (locs1 : List Loc) (G1 : MG), G1 = u2 G n k g → Mem D A ad ns I L G1 H1 → va_S A s.heap H1 locs1 → W p l e R s m args below meth c H1 locs1 cells slots Q (F0 m (pc + 3) ls rest)) : W p l e R s m args below meth c H locs cells slots Q (F0 m pc ls (.ref (ad g) :: .ref (ad n) :: rest)) := by
  obtain ⟨q, hq, hc⟩ := Mem.at (D := D) (A := A) (ad := ad) (I := I) (L := L) (G := G) hn
  rw [cE_obj hk oc.2.1] at hc
  refine va_put hx hb hts oc.2.2.1 ty0 oc.2.2.2.1 oc.2.2.2.2 hown hE.1 hM.1 hM.2.1 hS q hc oc.1 k hkN (hts _ hlink) (fun _ h9 => h9) hfin (oc.2.2.2.1 k hkN) hnar hfit (by simpa using hkN) hdg (fun H1 locs1 hP hD hS => ?_)
  have e0 : (Value.ref (ad g)) = va_rf (rn ad g) := by simp [rn, hg0, va_rf]
  rw [e0, range_set hkN, ← sv_putr hs] at hP hD
  have e1 : (ad n, (.inr (ci, (List.range N).map (sv ad I (u2 G n k g) n ci)) : va_E)) = cf D ad I L (u2 G n k g) n := by rw [cf, cE_obj hk oc.2.1]
  have e2 : (ns.map (cf D ad I L G)).set q (cf D ad I L (u2 G n k g) n) = ns.map (cf D ad I L (u2 G n k g)) := map_set hM.2.2.1 hq (fun m' _ hm => cf_congr rfl rfl rfl (u2_ne G k g hm) (fun _ _ => rfl))
  rw [e1, e2] at hP hD
  refine kk H1 locs1 _ rfl ⟨hP, hD, hM.2.2.1, fun m' hm' j => ?_, fun m' hm' j => by rw [u2_ne G k g (ne_of hn hm')]; exact hM.2.2.2.2 m' hm' j⟩ hS
  by_cases h1 : m' = n
  · subst h1
    rw [u2_at]
    by_cases h2 : j = k
    · subst h2
      rw [va_up_self]
      exact Or.inr hgn
    · rw [va_up_ne _ _ h2]
      exact hM.2.2.2.1 m' hm' j
  · rw [u2_ne G k g h1]
    exact hM.2.2.2.1 m' hm' j
theorem m_putF (n k g : Nat) (hx : p.tables.exec = Jvm.exec) (hb : c.code = cc) (hts : ∀ w ∈ gt, w.before args s = true) (hown : s.vm.findClass own = some m.cls) (hin : meth.name = "<init>") (hE : EV D A s s.heap) (oc : OC ci C T ty0 N) (hM : Mem D A ad ns I L G H) (hS : va_S A s.heap H locs) (hn : n ∈ ns) (hk : kd n = (ci, N)) (hkN : k < N) (hs : sk ci k = true) (hg0 : g ≠ 0) (hgn : g ∈ ns) (hfin : (T k).2.2.2 = true) (hdecl : (T k).1 = own) (hnar : narrow (ty0 k) (.ref (ad g)) = .ref (ad g)) (hfit : fits (ty0 k) (.ref (ad g)) = true) (hlink : Cond.fieldLink own index (T k).1 (T k).2.1 (T k).2.2.1 ∈ gt) (hdg : decode cc pc = .ok (.putfield index, 3))
    (kk : ∀ (H1 : Heap) (locs1 : List Loc) (G1 : MG), G1 = u2 G n k g → Mem D A ad ns I L G1 H1 → va_S A s.heap H1 locs1 → W p l e R s m args below meth c H1 locs1 cells slots Q (F0 m (pc + 3) ls rest)) : W p l e R s m args below meth c H locs cells slots Q (F0 m pc ls (.ref (ad g) :: .ref (ad n) :: rest)) := by
  obtain ⟨q, hq, hc⟩ := Mem.at (D := D) (A := A) (ad := ad) (I := I) (L := L) (G := G) hn
  rw [cE_obj hk oc.2.1] at hc
  refine va_putF hx hb hts oc.2.2.1 ty0 oc.2.2.2.1 oc.2.2.2.2 hown hE.1 hM.1 hM.2.1 hS q hc oc.1 k hkN (hts _ hlink) (fun _ h9 => h9) hfin hin hdecl (oc.2.2.2.1 k hkN) hnar hfit (by simpa using hkN) hdg (fun H1 locs1 hP hD hS => ?_)
  have e0 : (Value.ref (ad g)) = va_rf (rn ad g) := by simp [rn, hg0, va_rf]
  rw [e0, range_set hkN, ← sv_putr hs] at hP hD
  have e1 : (ad n, (.inr (ci, (List.range N).map (sv ad I (u2 G n k g) n ci)) : va_E)) = cf D ad I L (u2 G n k g) n := by rw [cf, cE_obj hk oc.2.1]
  have e2 : (ns.map (cf D ad I L G)).set q (cf D ad I L (u2 G n k g) n) = ns.map (cf D ad I L (u2 G n k g)) := map_set hM.2.2.1 hq (fun m' _ hm => cf_congr rfl rfl rfl (u2_ne G k g hm) (fun _ _ => rfl))
  rw [e1, e2] at hP hD
  refine kk H1 locs1 _ rfl ⟨hP, hD, hM.2.2.1, fun m' hm' j => ?_, fun m' hm' j => by rw [u2_ne G k g (ne_of hn hm')]; exact hM.2.2.2.2 m' hm' j⟩ hS
  by_cases h1 : m' = n
  · subst h1
    rw [u2_at]
    by_cases h2 : j = k
    · subst h2
      rw [va_up_self]
      exact Or.inr hgn
    · rw [va_up_ne _ _ h2]
      exact hM.2.2.2.1 m' hm' j
  · rw [u2_ne G k g h1]
    exact hM.2.2.2.1 m' hm' j

-- rows of arrays
theorem m_iald (n : Nat) (hx : p.tables.exec = Jvm.exec) (hb : c.code = cc) (hE : EV D A s s.heap) (hM : Mem D A ad ns I L G H) (hn : n ∈ ns) (hk : kd n = (20, N)) {i : Int32} (hin : vp_in i N) (hdg : decode cc pc = .ok (.iaload, 1))
    (kk : W p l e R s m args below meth c H locs cells slots Q (F0 m (pc + 1) ls (.int (I n i.toNatClampNeg) :: rest))) : W p l e R s m args below meth c H locs cells slots Q (F0 m pc ls (.int i :: .ref (ad n) :: rest)) := by
  obtain ⟨q, hq, hc⟩ := Mem.at (D := D) (A := A) (ad := ad) (I := I) (L := L) (G := G) hn
  rw [cE_int hk (Or.inl rfl)] at hc
  exact va_iald hx hb hE.1 hM.1 q 0 hc rfl hin hdg kk
theorem m_bald (n : Nat) (hx : p.tables.exec = Jvm.exec) (hb : c.code = cc) (hE : EV D A s s.heap) (hM : Mem D A ad ns I L G H) (hn : n ∈ ns) (hk : kd n = (21, N)) {i : Int32} (hin : vp_in i N) (hdg : decode cc pc = .ok (.baload, 1))
    (kk : W p l e R s m args below meth c H locs cells slots Q (F0 m (pc + 1) ls (.int (I n i.toNatClampNeg) :: rest))) : W p l e R s m args below meth c H locs cells slots Q (F0 m pc ls (.int i :: .ref (ad n) :: rest)) := by
  obtain ⟨q, hq, hc⟩ := Mem.at (D := D) (A := A) (ad := ad) (I := I) (L := L) (G := G) hn
  rw [cE_int hk (Or.inr (Or.inl rfl))] at hc
  exact va_bald hx hb hE.1 hM.1 q 1 hc rfl hin hdg kk
theorem m_zald (n : Nat) (hx : p.tables.exec = Jvm.exec) (hb : c.code = cc) (hE : EV D A s s.heap) (hM : Mem D A ad ns I L G H) (hn : n ∈ ns) (hk : kd n = (23, N)) {i : Int32} (hin : vp_in i N) (hdg : decode cc pc = .ok (.baload, 1))
    (kk : W p l e R s m args below meth c H locs cells slots Q (F0 m (pc + 1) ls (.int (I n i.toNatClampNeg) :: rest))) : W p l e R s m args below meth c H locs cells slots Q (F0 m pc ls (.int i :: .ref (ad n) :: rest)) := by
  obtain ⟨q, hq, hc⟩ := Mem.at (D := D) (A := A) (ad := ad) (I := I) (L := L) (G := G) hn
  rw [cE_int hk (Or.inr (Or.inr rfl))] at hc
  exact va_zald hx hb hE.1 hM.1 q 3 hc rfl hin hdg kk
theorem m_lald (n : Nat) (hx : p.tables.exec = Jvm.exec) (hb : c.code = cc) (hE : EV D A s s.heap) (hM : Mem D A ad ns I L G H) (hn : n ∈ ns) (hk : kd n = (22, N)) {i : Int32} (hin : vp_in i N) (hdg : decode cc pc = .ok (.laload, 1))
    (kk : W p l e R s m args below meth c H locs cells slots Q (F0 m (pc + 1) ls (.long (L n i.toNatClampNeg) :: rest))) : W p l e R s m args below meth c H locs cells slots Q (F0 m pc ls (.int i :: .ref (ad n) :: rest)) := by
  obtain ⟨q, hq, hc⟩ := Mem.at (D := D) (A := A) (ad := ad) (I := I) (L := L) (G := G) hn
  rw [cE_long hk] at hc
  exact va_lald hx hb hE.1 hM.1 q 2 hc rfl hin hdg kk
/-- a place of a row of objects: its name, 0 for null -/
theorem m_aald (n : Nat) (hx : p.tables.exec = Jvm.exec) (hb : c.code = cc) (hE : EV D A s s.heap) (hM : Mem D A ad ns I L G H) (hn : n ∈ ns) (hk : kd n = (ci, N)) (hci : ci = 24 ∨ ci = 25) {i : Int32} (hin : vp_in i N) (hdg : decode cc pc = .ok (.aaload, 1))
    (kk : W p l e R s m args below meth c H locs cells slots Q (F0 m (pc + 1) ls (va_rf (rn ad (G n i.toNatClampNeg)) :: rest))) : W p l e R s m args below meth c H locs cells slots Q (F0 m pc ls (.int i :: .ref (ad n) :: rest)) := by
  obtain ⟨q, hq, hc⟩ := Mem.at (D := D) (A := A) (ad := ad) (I := I) (L := L) (G := G) hn
  rw [cE_ref hk hci] at hc
  rcases hci with rfl | rfl
  · exact va_aldq hx hb hE.1 hM.1 q 4 hc rfl hin hdg kk
  · exact va_aldq hx hb hE.1 hM.1 q 5 hc rfl hin hdg kk
theorem Mem.putI {n k : Nat} {v : Int32} (hM : Mem D A ad ns I L G H) (hn : n ∈ ns) {q : Nat} (hq : ns[q]? = some n) (hk : kd n = (ci, N)) (hc : ci = 20 ∨ ci = 21 ∨ ci = 23) {H1 : Heap} (hP : va_P D cls ((ns.map (cf D ad I L G)).set q (ad n, .inl (D.1 ci, N, .inl (upd (I n) k v)))) H1) (hD : va_D A ((ns.map (cf D ad I L G)).set q (ad n, .inl (D.1 ci, N, .inl (upd (I n) k v))))) : Mem D A ad ns (u2 I n k v) L G H1 := by
  have e1 : (ad n, (.inl (D.1 ci, N, .inl (upd (I n) k v)) : va_E)) = cf D ad (u2 I n k v) L G n := by rw [cf, cE_int hk hc, u2_at]; rfl
  have e2 : (ns.map (cf D ad I L G)).set q (cf D ad (u2 I n k v) L G n) = ns.map (cf D ad (u2 I n k v) L G) := map_set hM.2.2.1 hq (fun m' _ hm => cf_congr rfl (u2_ne I k v hm) rfl rfl (fun _ _ => rfl))
  rw [e1, e2] at hP hD
  exact ⟨hP, hD, hM.2.2.1, hM.2.2.2.1, fun m' hm' j => by rw [u2_ne I k v (ne_of hn hm')]; exact hM.2.2.2.2 m' hm' j⟩
theorem m_iast (n : Nat) (hx : p.tables.exec = Jvm.exec) (hb : c.code = cc) (hE : EV D A s s.heap) (hM : Mem D A ad ns I L G H) (hS : va_S A s.heap H locs) (hn : n ∈ ns) (hk : kd n = (20, N)) {i x : Int32} (hin : vp_in i N) (hdg : decode cc pc = .ok (.iastore, 1))
    (kk : ∀ (H1 : Heap) (locs1 : List Loc) (I1 : MI), I1 = u2 I n i.toNatClampNeg x → Mem D A ad ns I1 L G H1 → va_S A s.heap H1 locs1 → W p l e R s m args below meth c H1 locs1 cells slots Q (F0 m (pc + 1) ls rest)) : W p l e R s m args below meth c H locs cells slots Q (F0 m pc ls (.int x :: .int i :: .ref (ad n) :: rest)) := by
  obtain ⟨q, hq, hc⟩ := Mem.at (D := D) (A := A) (ad := ad) (I := I) (L := L) (G := G) hn
  rw [cE_int hk (Or.inl rfl)] at hc
  exact va_iast hx hb hE.1 hM.1 hM.2.1 hS q 0 hc rfl hin hdg (fun H1 locs1 hP hD hS => kk H1 locs1 _ rfl (hM.putI hn hq hk (Or.inl rfl) hP hD) hS)
theorem m_bast (n : Nat) (hx : p.tables.exec = Jvm.exec) (hb : c.code = cc) (hE : EV D A s s.heap) (hM : Mem D A ad ns I L G H) (hS : va_S A s.heap H locs) (hn : n ∈ ns) (hk : kd n = (21, N)) {i x : Int32} (hin : vp_in i N) (hdg : decode cc pc = .ok (.bastore, 1))
    (kk : ∀ (H1 : Heap) (locs1 : List Loc) (I1 : MI), I1 = u2 I n i.toNatClampNeg (vp_nar .byte x) → Mem D A ad ns I1 L G H1 → va_S A s.heap H1 locs1 → W p l e R s m args below meth c H1 locs1 cells slots Q (F0 m (pc + 1) ls rest)) : W p l e R s m args below meth c H locs cells slots Q (F0 m pc ls (.int x :: .int i :: .ref (ad n) :: rest)) := by
  obtain ⟨q, hq, hc⟩ := Mem.at (D := D) (A := A) (ad := ad) (I := I) (L := L) (G := G) hn
  rw [cE_int hk (Or.inr (Or.inl rfl))] at hc
  exact va_bast hx hb hE.1 hM.1 hM.2.1 hS q 1 hc rfl hin hdg (fun H1 locs1 hP hD hS => kk H1 locs1 _ rfl (hM.putI hn hq hk (Or.inr (Or.inl rfl)) hP hD) hS)
theorem m_zast (n : Nat) (hx : p.tables.exec = Jvm.exec) (hb : c.code = cc) (hE : EV D A s s.heap) (hM : Mem D A ad ns I L G H) (hS : va_S A s.heap H locs) (hn : n ∈ ns) (hk : kd n = (23, N)) {i x : Int32} (hin : vp_in i N) (hdg : decode cc pc = .ok (.bastore, 1))
    (kk : ∀ (H1 : Heap) (locs1 : List Loc) (I1 : MI), I1 = u2 I n i.toNatClampNeg (vp_nar .boolean x) → Mem D A ad ns I1 L G H1 → va_S A s.heap H1 locs1 → W p l e R s m args below meth c H1 locs1 cells slots Q (F0 m (pc + 1) ls rest)) : W p l e R s m args below meth c H locs cells slots Q (F0 m pc ls (.int x :: .int i :: .ref (ad n) :: rest)) := by
  obtain ⟨q, hq, hc⟩ := Mem.at (D := D) (A := A) (ad := ad) (I := I) (L := L) (G := G) hn
  rw [cE_int hk (Or.inr (Or.inr rfl))] at hc
  exact va_zast hx hb hE.1 hM.1 hM.2.1 hS q 3 hc rfl hin hdg (fun H1 locs1 hP hD hS => kk H1 locs1 _ rfl (hM.putI hn hq hk (Or.inr (Or.inr rfl)) hP hD) hS)
theorem m_last (n : Nat) (hx : p.tables.exec = Jvm.exec) (hb : c.code = cc) (hE : EV D A s s.heap) (hM : Mem D A ad ns I L G H) (hS : va_S A s.heap H locs) (hn : n ∈ ns) (hk : kd n = (22, N)) {i : Int32} {x : Int64} (hin : vp_in i N) (hdg : decode cc pc = .ok (.lastore, 1))
    (kk : ∀ (H1 : Heap) (locs1 : List Loc) (L1 : ML), L1 = u2 L n i.toNatClampNeg x → Mem D A ad ns I L1 G H1 → va_S A s.heap H1 locs1 → W p l e R s m args below meth c H1 locs1 cells slots Q (F0 m (pc + 1) ls rest)) : W p l e R s m args below meth c H locs cells slots Q (F0 m pc ls (.long x :: .int i :: .ref (ad n) :: rest)) := by
  obtain ⟨q, hq, hc⟩ := Mem.at (D := D) (A := A) (ad := ad) (I := I) (L := L) (G := G) hn
  rw [cE_long hk] at hc
  refine va_last hx hb hE.1 hM.1 hM.2.1 hS q 2 hc rfl hin hdg (fun H1 locs1 hP hD hS => ?_)
  have e1 : (ad n, (.inl (D.1 22, N, .inr (.inl (vp_updL (L n) i.toNatClampNeg x))) : va_E)) = cf D ad I (u2 L n i.toNatClampNeg x) G n := by rw [cf, cE_long hk, u2_at]; rfl
  have e2 : (ns.map (cf D ad I L G)).set q (cf D ad I (u2 L n i.toNatClampNeg x) G n) = ns.map (cf D ad I (u2 L n i.toNatClampNeg x) G) := map_set hM.2.2.1 hq (fun m' _ hm => cf_congr rfl rfl (u2_ne L _ x hm) rfl (fun _ _ => rfl))
  rw [e1, e2] at hP hD
  exact kk H1 locs1 _ rfl ⟨hP, hD, hM.2.2.1, hM.2.2.2.1, fun m' hm' j => by rw [u2_ne L _ x (ne_of hn hm')]; exact hM.2.2.2.2 m' hm' j⟩ hS
theorem m_aast (n g : Nat) {ck : Nat} (hx : p.tables.exec = Jvm.exec) (hb : c.code = cc) (hE : EV D A s s.heap) (hM : Mem D A ad ns I L G H) (hS : va_S A s.heap H locs) (hn : n ∈ ns) (hk : kd n = (ci, N)) (hg : g ∈ ns) (hg0 : g ≠ 0) {Ng : Nat} (hkg : kd g = (ck, Ng)) (hcc : ci = 24 ∧ ck = 8 ∨ ci = 25 ∧ ck = 3) {i : Int32} (hin : vp_in i N) (hdg : decode cc pc = .ok (.aastore, 1))
    (kk : ∀ (H1 : Heap) (locs1 : List Loc) (G1 : MG), G1 = u2 G n i.toNatClampNeg g → Mem D A ad ns I L G1 H1 → va_S A s.heap H1 locs1 → W p l e R s m args below meth c H1 locs1 cells slots Q (F0 m (pc + 1) ls rest)) : W p l e R s m args below meth c H locs cells slots Q (F0 m pc ls (.ref (ad g) :: .int i :: .ref (ad n) :: rest)) := by
  obtain ⟨q, hq, hc⟩ := Mem.at (D := D) (A := A) (ad := ad) (I := I) (L := L) (G := G) hn
  obtain ⟨q2, hq2, hc2⟩ := Mem.at (D := D) (A := A) (ad := ad) (I := I) (L := L) (G := G) hg
  have hci : ci = 24 ∨ ci = 25 := by rcases hcc with ⟨h, -⟩ | ⟨h, -⟩ <;> simp [h]
  have hck : ck < 20 := by rcases hcc with ⟨-, h⟩ | ⟨-, h⟩ <;> simp [h]
  rw [cE_ref hk hci] at hc
  rw [cE_obj hkg hck] at hc2
  have key : ∀ (H1 : Heap) (locs1 : List Loc), va_P D cls ((ns.map (cf D ad I L G)).set q (ad n, .inl (D.1 ci, N, .inr (.inr (.inr (.inr (va_up (fun k => rn ad (G n k)) i.toNatClampNeg (some (ad g)))))))) ) H1 → va_D A ((ns.map (cf D ad I L G)).set q (ad n, .inl (D.1 ci, N, .inr (.inr (.inr (.inr (va_up (fun k => rn ad (G n k)) i.toNatClampNeg (some (ad g)))))))) ) → va_S A s.heap H1 locs1 → W p l e R s m args below meth c H1 locs1 cells slots Q (F0 m (pc + 1) ls rest) := by
    intro H1 locs1 hP hD hS
    have e0 : va_up (fun k => rn ad (G n k)) i.toNatClampNeg (some (ad g)) = fun k => rn ad (u2 G n i.toNatClampNeg g n k) := by
      funext j
      rw [u2_at]
      by_cases hj : j = i.toNatClampNeg
      · subst hj
        rw [va_up_self, va_up_self]
        simp [rn, hg0]
      · rw [va_up_ne _ _ hj, va_up_ne _ _ hj]
    have e1 : (ad n, (.inl (D.1 ci, N, .inr (.inr (.inr (.inr (va_up (fun k => rn ad (G n k)) i.toNatClampNeg (some (ad g))))))) : va_E)) = cf D ad I L (u2 G n i.toNatClampNeg g) n := by rw [cf, cE_ref hk hci, e0]
    have e2 : (ns.map (cf D ad I L G)).set q (cf D ad I L (u2 G n i.toNatClampNeg g) n) = ns.map (cf D ad I L (u2 G n i.toNatClampNeg g)) := map_set hM.2.2.1 hq (fun m' _ hm => cf_congr rfl rfl rfl (u2_ne G _ g hm) (fun _ _ => rfl))
    rw [e1, e2] at hP hD
    refine kk H1 locs1 _ rfl ⟨hP, hD, hM.2.2.1, fun m' hm' j => ?_, fun m' hm' j => by rw [u2_ne G _ g (ne_of hn hm')]; exact hM.2.2.2.2 m' hm' j⟩ hS
    by_cases h1 : m' = n
    · subst h1
      rw [u2_at]
      by_cases h2 : j = i.toNatClampNeg
      · subst h2
        rw [va_up_self]
        exact Or.inr hg
      · rw [va_up_ne _ _ h2]
        exact hM.2.2.2.1 m' hm' j
    · rw [u2_ne G _ g h1]
      exact hM.2.2.2.1 m' hm' j
  rcases hcc with ⟨rfl, rfl⟩ | ⟨rfl, rfl⟩
  · exact va_astq (r := (RX8, TX8, 18)) hx hb hE.1 hM.1 hM.2.1 hS q 4 q2 8 hc rfl hc2 rfl hin hdg key
  · exact va_astq (r := (RX3, TX3, 7)) hx hb hE.1 hM.1 hM.2.1 hS q 5 q2 3 hc rfl hc2 rfl hin hdg key
theorem m_alen (n : Nat) {ty : FieldType} {t0 : Nat} (hx : p.tables.exec = Jvm.exec) (hb : c.code = cc) (hE : EV D A s s.heap) (hM : Mem D A ad ns I L G H) (hn : n ∈ ns) (hk : kd n = (ci, N)) (hc : ci = 20 ∨ ci = 21 ∨ ci = 23) (ht : (tyl D)[t0]? = some (D.1 ci, ty)) {v : Int32} (hv : Int32.ofNat N = v) (hdg : decode cc pc = .ok (.arraylength, 1))
    (kk : W p l e R s m args below meth c H locs cells slots Q (F0 m (pc + 1) ls (.int v :: rest))) : W p l e R s m args below meth c H locs cells slots Q (F0 m pc ls (.ref (ad n) :: rest)) := by
  obtain ⟨q, hq, h2⟩ := Mem.at (D := D) (A := A) (ad := ad) (I := I) (L := L) (G := G) hn
  rw [cE_int hk hc] at h2
  exact va_alen hx hb hE.1 hM.1 q t0 h2 ht hv hdg kk
-- making
theorem Mem.grow {n q : Nat} {H1 : Heap} (hM : Mem D A ad ns I L G H) (hn : n ∉ ns) (hn0 : n ≠ 0) (hP : va_P D cls (ns.map (cf D ad I L G) ++ [(q, cE D (va_up ad n q) I L G n)]) H1) (hD : va_D A (ns.map (cf D ad I L G) ++ [(q, cE D (va_up ad n q) I L G n)])) : Mem D A (va_up ad n q) (ns ++ [n]) I L G H1 := by
  have hne : ∀ x ∈ ns, va_up ad n q x = ad x := fun x hx => va_up_ne _ _ (fun h => hn (h ▸ hx))
  have e1 : ns.map (cf D ad I L G) = ns.map (cf D (va_up ad n q) I L G) := by
    apply List.map_congr_left
    intro x hx
    refine (cf_congr (hne x hx) rfl rfl rfl (fun k hk => ?_)).symm
    rcases hM.2.2.2.1 x hx k with h | h
    · exact absurd h hk
    · exact hne _ h
  have e2 : (q, cE D (va_up ad n q) I L G n) = cf D (va_up ad n q) I L G n := by rw [cf, va_up_self]
  rw [e1, e2] at hP hD
  refine ⟨by rw [List.map_append]; exact hP, by rw [List.map_append]; exact hD, ?_, fun m' hm' k => ?_, fun m' hm' k => hM.2.2.2.2 m' (fun h => hm' (List.mem_append_left _ h)) k⟩
  · rw [List.nodup_append]
    refine ⟨hM.2.2.1, by simp, fun a ha b hb => ?_⟩
    rw [List.mem_singleton] at hb
    subst hb
    exact fun h => hn (h ▸ ha)
  · rcases List.mem_append.mp hm' with h | h
    · rcases hM.2.2.2.1 m' h k with h2 | h2
      · exact Or.inl h2
      · exact Or.inr (List.mem_append_left _ h2)
    · rw [List.mem_singleton] at h
      subst h
      exact Or.inl (hM.2.2.2.2 m' hn k).2.2
theorem up_keep {ad : Nat → Nat} {ns : List Nat} {n q : Nat} (hn : n ∉ ns) : ∀ x ∈ ns, va_up ad n q x = ad x := fun x hx => va_up_ne _ _ (fun h => hn (h ▸ hx))
theorem m_newi (n : Nat) {atype : ArrayType} {ty : FieldType} {t0 : Nat} {v : Int32} (hx : p.tables.exec = Jvm.exec) (hb : c.code = cc) (hts : ∀ w ∈ gt, w.before args s = true) (hE : EV D A s s.heap) (hM : Mem D A ad ns I L G H) (hS : va_S A s.heap H locs) (hA : ∀ q, s.heap.size ≤ q → A q) (hn : n ∉ ns) (hn0 : n ≠ 0) (hk : kd n = (ci, N)) (hc : ci = 20 ∨ ci = 21 ∨ ci = 23) (ht : (tyl D)[t0]? = some (D.1 ci, ty)) (hobj : ∀ (U : State) (x : ClassId), va_RA U x ty → U.vm.findClass ("[" ++ ty.toString) = some x) (harr : Cond.arrayClass ty ∈ gt) (hty : newarray.typeOf atype = ty) (hdef : defaultValue ty = .int 0) (hv0 : ¬ v < 0) (hvN : v.toNatClampNeg = N) (hby : N * componentBytes ty ≤ 536870912) (hcells : cells + 1 ≤ R.cells) (hslots : slots + N ≤ R.slots) (hdg : decode cc pc = .ok (.newarray atype, 2))
    (kk : ∀ (H1 : Heap) (ad1 : Nat → Nat), (∀ x ∈ ns, ad1 x = ad x) → Mem D A ad1 (ns ++ [n]) I L G H1 → va_S A s.heap H1 locs → W p l e R s m args below meth c H1 locs (cells + 1) (slots + N) Q (F0 m (pc + 2) ls (.ref (ad1 n) :: rest))) : W p l e R s m args below meth c H locs cells slots Q (F0 m pc ls (.int v :: rest)) := by
  refine va_newa (a0 := (N, .inl (fun _ => 0))) hx hb (by rw [hty]; exact hts _ harr) hty hE.1 hM.1 hM.2.1 hS hA (fun cA => by rw [vp_cell_i, hdef]) hv0 hvN hby hcells hslots hdg (fun q cA H1 hK hP hD hS => ?_)
  have h1 := hobj s cA (hK.2 (tyl D).length (cA, ty) (by simp)).2
  have h2 := hobj s (D.1 ci) (hE.1.2 t0 _ ht).2
  have h3 : cA = D.1 ci := Option.some.inj (h1.symm.trans h2)
  subst h3
  have e1 : (.inl (D.1 ci, N, .inl (fun _ => 0)) : va_E) = cE D (va_up ad n q) I L G n := by
    rw [cE_int hk hc, show I n = fun _ => 0 from funext fun k => (hM.2.2.2.2 n hn k).1]
  rw [e1] at hP hD
  have := kk H1 (va_up ad n q) (up_keep hn) (hM.grow hn hn0 hP hD) hS
  rwa [va_up_self] at this
theorem m_newl (n : Nat) {v : Int32} (hx : p.tables.exec = Jvm.exec) (hb : c.code = cc) (hts : ∀ w ∈ gt, w.before args s = true) (hE : EV D A s s.heap) (hM : Mem D A ad ns I L G H) (hS : va_S A s.heap H locs) (hA : ∀ q, s.heap.size ≤ q → A q) (hn : n ∉ ns) (hn0 : n ≠ 0) (hk : kd n = (22, N)) (harr : Cond.arrayClass .long ∈ gt) (hv0 : ¬ v < 0) (hvN : v.toNatClampNeg = N) (hby : N * componentBytes .long ≤ 536870912) (hcells : cells + 1 ≤ R.cells) (hslots : slots + N ≤ R.slots) (hdg : decode cc pc = .ok (.newarray .long, 2))
    (kk : ∀ (H1 : Heap) (ad1 : Nat → Nat), (∀ x ∈ ns, ad1 x = ad x) → Mem D A ad1 (ns ++ [n]) I L G H1 → va_S A s.heap H1 locs → W p l e R s m args below meth c H1 locs (cells + 1) (slots + N) Q (F0 m (pc + 2) ls (.ref (ad1 n) :: rest))) : W p l e R s m args below meth c H locs cells slots Q (F0 m pc ls (.int v :: rest)) := by
  refine va_newa (atype := .long) (ty := .long) (a0 := (N, .inr (.inl (fun _ => 0)))) hx hb (hts (Cond.arrayClass .long) harr) rfl hE.1 hM.1 hM.2.1 hS hA (fun cA => rfl) hv0 hvN hby hcells hslots hdg (fun q cA H1 hK hP hD hS => ?_)
  have h1 : s.vm.findClass ("[" ++ FieldType.long.toString) = some cA := (hK.2 (tyl D).length (cA, .long) (by simp)).2
  have h2 : s.vm.findClass ("[" ++ FieldType.long.toString) = some (D.1 22) := (hE.1.2 2 (D.1 22, .long) rfl).2
  have h3 : cA = D.1 22 := Option.some.inj (h1.symm.trans h2)
  subst h3
  have e1 : (.inl (D.1 22, N, .inr (.inl (fun _ => 0))) : va_E) = cE D (va_up ad n q) I L G n := by
    rw [cE_long hk, show L n = fun _ => 0 from funext fun k => (hM.2.2.2.2 n hn k).2.1]
  rw [e1] at hP hD
  have := kk H1 (va_up ad n q) (up_keep hn) (hM.grow hn hn0 hP hD) hS
  rwa [va_up_self] at this
theorem m_newq (n : Nat) {t0 : Nat} {v : Int32} (hx : p.tables.exec = Jvm.exec) (hb : c.code = cc) (hts : ∀ w ∈ gt, w.before args s = true) (hown : s.vm.findClass own = some m.cls) (hE : EV D A s s.heap) (hM : Mem D A ad ns I L G H) (hS : va_S A s.heap H locs) (hA : ∀ q, s.heap.size ≤ q → A q) (hn : n ∉ ns) (hn0 : n ≠ 0) (hk : kd n = (ci, N)) (hc : ci = 24 ∨ ci = 25) (ht : (tyl D)[t0]? = some (D.1 ci, .object C)) (hAO : va_AO C s) (hcl : Cond.classLink own index C ∈ gt) (hv0 : ¬ v < 0) (hvN : v.toNatClampNeg = N) (hby : N * 4 ≤ 536870912) (hcells : cells + 1 ≤ R.cells) (hslots : slots + N ≤ R.slots) (hdg : decode cc pc = .ok (.anewarray index, 3))
    (kk : ∀ (H1 : Heap) (ad1 : Nat → Nat), (∀ x ∈ ns, ad1 x = ad x) → Mem D A ad1 (ns ++ [n]) I L G H1 → va_S A s.heap H1 locs → W p l e R s m args below meth c H1 locs (cells + 1) (slots + N) Q (F0 m (pc + 3) ls (.ref (ad1 n) :: rest))) : W p l e R s m args below meth c H locs cells slots Q (F0 m pc ls (.int v :: rest)) := by
  refine va_newq hx hb hown (hts _ hcl) hAO hE.1 hM.1 hM.2.1 hS hA hv0 hvN hby hcells hslots hdg (fun q cA H1 hK hP hD hS => ?_)
  obtain ⟨-, -, -, -, -, h1⟩ : ∃ (kA : Class) (comp : ClassId), _ ∧ _ ∧ _ ∧ _ := (hK.2 (tyl D).length (cA, .object C) (by simp)).2
  obtain ⟨-, -, -, -, -, h2⟩ : ∃ (kA : Class) (comp : ClassId), _ ∧ _ ∧ _ ∧ _ := (hE.1.2 t0 _ ht).2
  have h3 : cA = D.1 ci := Option.some.inj (h1.symm.trans h2)
  subst h3
  have e1 : (.inl (D.1 ci, N, .inr (.inr (.inr (.inr (fun _ => none))))) : va_E) = cE D (va_up ad n q) I L G n := by
    rw [cE_ref hk hc]
    have : (fun k => rn (va_up ad n q) (G n k)) = fun _ => none := funext fun k => by rw [(hM.2.2.2.2 n hn k).2.2]; simp [rn]
    rw [this]
  rw [e1] at hP hD
  have := kk H1 (va_up ad n q) (up_keep hn) (hM.grow hn hn0 hP hD) hS
  rwa [va_up_self] at this
theorem m_new (n : Nat) (hx : p.tables.exec = Jvm.exec) (hb : c.code = cc) (hts : ∀ w ∈ gt, w.before args s = true) (hown : s.vm.findClass own = some m.cls) (hE : EV D A s s.heap) (oc : OC ci C T ty0 N) (hM : Mem D A ad ns I L G H) (hS : va_S A s.heap H locs) (hA : ∀ q, s.heap.size ≤ q → A q) (hn : n ∉ ns) (hn0 : n ≠ 0) (hk : kd n = (ci, N)) (hdf : ∀ j, j < N → defaultValue (ty0 j) = if sk ci j = true then .null else .int 0) (hcl : Cond.classLink own index C ∈ gt) (hinst : Cond.instantiable C N ∈ gt) (hini : Cond.initialized C ∈ gt) (hcells : cells + 1 ≤ R.cells) (hslots : slots + N ≤ R.slots) (hdg : decode cc pc = .ok (.new index, 3))
    (kk : ∀ (H1 : Heap) (ad1 : Nat → Nat), (∀ x ∈ ns, ad1 x = ad x) → Mem D A ad1 (ns ++ [n]) I L G H1 → va_S A s.heap H1 locs → W p l e R s m args below meth c H1 locs (cells + 1) (slots + N) Q (F0 m (pc + 3) ls (.ref (ad1 n) :: rest))) : W p l e R s m args below meth c H locs cells slots Q (F0 m pc ls rest) := by
  refine va_new (ci := ci) (fs := (List.range N).map (fun j => if sk ci j = true then .null else .int 0)) hx hb hts oc.2.2.1 ty0 oc.2.2.2.1 hown (hts _ hcl) (hts _ hinst) (hts _ hini) hE.1 hM.1 hM.2.1 hS hA oc.1 (fun j hj => ?_) hcells hslots hdg (fun q H1 hP hD hS => ?_)
  · rw [hdf j hj, vp_V, List.getD_eq_getElem?_getD, List.getElem?_map, List.getElem?_range hj]
    rfl
  · have e0 : (fun j => if sk ci j = true then Value.null else .int 0) = sv (va_up ad n q) I G n ci := by
      funext j
      obtain ⟨h1, -, h3⟩ := hM.2.2.2.2 n hn j
      simp only [sv, h1, h3, rn, if_true, va_rf]
    have e1 : (.inr (ci, (List.range N).map (fun j => if sk ci j = true then Value.null else .int 0)) : va_E) = cE D (va_up ad n q) I L G n := by
      rw [cE_obj hk oc.2.1, e0]
    rw [e1] at hP hD
    have := kk H1 (va_up ad n q) (up_keep hn) (hM.grow hn hn0 hP hD) hS
    rwa [va_up_self] at this
end MR
end
section
def CeV (C : String) (y : MethodName) (bytes : ByteArray) (maxL : Nat) (ret : Option FieldType) (nP : Nat) : Prop := Cond.instanceMethod y ∈ gt ∧ Cond.selects C y y ∈ gt ∧ Cond.initialized C ∈ gt ∧ Cond.code y bytes maxL ret ∈ gt ∧ (y.cls = C ∧ y.cls ≠ "java/lang/invoke/MethodHandle" ∧ y.cls ≠ "java/lang/invoke/VarHandle" ∧ (parseMethodDescriptor y.desc).map (fun d => d.parameters.length) = some nP)
def CeS (y : MethodName) (bytes : ByteArray) (maxL : Nat) (ret : Option FieldType) (nP : Nat) : Prop := Cond.static y ∈ gt ∧ Cond.initialized y.cls ∈ gt ∧ Cond.code y bytes maxL ret ∈ gt ∧ (y.cls ≠ "java/lang/invoke/MethodHandle" ∧ y.cls ≠ "java/lang/invoke/VarHandle" ∧ (parseMethodDescriptor y.desc).map (fun d => d.parameters.length) = some nP)
def CeI (y : MethodName) (bytes : ByteArray) (maxL : Nat) (nP : Nat) : Prop := Cond.instanceMethod y ∈ gt ∧ Cond.initialized y.cls ∈ gt ∧ Cond.code y bytes maxL none ∈ gt ∧ y.name = "<init>" ∧ (y.cls ≠ "java/lang/invoke/MethodHandle" ∧ y.cls ≠ "java/lang/invoke/VarHandle" ∧ (parseMethodDescriptor y.desc).map (fun d => d.parameters.length) = some nP)
section MC
variable {p : Program} {l : Launch} {e : Env} {R : Room} {s : State} {m : MethodId} {args : Array Value} {below : List Frame} {meth : Method} {c : Code} {H : Heap} {locs : List Loc} {cells slots : Nat} {Q : State → Prop}
variable {cc : ByteArray} {pc : Nat} {ls : Array Slot} {rest st : List Value} {D : va_G} {A : Nat → Prop} {ad : Nat → Nat} {ns : List Nat} {I : MI} {L : ML} {G : MG}
variable {own C host : String} {ci N index : Nat} {T : u_T} {y : MethodName} {bytes : ByteArray} {maxL nL mc ms nP : Nat} {ret : Option FieldType} {rm : Room} {Qc : Array Value → State → Outcome → State → Prop} {As : List Value}
theorem m_pre (hE : EV D A s s.heap) (hM : Mem D A ad ns I L G H) (hS : va_S A s.heap H locs) (hA : ∀ q, s.heap.size ≤ q → A q) (avs : List Value) : ∀ U : State, U.heap = H → s.WarmedH U.vm → va_Pc avs (PM D A ad ns I L G) avs.toArray U := by
  intro U hU hW
  refine ⟨rfl, ?_, ?_, ?_⟩
  · rw [hU]
    exact (hE.kept hS).warm hW
  · rw [hU]
    exact hM
  · intro q hq
    rw [hU] at hq
    exact hA q (Nat.le_trans hS.1 hq)
theorem m_recv {n : Nat} (hE : EV D A s s.heap) (hM : Mem D A ad ns I L G H) (hn : n ∈ ns) (hk : kd n = (ci, N)) (hc : cls[ci]? = some (C, T, N)) (hci : ci < 20) : ∃ cell : Cell, H[ad n]? = some cell ∧ cell.vm.isStatics = false ∧ s.vm.findClass C = some cell.cls := by
  obtain ⟨q, hq, h2⟩ := Mem.at (D := D) (A := A) (ad := ad) (I := I) (L := L) (G := G) hn
  rw [cE_obj hk hci] at h2
  exact va_recv (q := (C, T, N)) hE.1 hM.1 hc h2
theorem m_runV (n : Nat) (hx : p.tables.exec = Jvm.exec) (hb : c.code = cc) (hml : c.maxLocals = nL) (hown : s.vm.findClass own = some m.cls) (hts : ∀ w ∈ gt, w.before args s = true) (hE : EV D A s s.heap) (hM : Mem D A ad ns I L G H) (hS : va_S A s.heap H locs) (hA : ∀ q, s.heap.size ≤ q → A q) (ce : CeV C y bytes maxL ret nP) (hl : Cond.methodLink own index y ∈ gt)
    (hMet : Met l y (wd y bytes maxL ret) rm (va_Pc (.ref (ad n) :: As) (PM D A ad ns I L G)) Qc mc ms A) (hrc : rm.cells = mc) (hrs : rm.slots = ms) (hR : rm.frames + 1 ≤ R.frames ∧ 8 + (maxL + 11) + rm.locals ≤ R.locals) (hn : n ∈ ns) (hk : kd n = (ci, N)) (hc : cls[ci]? = some (C, T, N)) (hci : ci < 20) (hnp : As.length = nP) (hsize : ls.size = nL) (hst : st = As.reverse ++ .ref (ad n) :: rest) (hW : (rest.map fun v => v.category).sum ≤ 8) (hdg : decode cc pc = .ok (.invokevirtual index, 3)) (hf : cells + mc ≤ R.cells ∧ slots + ms ≤ R.slots) :
    va_Run p l e R s m args below meth c H locs cells slots mc ms (F0 m pc ls st) rest (Qc (Value.ref (ad n) :: As).toArray) A := by
  have hG : GoodIn gt (wd y bytes maxL ret) := gt_good (fun _ h => h) ce.2.2.2.1
  have hd := ce.2.2.2.2
  exact va_runV (C := C) (Ts := gt) ⟨hx, hb, hml, hown, hts⟩ hMet ⟨callB_of nP hts hG rfl hrc hrs (by rw [hd.1]; exact hts _ ce.2.2.1) (hts _ hl) hd.2 hR, hts _ ce.1, hts _ ce.2.1⟩ ⟨PM.blind, m_recv hE hM hn hk hc hci, m_pre hE hM hS hA _⟩ rfl hnp hsize hst (lv_room hW) hdg hf
theorem m_runS (hx : p.tables.exec = Jvm.exec) (hb : c.code = cc) (hml : c.maxLocals = nL) (hown : s.vm.findClass own = some m.cls) (hts : ∀ w ∈ gt, w.before args s = true) (hE : EV D A s s.heap) (hM : Mem D A ad ns I L G H) (hS : va_S A s.heap H locs) (hA : ∀ q, s.heap.size ≤ q → A q) (ce : CeS y bytes maxL ret nP) (hl : Cond.methodLink own index y ∈ gt)
    (hMet : Met l y (wd y bytes maxL ret) rm (va_Pc As (PM D A ad ns I L G)) Qc mc ms A) (hrc : rm.cells = mc) (hrs : rm.slots = ms) (hR : rm.frames + 1 ≤ R.frames ∧ 8 + (maxL + 11) + rm.locals ≤ R.locals) (hnp : As.length = nP) (hsize : ls.size = nL) (hst : st = As.reverse ++ rest) (hW : (rest.map fun v => v.category).sum ≤ 8) (hdg : decode cc pc = .ok (.invokestatic index, 3)) (hf : cells + mc ≤ R.cells ∧ slots + ms ≤ R.slots) :
    va_Run p l e R s m args below meth c H locs cells slots mc ms (F0 m pc ls st) rest (Qc As.toArray) A := by
  have hG : GoodIn gt (wd y bytes maxL ret) := gt_good (fun _ h => h) ce.2.2.1
  exact va_runS (Ts := gt) ⟨hx, hb, hml, hown, hts⟩ hMet ⟨callB_of nP hts hG rfl hrc hrs (hts _ ce.2.1) (hts _ hl) ce.2.2.2 hR, hts _ ce.1⟩ ⟨PM.blind, m_pre hE hM hS hA _⟩ rfl hnp hsize hst (lv_room hW) hdg hf
theorem m_runSN (hx : p.tables.exec = Jvm.exec) (hb : c.code = cc) (hml : c.maxLocals = nL) (hown : s.vm.findClass own = some m.cls) (hts : ∀ w ∈ gt, w.before args s = true) (hE : EV D A s s.heap) (hM : Mem D A ad ns I L G H) (hS : va_S A s.heap H locs) (hA : ∀ q, s.heap.size ≤ q → A q) (ce : CeS y bytes maxL ret nP) (hl : Cond.methodLinkNest own index y host ∈ nw)
    (hMet : Met l y (wd y bytes maxL ret) rm (va_Pc As (PM D A ad ns I L G)) Qc mc ms A) (hrc : rm.cells = mc) (hrs : rm.slots = ms) (hR : rm.frames + 1 ≤ R.frames ∧ 8 + (maxL + 11) + rm.locals ≤ R.locals) (hnp : As.length = nP) (hsize : ls.size = nL) (hst : st = As.reverse ++ rest) (hW : (rest.map fun v => v.category).sum ≤ 8) (hdg : decode cc pc = .ok (.invokestatic index, 3)) (hf : cells + mc ≤ R.cells ∧ slots + ms ≤ R.slots) :
    va_Run p l e R s m args below meth c H locs cells slots mc ms (F0 m pc ls st) rest (Qc As.toArray) A := by
  have hG : GoodIn gt (wd y bytes maxL ret) := gt_good (fun _ h => h) ce.2.2.1
  exact va_runSN (Ts := gt) (host := host) ⟨hx, hb, hml, hown, hts⟩ hMet ⟨va_cnB nP hts hG rfl hrc hrs (hE.2.1 _ hl) (hts _ ce.2.1) ce.2.2.2 hR, hts _ ce.1, trivial⟩ ⟨PM.blind, m_pre hE hM hS hA _⟩ rfl hnp hsize hst (lv_room hW) hdg hf
theorem m_runI (n : Nat) (hx : p.tables.exec = Jvm.exec) (hb : c.code = cc) (hml : c.maxLocals = nL) (hown : s.vm.findClass own = some m.cls) (hts : ∀ w ∈ gt, w.before args s = true) (hE : EV D A s s.heap) (hM : Mem D A ad ns I L G H) (hS : va_S A s.heap H locs) (hA : ∀ q, s.heap.size ≤ q → A q) (ce : CeI y bytes maxL nP) (hl : Cond.methodLink own index y ∈ gt)
    (hMet : Met l y (wd y bytes maxL none) rm (va_Pc (.ref (ad n) :: As) (PM D A ad ns I L G)) Qc mc ms A) (hrc : rm.cells = mc) (hrs : rm.slots = ms) (hR : rm.frames + 1 ≤ R.frames ∧ 8 + (maxL + 11) + rm.locals ≤ R.locals) (hnp : As.length = nP) (hsize : ls.size = nL) (hst : st = As.reverse ++ .ref (ad n) :: rest) (hW : (rest.map fun v => v.category).sum ≤ 8) (hdg : decode cc pc = .ok (.invokespecial index, 3)) (hf : cells + mc ≤ R.cells ∧ slots + ms ≤ R.slots) :
    va_Run p l e R s m args below meth c H locs cells slots mc ms (F0 m pc ls st) rest (Qc (Value.ref (ad n) :: As).toArray) A := by
  have hG : GoodIn gt (wd y bytes maxL none) := gt_good (fun _ h => h) ce.2.2.1
  exact va_runI (Ts := gt) ⟨hx, hb, hml, hown, hts⟩ hMet ⟨callB_of nP hts hG rfl hrc hrs (hts _ ce.2.1) (hts _ hl) ce.2.2.2.2 hR, ce.2.2.2.1, hts _ ce.1⟩ ⟨PM.blind, m_pre hE hM hS hA _⟩ rfl hnp hsize hst (lv_room hW) hdg hf
theorem m_runIN (n : Nat) (hx : p.tables.exec = Jvm.exec) (hb : c.code = cc) (hml : c.maxLocals = nL) (hown : s.vm.findClass own = some m.cls) (hts : ∀ w ∈ gt, w.before args s = true) (hE : EV D A s s.heap) (hM : Mem D A ad ns I L G H) (hS : va_S A s.heap H locs) (hA : ∀ q, s.heap.size ≤ q → A q) (ce : CeI y bytes maxL nP) (hl : Cond.methodLinkNest own index y host ∈ nw)
    (hMet : Met l y (wd y bytes maxL none) rm (va_Pc (.ref (ad n) :: As) (PM D A ad ns I L G)) Qc mc ms A) (hrc : rm.cells = mc) (hrs : rm.slots = ms) (hR : rm.frames + 1 ≤ R.frames ∧ 8 + (maxL + 11) + rm.locals ≤ R.locals) (hnp : As.length = nP) (hsize : ls.size = nL) (hst : st = As.reverse ++ .ref (ad n) :: rest) (hW : (rest.map fun v => v.category).sum ≤ 8) (hdg : decode cc pc = .ok (.invokespecial index, 3)) (hf : cells + mc ≤ R.cells ∧ slots + ms ≤ R.slots) :
    va_Run p l e R s m args below meth c H locs cells slots mc ms (F0 m pc ls st) rest (Qc (Value.ref (ad n) :: As).toArray) A := by
  have hG : GoodIn gt (wd y bytes maxL none) := gt_good (fun _ h => h) ce.2.2.1
  exact va_runIN (Ts := gt) (host := host) ⟨hx, hb, hml, hown, hts⟩ hMet ⟨va_cnB nP hts hG rfl hrc hrs (hE.2.1 _ hl) (hts _ ce.2.1) ce.2.2.2.2 hR, ce.2.2.2.1, hts _ ce.1⟩ ⟨PM.blind, m_pre hE hM hS hA _⟩ rfl hnp hsize hst (lv_room hW) hdg hf
variable {a : Array Value} {st0 : List Value}
theorem m_calli {post : Int32 → MS → Prop} (hr : va_Run p l e R s m args below meth c H locs cells slots mc ms (F0 m pc ls st0) rest (va_Qi post (BM D A) A a) A) (hS : va_S A s.heap H locs)
    (kk : ∀ (r : Int32) (u : MS) (H1 : Heap) (locs1 : List Loc), post r u → Mem D A u.1 u.2.1 u.2.2.1 u.2.2.2.1 u.2.2.2.2 H1 → va_S A s.heap H1 locs1 → W p l e R s m args below meth c H1 locs1 (cells + mc) (slots + ms) Q (F0 m (pc + 3) ls (.int r :: rest))) : W p l e R s m args below meth c H locs cells slots Q (F0 m pc ls st0) :=
  va_calli hr hS (fun _ _ h => h) (fun _ h => h) (fun r u t H1 locs1 ht _ hp hB _ _ hS1 => kk r u H1 locs1 hp (by rw [← ht]; exact hB) hS1)
theorem m_calll {post : Int64 → MS → Prop} (hr : va_Run p l e R s m args below meth c H locs cells slots mc ms (F0 m pc ls st0) rest (va_Ql post (BM D A) A a) A) (hS : va_S A s.heap H locs)
    (kk : ∀ (r : Int64) (u : MS) (H1 : Heap) (locs1 : List Loc), post r u → Mem D A u.1 u.2.1 u.2.2.1 u.2.2.2.1 u.2.2.2.2 H1 → va_S A s.heap H1 locs1 → W p l e R s m args below meth c H1 locs1 (cells + mc) (slots + ms) Q (F0 m (pc + 3) ls (.long r :: rest))) : W p l e R s m args below meth c H locs cells slots Q (F0 m pc ls st0) :=
  va_calll hr hS (fun _ _ h => h) (fun _ h => h) (fun r u t H1 locs1 ht _ hp hB _ _ hS1 => kk r u H1 locs1 hp (by rw [← ht]; exact hB) hS1)
theorem m_callv {post : MS → Prop} (hr : va_Run p l e R s m args below meth c H locs cells slots mc ms (F0 m pc ls st0) rest (va_Qv post (BM D A) A a) A) (hS : va_S A s.heap H locs)
    (kk : ∀ (u : MS) (H1 : Heap) (locs1 : List Loc), post u → Mem D A u.1 u.2.1 u.2.2.1 u.2.2.2.1 u.2.2.2.2 H1 → va_S A s.heap H1 locs1 → W p l e R s m args below meth c H1 locs1 (cells + mc) (slots + ms) Q (F0 m (pc + 3) ls rest)) : W p l e R s m args below meth c H locs cells slots Q (F0 m pc ls st0) :=
  va_callv hr hS (fun _ _ h => h) (fun _ h => h) (fun u t H1 locs1 ht _ hp hB _ _ hS1 => kk u H1 locs1 hp (by rw [← ht]; exact hB) hS1)
theorem m_callq {post : Option Nat → MS → Prop} (hr : va_Run p l e R s m args below meth c H locs cells slots mc ms (F0 m pc ls st0) rest (va_Qq post (BM D A) A a) A) (hS : va_S A s.heap H locs)
    (kk : ∀ (r : Option Nat) (u : MS) (H1 : Heap) (locs1 : List Loc), post r u → Mem D A u.1 u.2.1 u.2.2.1 u.2.2.2.1 u.2.2.2.2 H1 → va_S A s.heap H1 locs1 → W p l e R s m args below meth c H1 locs1 (cells + mc) (slots + ms) Q (F0 m (pc + 3) ls (va_rf r :: rest))) : W p l e R s m args below meth c H locs cells slots Q (F0 m pc ls st0) :=
  va_callq hr hS (fun _ _ h => h) (fun _ h => h) (fun r u t H1 locs1 ht _ hp hB _ _ hS1 => kk r u H1 locs1 hp (by rw [← ht]; exact hB) hS1)
-- ends
theorem m_iret {post : Int32 → MS → Prop} {v : Int32} (hx : p.tables.exec = Jvm.exec) (hb : c.code = cc) (hr : meth.sig.returnType = some .int) (hlocks : meth.locks = false) (hM : Mem D A ad ns I L G H) (hS : va_S A s.heap H locs) (hc1 : cells ≤ mc) (hs1 : slots ≤ ms) (hp : post v (ad, ns, I, L, G)) (hdg : decode cc pc = .ok (.ireturn, 1)) : W p l e R s m args below meth c H locs cells slots (MQ below (va_Qi post (BM D A) A) args s mc ms A) (F0 m pc ls [.int v]) :=
  W.widen hc1 hs1 (W.iret hx hb hr (fun t ht _ => ⟨⟨v, _, rfl, hp, by show Mem D A ad ns I L G t.heap; rw [ht]; exact hM⟩, hS.F ht⟩) hS.2.2 hdg hlocks)
theorem m_zret {post : Int32 → MS → Prop} {v : Int32} {ty : FieldType} (hx : p.tables.exec = Jvm.exec) (hb : c.code = cc) (hr : meth.sig.returnType = some ty) (hn : narrow ty (.int v) = .int v) (hlocks : meth.locks = false) (hM : Mem D A ad ns I L G H) (hS : va_S A s.heap H locs) (hc1 : cells ≤ mc) (hs1 : slots ≤ ms) (hp : post v (ad, ns, I, L, G)) (hdg : decode cc pc = .ok (.ireturn, 1)) : W p l e R s m args below meth c H locs cells slots (MQ below (va_Qi post (BM D A) A) args s mc ms A) (F0 m pc ls [.int v]) :=
  W.widen hc1 hs1 (W.zret hx hb hr hn (fun t ht _ => ⟨⟨v, _, rfl, hp, by show Mem D A ad ns I L G t.heap; rw [ht]; exact hM⟩, hS.F ht⟩) hS.2.2 hdg hlocks)
theorem m_lret {post : Int64 → MS → Prop} {v : Int64} (hx : p.tables.exec = Jvm.exec) (hb : c.code = cc) (hr : meth.sig.returnType = some .long) (hlocks : meth.locks = false) (hM : Mem D A ad ns I L G H) (hS : va_S A s.heap H locs) (hc1 : cells ≤ mc) (hs1 : slots ≤ ms) (hp : post v (ad, ns, I, L, G)) (hdg : decode cc pc = .ok (.lreturn, 1)) : W p l e R s m args below meth c H locs cells slots (MQ below (va_Ql post (BM D A) A) args s mc ms A) (F0 m pc ls [.long v]) :=
  W.widen hc1 hs1 (W.lret hx hb hr (fun t ht _ => ⟨⟨v, _, rfl, hp, by show Mem D A ad ns I L G t.heap; rw [ht]; exact hM⟩, hS.F ht⟩) hS.2.2 hdg hlocks)
theorem m_vret {post : MS → Prop} (hx : p.tables.exec = Jvm.exec) (hb : c.code = cc) (hr : meth.sig.returnType = none) (hlocks : meth.locks = false) (hM : Mem D A ad ns I L G H) (hS : va_S A s.heap H locs) (hc1 : cells ≤ mc) (hs1 : slots ≤ ms) (hp : post (ad, ns, I, L, G)) (hdg : decode cc pc = .ok (.return_, 1)) : W p l e R s m args below meth c H locs cells slots (MQ below (va_Qv post (BM D A) A) args s mc ms A) (F0 m pc ls []) :=
  W.widen hc1 hs1 (W.vret hx hb hr (fun t ht _ => ⟨⟨_, rfl, hp, by show Mem D A ad ns I L G t.heap; rw [ht]; exact hM⟩, hS.F ht⟩) hS.2.2 hdg hlocks)
theorem m_aret {post : Option Nat → MS → Prop} {r : Option Nat} {ty : FieldType} (hx : p.tables.exec = Jvm.exec) (hb : c.code = cc) (hr : meth.sig.returnType = some ty) (hn : ∃ n, ty = .object n) (hlocks : meth.locks = false) (hM : Mem D A ad ns I L G H) (hS : va_S A s.heap H locs) (hc1 : cells ≤ mc) (hs1 : slots ≤ ms) (hp : post r (ad, ns, I, L, G)) (hdg : decode cc pc = .ok (.areturn, 1)) : W p l e R s m args below meth c H locs cells slots (MQ below (va_Qq post (BM D A) A) args s mc ms A) (F0 m pc ls [va_rf r]) :=
  W.widen hc1 hs1 (W.aret hx hb hr (Or.inl hn) (by cases r <;> simp [va_rf]) (fun t ht _ => ⟨⟨r, _, rfl, hp, by show Mem D A ad ns I L G t.heap; rw [ht]; exact hM⟩, hS.F ht⟩) hS.2.2 hdg hlocks)
/-- Object's constructor at the top of one of ours -/
theorem m_objI (hx : p.tables.exec = Jvm.exec) (hb : c.code = cc) (hml : c.maxLocals = nL) (hown : s.vm.findClass own = some m.cls) (hts : ∀ w ∈ gt, w.before args s = true) (hsz : ls.size = nL) {x : Nat} (hl : Cond.methodLink own index objectInit ∈ gt) (hi : Cond.instanceMethod objectInit ∈ gt) (hcd : Cond.code objectInit ⟨#[0xb1]⟩ 1 none ∈ gt) (hdg : decode cc pc = .ok (.invokespecial index, 3)) (hf : 1 ≤ R.frames) (hlo : 12 ≤ R.locals)
    (kk : W p l e R s m args below meth c H locs cells slots Q (F0 m (pc + 3) ls [])) : W p l e R s m args below meth c H locs cells slots Q (F0 m pc ls [.ref x]) :=
  W.objInit hx hb hown (hts _ hl) (hts _ hi) (hts _ hcd) (g := F0 m pc ls [.ref x]) rfl (by rw [hml]; exact hsz) rfl hdg hf (by simpa using hlo) kk
end MC
end
section
-- truth values and whole numbers
def Bo (r : Int32) (P : Prop) : Prop := (P ∧ r = 1) ∨ (¬ P ∧ r = 0)
theorem Bo.y {P : Prop} (h : P) : Bo 1 P := Or.inl ⟨h, rfl⟩
theorem Bo.n {P : Prop} (h : ¬ P) : Bo 0 P := Or.inr ⟨h, rfl⟩
theorem Bo.t {r : Int32} {P : Prop} (h : Bo r P) (c : ¬ r = 0) : P := by
  rcases h with ⟨h, -⟩ | ⟨-, h⟩
  · exact h
  · exact absurd h c
theorem Bo.f {r : Int32} {P : Prop} (h : Bo r P) (c : r = 0) : ¬ P := by
  rcases h with ⟨-, h⟩ | ⟨h, -⟩
  · rw [h] at c
    exact absurd c (by decide)
  · exact h
theorem Bo.z {r : Int32} {P : Prop} (h : Bo r P) (c : ¬ P) : r = 0 := by
  rcases h with ⟨h, -⟩ | ⟨-, h⟩
  · exact absurd h c
  · exact h
theorem Bo.o {r : Int32} {P : Prop} (h : Bo r P) (c : P) : r = 1 := by
  rcases h with ⟨-, h⟩ | ⟨h, -⟩
  · exact h
  · exact absurd c h
theorem Bo.same {r q : Int32} {P P' : Prop} (h : Bo r P) (h' : Bo q P') (e : P ↔ P') : r = q := by
  rcases h with ⟨h, hr⟩ | ⟨h, hr⟩
  · rw [hr, h'.o (e.mp h)]
  · rw [hr, h'.z (fun x => h (e.mpr x))]
theorem Bo.nar {r : Int32} {P : Prop} (h : Bo r P) : narrow .boolean (.int r) = .int r ∧ fits .boolean (.int r) = true := by
  rcases h with ⟨-, h⟩ | ⟨-, h⟩ <;> subst h <;> exact ⟨rfl, rfl⟩
theorem q_lt {x y : Int32} (h : x < y) : x.toInt < y.toInt := Int32.lt_iff_toInt_lt.mp h
theorem q_nlt {x y : Int32} (h : ¬ x < y) : y.toInt ≤ x.toInt := Int.not_lt.mp (fun q => h (Int32.lt_iff_toInt_lt.mpr q))
theorem q_le {x y : Int32} (h : x ≤ y) : x.toInt ≤ y.toInt := Int32.le_iff_toInt_le.mp h
theorem q_nle {x y : Int32} (h : ¬ x ≤ y) : y.toInt < x.toInt := Int.not_le.mp (fun q => h (Int32.le_iff_toInt_le.mpr q))
theorem q_eq {x y : Int32} (h : x = y) : x.toInt = y.toInt := by rw [h]
theorem q_ne {x y : Int32} (h : ¬ x = y) : x.toInt ≠ y.toInt := fun q => h (Int32.toInt_inj.mp q)
theorem q_i2l {x : Int32} {v : Int64} (h : v = x.toInt64) : v.toInt = x.toInt := by rw [h]; exact Int32.toInt_toInt64 x
theorem lc_t (x y : Int64) : (x.toInt < y.toInt ∧ lg_cmp x y = -1) ∨ (x.toInt = y.toInt ∧ lg_cmp x y = 0) ∨ (y.toInt < x.toInt ∧ lg_cmp x y = 1) := by
  unfold lg_cmp
  rcases Int.lt_trichotomy x.toInt y.toInt with h | h | h
  · left
    have h1 : ¬ x > y := fun q => by have := Int64.lt_iff_toInt_lt.mp q; omega
    have h2 : ¬ x = y := fun q => by rw [q] at h; omega
    rw [if_neg h1, if_neg h2]
    exact ⟨h, rfl⟩
  · right
    left
    have h2 : x = y := Int64.toInt_inj.mp h
    have h1 : ¬ x > y := fun q => by have := Int64.lt_iff_toInt_lt.mp q; omega
    rw [if_neg h1, if_pos h2]
    exact ⟨h, rfl⟩
  · right
    right
    have h1 : x > y := Int64.lt_iff_toInt_lt.mpr h
    rw [if_pos h1]
    exact ⟨h, rfl⟩
theorem l_lt {x y : Int64} (h : lg_cmp x y < 0) : x.toInt < y.toInt := by
  rcases lc_t x y with ⟨h1, h2⟩ | ⟨h1, h2⟩ | ⟨h1, h2⟩ <;> rw [h2] at h <;> first | exact h1 | exact absurd h (by decide)
theorem l_nlt {x y : Int64} (h : ¬ lg_cmp x y < 0) : y.toInt ≤ x.toInt := by
  rcases lc_t x y with ⟨h1, h2⟩ | ⟨h1, h2⟩ | ⟨h1, h2⟩ <;> rw [h2] at h <;> first | omega | exact absurd (by decide) h
theorem l_gt {x y : Int64} (h : 0 < lg_cmp x y) : y.toInt < x.toInt := by
  rcases lc_t x y with ⟨h1, h2⟩ | ⟨h1, h2⟩ | ⟨h1, h2⟩ <;> rw [h2] at h <;> first | exact h1 | exact absurd h (by decide)
theorem l_ngt {x y : Int64} (h : ¬ 0 < lg_cmp x y) : x.toInt ≤ y.toInt := by
  rcases lc_t x y with ⟨h1, h2⟩ | ⟨h1, h2⟩ | ⟨h1, h2⟩ <;> rw [h2] at h <;> first | omega | exact absurd (by decide) h
theorem l_ge {x y : Int64} (h : 0 ≤ lg_cmp x y) : y.toInt ≤ x.toInt := by
  rcases lc_t x y with ⟨h1, h2⟩ | ⟨h1, h2⟩ | ⟨h1, h2⟩ <;> rw [h2] at h <;> first | omega | exact absurd h (by decide)
theorem l_nge {x y : Int64} (h : ¬ 0 ≤ lg_cmp x y) : x.toInt < y.toInt := by
  rcases lc_t x y with ⟨h1, h2⟩ | ⟨h1, h2⟩ | ⟨h1, h2⟩ <;> rw [h2] at h <;> first | omega | exact absurd (by decide) h
theorem l_le {x y : Int64} (h : lg_cmp x y ≤ 0) : x.toInt ≤ y.toInt := by
  rcases lc_t x y with ⟨h1, h2⟩ | ⟨h1, h2⟩ | ⟨h1, h2⟩ <;> rw [h2] at h <;> first | omega | exact absurd h (by decide)
theorem l_nle {x y : Int64} (h : ¬ lg_cmp x y ≤ 0) : y.toInt < x.toInt := by
  rcases lc_t x y with ⟨h1, h2⟩ | ⟨h1, h2⟩ | ⟨h1, h2⟩ <;> rw [h2] at h <;> first | omega | exact absurd (by decide) h
theorem l_eq {x y : Int64} (h : lg_cmp x y = 0) : x.toInt = y.toInt := by
  rcases lc_t x y with ⟨h1, h2⟩ | ⟨h1, h2⟩ | ⟨h1, h2⟩ <;> rw [h2] at h <;> first | exact h1 | exact absurd h (by decide)
theorem l_ne {x y : Int64} (h : ¬ lg_cmp x y = 0) : x.toInt ≠ y.toInt := by
  rcases lc_t x y with ⟨h1, h2⟩ | ⟨h1, h2⟩ | ⟨h1, h2⟩ <;> rw [h2] at h <;> first | omega | exact absurd rfl h
theorem b_lt (x : Int32) : -2147483648 ≤ x.toInt ∧ x.toInt < 2147483648 := ⟨Int32.le_toInt x, Int32.toInt_lt x⟩
theorem a_add {x y v : Int32} (h : v = x + y) (h1 : -2147483648 ≤ x.toInt + y.toInt) (h2 : x.toInt + y.toInt < 2147483648) : v.toInt = x.toInt + y.toInt := by
  rw [h, Int32.toInt_add]
  exact Int.bmod_eq_of_le (by omega) (by omega)
theorem a_sub {x y v : Int32} (h : v = x - y) (h1 : -2147483648 ≤ x.toInt - y.toInt) (h2 : x.toInt - y.toInt < 2147483648) : v.toInt = x.toInt - y.toInt := by
  rw [h, Int32.toInt_sub]
  exact Int.bmod_eq_of_le (by omega) (by omega)
theorem a_mul {x y v : Int32} (h : v = x * y) (h1 : -2147483648 ≤ x.toInt * y.toInt) (h2 : x.toInt * y.toInt < 2147483648) : v.toInt = x.toInt * y.toInt := by
  rw [h, Int32.toInt_mul]
  exact Int.bmod_eq_of_le (by omega) (by omega)
-- the graph of the class's own objects: names that are there, and what refers to what
def tB : List Nat := [100, 110, 120, 130, 140, 150]
def lB : List Nat := [200, 210, 220, 230, 240, 250, 260]
def fnC : List Nat := [0, 1, 2, 3, 4, 10, 11, 12, 13, 14, 20, 21, 22, 30, 31, 32, 33, 34, 40, 41, 42, 43, 50, 60, 61, 62, 70, 71, 72, 100, 101, 102, 103, 104, 105, 106, 107, 108, 110, 111, 112, 113, 114, 115, 116, 117, 118]
def feC : List (Nat × Nat × Nat) := [(0, 0, 100), (0, 1, 110), (0, 2, 1), (0, 3, 10), (0, 4, 20), (0, 5, 30), (0, 6, 40), (0, 7, 50), (0, 8, 60), (0, 9, 70), (0, 10, 2), (0, 11, 3), (0, 12, 4), (10, 0, 11), (10, 1, 12), (10, 9, 13), (10, 10, 14), (20, 0, 10), (20, 1, 21), (20, 2, 22), (30, 0, 10), (30, 1, 31), (30, 2, 32), (30, 3, 33), (30, 4, 34), (40, 0, 41), (40, 1, 100), (40, 2, 10), (40, 3, 42), (40, 4, 43), (50, 3, 10), (60, 3, 61), (60, 4, 62), (70, 0, 71), (70, 1, 72), (100, 10, 101), (100, 11, 102), (100, 12, 103), (100, 13, 104), (100, 14, 105), (100, 15, 106), (100, 16, 107), (100, 17, 108), (110, 10, 111), (110, 11, 112), (110, 12, 113), (110, 13, 114), (110, 14, 115), (110, 15, 116), (110, 16, 117), (110, 17, 118)]
def SGC (ns : List Nat) (G : MG) : Prop := (∀ n ∈ fnC, n ∈ ns) ∧ ∀ t ∈ feC, G t.1 t.2.1 = t.2.2
def TOK (ns : List Nat) (G : MG) (b : Nat) : Prop := b ∈ tB ∧ (∀ k, k < 9 → b + k ∈ ns) ∧ ∀ k, k < 8 → G b (10 + k) = b + 1 + k
def LOK (ns : List Nat) (G : MG) (b : Nat) : Prop := b ∈ lB ∧ (∀ k, k < 6 → b + k ∈ ns) ∧ ∀ k, k < 5 → G b k = b + 1 + k
theorem TOK.l {ns : List Nat} {G : MG} {b : Nat} (h : TOK ns G b) : b ∈ ns := h.2.1 0 (by decide)
theorem LOK.l {ns : List Nat} {G : MG} {b : Nat} (h : LOK ns G b) : b ∈ ns := h.2.1 0 (by decide)
theorem SGC.t0 {ns : List Nat} {G : MG} (h : SGC ns G) : TOK ns G 100 := by
  refine ⟨by decide, fun k hk => h.1 _ ?_, fun k hk => h.2 (100, 10 + k, 100 + 1 + k) ?_⟩
  · revert k; decide
  · revert k; decide
theorem SGC.t1 {ns : List Nat} {G : MG} (h : SGC ns G) : TOK ns G 110 := by
  refine ⟨by decide, fun k hk => h.1 _ ?_, fun k hk => h.2 (110, 10 + k, 110 + 1 + k) ?_⟩
  · revert k; decide
  · revert k; decide
theorem kT : ∀ b ∈ tB, kd b = (8, 18) ∧ kd (b + 1) = (20, 576) ∧ kd (b + 2) = (20, 576) ∧ kd (b + 3) = (20, 576) ∧ kd (b + 4) = (20, 576) ∧ kd (b + 5) = (20, 288) ∧ kd (b + 6) = (20, 288) ∧ kd (b + 7) = (20, 240) ∧ kd (b + 8) = (20, 56) ∧ b ≠ 0 ∧ b < 1000 := by decide
theorem kW : ∀ b ∈ lB, kd b = (3, 7) ∧ kd (b + 1) = (20, 400) ∧ kd (b + 2) = (20, 12) ∧ kd (b + 3) = (20, 12) ∧ kd (b + 4) = (20, 12) ∧ kd (b + 5) = (20, 12) ∧ b ≠ 0 ∧ b < 1000 := by decide
-- the reference's
def fsM : List Nat := [1, 2, 3, 4, 5, 6, 7, 8, 9, 10, 11, 12, 13, 14, 15, 16, 17, 18, 19, 20, 21, 22, 23, 34, 35, 36, 37, 38, 39, 40, 41, 42, 43, 44, 45, 46, 47, 48, 49, 50, 58, 60, 61, 62, 64, 66, 67, 68, 69, 70, 71, 72, 73, 76, 77]
def SGM (ns : List Nat) (G : MG) : Prop := 1000 ∈ ns ∧ ∀ k ∈ fsM, 1000 + k ∈ ns ∧ G 1000 k = 1000 + k
end

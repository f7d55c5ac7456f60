section
-- ===== PART A: goes FIRST, ahead of the names: the tables' words, and 'selects' of the private methods out of them =====
/-- a private method of a class that the tables say can be made, by its rows of tables_1 -/
def lw_okq (q : MethodName × Nat) : Prop := (q.1.cls ≠ "java/lang/invoke/MethodHandle" ∧ q.1.cls ≠ "java/lang/invoke/VarHandle") ∧ Cond.instantiable q.1.cls q.2 ∈ tables_1 ∧ Cond.privateMethod q.1 ∈ tables_1 ∧ Cond.instanceMethod q.1 ∈ tables_1
theorem lw_p0 : lw_okq (⟨"CakePapers", "putFour", "(I)V"⟩, 16) := ⟨⟨by decide +kernel, by decide +kernel⟩, List.mem_of_getElem? (i := 23) (by decide +kernel), List.mem_of_getElem? (i := 538) (by decide +kernel), List.mem_of_getElem? (i := 539) (by decide +kernel)⟩
theorem lw_p1 : lw_okq (⟨"CakePapers$Scanner", "readWord", "()V"⟩, 10) := ⟨⟨by decide +kernel, by decide +kernel⟩, List.mem_of_getElem? (i := 31) (by decide +kernel), List.mem_of_getElem? (i := 568) (by decide +kernel), List.mem_of_getElem? (i := 569) (by decide +kernel)⟩
theorem lw_p2 : lw_okq (⟨"CakePapers$Scanner", "readNumber", "()V"⟩, 10) := ⟨⟨by decide +kernel, by decide +kernel⟩, List.mem_of_getElem? (i := 31) (by decide +kernel), List.mem_of_getElem? (i := 575) (by decide +kernel), List.mem_of_getElem? (i := 576) (by decide +kernel)⟩
theorem lw_p3 : lw_okq (⟨"CakePapers$PaperReader", "readCall", "()Z"⟩, 4) := ⟨⟨by decide +kernel, by decide +kernel⟩, List.mem_of_getElem? (i := 128) (by decide +kernel), List.mem_of_getElem? (i := 639) (by decide +kernel), List.mem_of_getElem? (i := 640) (by decide +kernel)⟩
theorem lw_p4 : lw_okq (⟨"CakePapers$PaperReader", "findCall", "(J)I"⟩, 4) := ⟨⟨by decide +kernel, by decide +kernel⟩, List.mem_of_getElem? (i := 128) (by decide +kernel), List.mem_of_getElem? (i := 652) (by decide +kernel), List.mem_of_getElem? (i := 653) (by decide +kernel)⟩
theorem lw_p5 : lw_okq (⟨"CakePapers$PaperReader", "readMake", "(LCakePapers$Paper;)Z"⟩, 4) := ⟨⟨by decide +kernel, by decide +kernel⟩, List.mem_of_getElem? (i := 128) (by decide +kernel), List.mem_of_getElem? (i := 662) (by decide +kernel), List.mem_of_getElem? (i := 663) (by decide +kernel)⟩
theorem lw_p6 : lw_okq (⟨"CakePapers$PaperReader", "asCalled", "(J)J"⟩, 4) := ⟨⟨by decide +kernel, by decide +kernel⟩, List.mem_of_getElem? (i := 128) (by decide +kernel), List.mem_of_getElem? (i := 666) (by decide +kernel), List.mem_of_getElem? (i := 667) (by decide +kernel)⟩
theorem lw_p7 : lw_okq (⟨"CakePapers$PaperReader", "readNeeds", "(LCakePapers$Paper;I)Z"⟩, 4) := ⟨⟨by decide +kernel, by decide +kernel⟩, List.mem_of_getElem? (i := 128) (by decide +kernel), List.mem_of_getElem? (i := 674) (by decide +kernel), List.mem_of_getElem? (i := 675) (by decide +kernel)⟩
theorem lw_p8 : lw_okq (⟨"CakePapers$PaperReader", "readNumber", "()I"⟩, 4) := ⟨⟨by decide +kernel, by decide +kernel⟩, List.mem_of_getElem? (i := 128) (by decide +kernel), List.mem_of_getElem? (i := 682) (by decide +kernel), List.mem_of_getElem? (i := 683) (by decide +kernel)⟩
theorem lw_p9 : lw_okq (⟨"CakePapers$Paper", "linkNeeds", "(I)V"⟩, 14) := ⟨⟨by decide +kernel, by decide +kernel⟩, List.mem_of_getElem? (i := 234) (by decide +kernel), List.mem_of_getElem? (i := 690) (by decide +kernel), List.mem_of_getElem? (i := 691) (by decide +kernel)⟩
theorem lw_p10 : lw_okq (⟨"CakePapers", "keepSparePaper", "()I"⟩, 16) := ⟨⟨by decide +kernel, by decide +kernel⟩, List.mem_of_getElem? (i := 23) (by decide +kernel), List.mem_of_getElem? (i := 695) (by decide +kernel), List.mem_of_getElem? (i := 696) (by decide +kernel)⟩
theorem lw_p11 : lw_okq (⟨"CakePapers$WantReader", "readAny", "(I)Z"⟩, 2) := ⟨⟨by decide +kernel, by decide +kernel⟩, List.mem_of_getElem? (i := 147) (by decide +kernel), List.mem_of_getElem? (i := 713) (by decide +kernel), List.mem_of_getElem? (i := 714) (by decide +kernel)⟩
theorem lw_p12 : lw_okq (⟨"CakePapers$WantReader", "readBoth", "(I)Z"⟩, 2) := ⟨⟨by decide +kernel, by decide +kernel⟩, List.mem_of_getElem? (i := 147) (by decide +kernel), List.mem_of_getElem? (i := 717) (by decide +kernel), List.mem_of_getElem? (i := 718) (by decide +kernel)⟩
theorem lw_p13 : lw_okq (⟨"CakePapers$WantReader", "readOne", "(I)Z"⟩, 2) := ⟨⟨by decide +kernel, by decide +kernel⟩, List.mem_of_getElem? (i := 147) (by decide +kernel), List.mem_of_getElem? (i := 721) (by decide +kernel), List.mem_of_getElem? (i := 722) (by decide +kernel)⟩
theorem lw_p14 : lw_okq (⟨"CakePapers$WantReader", "readSum", "(I)Z"⟩, 2) := ⟨⟨by decide +kernel, by decide +kernel⟩, List.mem_of_getElem? (i := 147) (by decide +kernel), List.mem_of_getElem? (i := 731) (by decide +kernel), List.mem_of_getElem? (i := 732) (by decide +kernel)⟩
theorem lw_p15 : lw_okq (⟨"CakePapers$WantReader", "readTerm", "(I)Z"⟩, 2) := ⟨⟨by decide +kernel, by decide +kernel⟩, List.mem_of_getElem? (i := 147) (by decide +kernel), List.mem_of_getElem? (i := 735) (by decide +kernel), List.mem_of_getElem? (i := 736) (by decide +kernel)⟩
def lw_privs_1 : List (MethodName × Nat) := [(⟨"CakePapers", "putFour", "(I)V"⟩, 16), (⟨"CakePapers$Scanner", "readWord", "()V"⟩, 10), (⟨"CakePapers$Scanner", "readNumber", "()V"⟩, 10), (⟨"CakePapers$PaperReader", "readCall", "()Z"⟩, 4), (⟨"CakePapers$PaperReader", "findCall", "(J)I"⟩, 4), (⟨"CakePapers$PaperReader", "readMake", "(LCakePapers$Paper;)Z"⟩, 4), (⟨"CakePapers$PaperReader", "asCalled", "(J)J"⟩, 4), (⟨"CakePapers$PaperReader", "readNeeds", "(LCakePapers$Paper;I)Z"⟩, 4), (⟨"CakePapers$PaperReader", "readNumber", "()I"⟩, 4), (⟨"CakePapers$Paper", "linkNeeds", "(I)V"⟩, 14), (⟨"CakePapers", "keepSparePaper", "()I"⟩, 16), (⟨"CakePapers$WantReader", "readAny", "(I)Z"⟩, 2), (⟨"CakePapers$WantReader", "readBoth", "(I)Z"⟩, 2), (⟨"CakePapers$WantReader", "readOne", "(I)Z"⟩, 2), (⟨"CakePapers$WantReader", "readSum", "(I)Z"⟩, 2), (⟨"CakePapers$WantReader", "readTerm", "(I)Z"⟩, 2)]
theorem lw_r1 : ∀ q ∈ lw_privs_1, lw_okq q := List.forall_mem_cons.mpr ⟨lw_p0, List.forall_mem_cons.mpr ⟨lw_p1, List.forall_mem_cons.mpr ⟨lw_p2, List.forall_mem_cons.mpr ⟨lw_p3, List.forall_mem_cons.mpr ⟨lw_p4, List.forall_mem_cons.mpr ⟨lw_p5, List.forall_mem_cons.mpr ⟨lw_p6, List.forall_mem_cons.mpr ⟨lw_p7, List.forall_mem_cons.mpr ⟨lw_p8, List.forall_mem_cons.mpr ⟨lw_p9, List.forall_mem_cons.mpr ⟨lw_p10, List.forall_mem_cons.mpr ⟨lw_p11, List.forall_mem_cons.mpr ⟨lw_p12, List.forall_mem_cons.mpr ⟨lw_p13, List.forall_mem_cons.mpr ⟨lw_p14, List.forall_mem_cons.mpr ⟨lw_p15, fun _ h => absurd h List.not_mem_nil⟩⟩⟩⟩⟩⟩⟩⟩⟩⟩⟩⟩⟩⟩⟩⟩
theorem lw_p16 : lw_okq (⟨"CakePapers$WantReader", "readUnit", "(I)Z"⟩, 2) := ⟨⟨by decide +kernel, by decide +kernel⟩, List.mem_of_getElem? (i := 147) (by decide +kernel), List.mem_of_getElem? (i := 739) (by decide +kernel), List.mem_of_getElem? (i := 740) (by decide +kernel)⟩
theorem lw_p17 : lw_okq (⟨"CakePapers$Likeness", "needsMatch", "(II)Z"⟩, 6) := ⟨⟨by decide +kernel, by decide +kernel⟩, List.mem_of_getElem? (i := 357) (by decide +kernel), List.mem_of_getElem? (i := 801) (by decide +kernel), List.mem_of_getElem? (i := 802) (by decide +kernel)⟩
theorem lw_p18 : lw_okq (⟨"CakePapers$Likeness", "forgetUsed", "()V"⟩, 6) := ⟨⟨by decide +kernel, by decide +kernel⟩, List.mem_of_getElem? (i := 357) (by decide +kernel), List.mem_of_getElem? (i := 805) (by decide +kernel), List.mem_of_getElem? (i := 806) (by decide +kernel)⟩
theorem lw_p19 : lw_okq (⟨"CakePapers$Likeness", "needsAlike", "(II)Z"⟩, 6) := ⟨⟨by decide +kernel, by decide +kernel⟩, List.mem_of_getElem? (i := 357) (by decide +kernel), List.mem_of_getElem? (i := 809) (by decide +kernel), List.mem_of_getElem? (i := 810) (by decide +kernel)⟩
theorem lw_p20 : lw_okq (⟨"CakePapers$Likeness", "freeEndLike", "(I)I"⟩, 6) := ⟨⟨by decide +kernel, by decide +kernel⟩, List.mem_of_getElem? (i := 357) (by decide +kernel), List.mem_of_getElem? (i := 813) (by decide +kernel), List.mem_of_getElem? (i := 814) (by decide +kernel)⟩
theorem lw_p21 : lw_okq (⟨"CakePapers", "listChanges", "(LCakePapers$Changes;II)Z"⟩, 16) := ⟨⟨by decide +kernel, by decide +kernel⟩, List.mem_of_getElem? (i := 23) (by decide +kernel), List.mem_of_getElem? (i := 830) (by decide +kernel), List.mem_of_getElem? (i := 831) (by decide +kernel)⟩
theorem lw_p22 : lw_okq (⟨"CakePapers$Changes", "add", "(II)V"⟩, 7) := ⟨⟨by decide +kernel, by decide +kernel⟩, List.mem_of_getElem? (i := 453) (by decide +kernel), List.mem_of_getElem? (i := 839) (by decide +kernel), List.mem_of_getElem? (i := 840) (by decide +kernel)⟩
theorem lw_p23 : lw_okq (⟨"CakePapers$Changes", "differBySlip", "(JJI)Z"⟩, 7) := ⟨⟨by decide +kernel, by decide +kernel⟩, List.mem_of_getElem? (i := 453) (by decide +kernel), List.mem_of_getElem? (i := 868) (by decide +kernel), List.mem_of_getElem? (i := 869) (by decide +kernel)⟩
theorem lw_p24 : lw_okq (⟨"CakePapers$Changes", "sameFrom", "(IIII)Z"⟩, 7) := ⟨⟨by decide +kernel, by decide +kernel⟩, List.mem_of_getElem? (i := 453) (by decide +kernel), List.mem_of_getElem? (i := 876) (by decide +kernel), List.mem_of_getElem? (i := 877) (by decide +kernel)⟩
theorem lw_p25 : lw_okq (⟨"CakePapers$Likeness", "weigh", "(LCakePapers$Paper;LCakePapers$Paper;)V"⟩, 6) := ⟨⟨by decide +kernel, by decide +kernel⟩, List.mem_of_getElem? (i := 357) (by decide +kernel), List.mem_of_getElem? (i := 888) (by decide +kernel), List.mem_of_getElem? (i := 889) (by decide +kernel)⟩
theorem lw_p26 : lw_okq (⟨"CakePapers", "doChosen", "()V"⟩, 16) := ⟨⟨by decide +kernel, by decide +kernel⟩, List.mem_of_getElem? (i := 23) (by decide +kernel), List.mem_of_getElem? (i := 907) (by decide +kernel), List.mem_of_getElem? (i := 908) (by decide +kernel)⟩
theorem lw_p27 : lw_okq (⟨"CakePapers$Draft", "takeNeeds", "(ILCakePapers$Paper;I)V"⟩, 4) := ⟨⟨by decide +kernel, by decide +kernel⟩, List.mem_of_getElem? (i := 382) (by decide +kernel), List.mem_of_getElem? (i := 930) (by decide +kernel), List.mem_of_getElem? (i := 931) (by decide +kernel)⟩
theorem lw_p28 : lw_okq (⟨"CakePapers$Draft", "firstReady", "()I"⟩, 4) := ⟨⟨by decide +kernel, by decide +kernel⟩, List.mem_of_getElem? (i := 382) (by decide +kernel), List.mem_of_getElem? (i := 956) (by decide +kernel), List.mem_of_getElem? (i := 957) (by decide +kernel)⟩
theorem lw_p29 : lw_okq (⟨"CakePapers$Draft", "isReady", "(I)Z"⟩, 4) := ⟨⟨by decide +kernel, by decide +kernel⟩, List.mem_of_getElem? (i := 382) (by decide +kernel), List.mem_of_getElem? (i := 960) (by decide +kernel), List.mem_of_getElem? (i := 961) (by decide +kernel)⟩
theorem lw_p30 : lw_okq (⟨"CakePapers$Joining", "addStep", "(J)V"⟩, 13) := ⟨⟨by decide +kernel, by decide +kernel⟩, List.mem_of_getElem? (i := 168) (by decide +kernel), List.mem_of_getElem? (i := 972) (by decide +kernel), List.mem_of_getElem? (i := 973) (by decide +kernel)⟩
theorem lw_p31 : lw_okq (⟨"CakePapers$Joining", "addQuarrels", "(I)V"⟩, 13) := ⟨⟨by decide +kernel, by decide +kernel⟩, List.mem_of_getElem? (i := 168) (by decide +kernel), List.mem_of_getElem? (i := 978) (by decide +kernel), List.mem_of_getElem? (i := 979) (by decide +kernel)⟩
def lw_privs_2 : List (MethodName × Nat) := [(⟨"CakePapers$WantReader", "readUnit", "(I)Z"⟩, 2), (⟨"CakePapers$Likeness", "needsMatch", "(II)Z"⟩, 6), (⟨"CakePapers$Likeness", "forgetUsed", "()V"⟩, 6), (⟨"CakePapers$Likeness", "needsAlike", "(II)Z"⟩, 6), (⟨"CakePapers$Likeness", "freeEndLike", "(I)I"⟩, 6), (⟨"CakePapers", "listChanges", "(LCakePapers$Changes;II)Z"⟩, 16), (⟨"CakePapers$Changes", "add", "(II)V"⟩, 7), (⟨"CakePapers$Changes", "differBySlip", "(JJI)Z"⟩, 7), (⟨"CakePapers$Changes", "sameFrom", "(IIII)Z"⟩, 7), (⟨"CakePapers$Likeness", "weigh", "(LCakePapers$Paper;LCakePapers$Paper;)V"⟩, 6), (⟨"CakePapers", "doChosen", "()V"⟩, 16), (⟨"CakePapers$Draft", "takeNeeds", "(ILCakePapers$Paper;I)V"⟩, 4), (⟨"CakePapers$Draft", "firstReady", "()I"⟩, 4), (⟨"CakePapers$Draft", "isReady", "(I)Z"⟩, 4), (⟨"CakePapers$Joining", "addStep", "(J)V"⟩, 13), (⟨"CakePapers$Joining", "addQuarrels", "(I)V"⟩, 13)]
theorem lw_r2 : ∀ q ∈ lw_privs_2, lw_okq q := List.forall_mem_cons.mpr ⟨lw_p16, List.forall_mem_cons.mpr ⟨lw_p17, List.forall_mem_cons.mpr ⟨lw_p18, List.forall_mem_cons.mpr ⟨lw_p19, List.forall_mem_cons.mpr ⟨lw_p20, List.forall_mem_cons.mpr ⟨lw_p21, List.forall_mem_cons.mpr ⟨lw_p22, List.forall_mem_cons.mpr ⟨lw_p23, List.forall_mem_cons.mpr ⟨lw_p24, List.forall_mem_cons.mpr ⟨lw_p25, List.forall_mem_cons.mpr ⟨lw_p26, List.forall_mem_cons.mpr ⟨lw_p27, List.forall_mem_cons.mpr ⟨lw_p28, List.forall_mem_cons.mpr ⟨lw_p29, List.forall_mem_cons.mpr ⟨lw_p30, List.forall_mem_cons.mpr ⟨lw_p31, fun _ h => absurd h List.not_mem_nil⟩⟩⟩⟩⟩⟩⟩⟩⟩⟩⟩⟩⟩⟩⟩⟩
theorem lw_p32 : lw_okq (⟨"CakePapers$Joining", "addQuarrel", "(I)V"⟩, 13) := ⟨⟨by decide +kernel, by decide +kernel⟩, List.mem_of_getElem? (i := 168) (by decide +kernel), List.mem_of_getElem? (i := 982) (by decide +kernel), List.mem_of_getElem? (i := 983) (by decide +kernel)⟩
theorem lw_p33 : lw_okq (⟨"CakePapers$Joiner", "clearRow", "()V"⟩, 11) := ⟨⟨by decide +kernel, by decide +kernel⟩, List.mem_of_getElem? (i := 406) (by decide +kernel), List.mem_of_getElem? (i := 998) (by decide +kernel), List.mem_of_getElem? (i := 999) (by decide +kernel)⟩
theorem lw_p34 : lw_okq (⟨"CakePapers$Joining", "drawShared", "(LCakePapers$Draft;I[I)V"⟩, 13) := ⟨⟨by decide +kernel, by decide +kernel⟩, List.mem_of_getElem? (i := 168) (by decide +kernel), List.mem_of_getElem? (i := 1011) (by decide +kernel), List.mem_of_getElem? (i := 1012) (by decide +kernel)⟩
theorem lw_p35 : lw_okq (⟨"CakePapers$Joining", "sideOf", "(II[I)I"⟩, 13) := ⟨⟨by decide +kernel, by decide +kernel⟩, List.mem_of_getElem? (i := 168) (by decide +kernel), List.mem_of_getElem? (i := 1016) (by decide +kernel), List.mem_of_getElem? (i := 1017) (by decide +kernel)⟩
theorem lw_p36 : lw_okq (⟨"CakePapers$Joining", "changingSide", "(II)I"⟩, 13) := ⟨⟨by decide +kernel, by decide +kernel⟩, List.mem_of_getElem? (i := 168) (by decide +kernel), List.mem_of_getElem? (i := 1020) (by decide +kernel), List.mem_of_getElem? (i := 1021) (by decide +kernel)⟩
theorem lw_p37 : lw_okq (⟨"CakePapers$Joining", "drawContested", "(LCakePapers$Draft;II)V"⟩, 13) := ⟨⟨by decide +kernel, by decide +kernel⟩, List.mem_of_getElem? (i := 168) (by decide +kernel), List.mem_of_getElem? (i := 1025) (by decide +kernel), List.mem_of_getElem? (i := 1026) (by decide +kernel)⟩
theorem lw_p38 : lw_okq (⟨"CakePapers$Joiner", "setRow", "(II)V"⟩, 11) := ⟨⟨by decide +kernel, by decide +kernel⟩, List.mem_of_getElem? (i := 406) (by decide +kernel), List.mem_of_getElem? (i := 1062) (by decide +kernel), List.mem_of_getElem? (i := 1063) (by decide +kernel)⟩
theorem lw_p39 : lw_okq (⟨"CakePapers$Joiner", "considerRow", "(II)V"⟩, 11) := ⟨⟨by decide +kernel, by decide +kernel⟩, List.mem_of_getElem? (i := 406) (by decide +kernel), List.mem_of_getElem? (i := 1067) (by decide +kernel), List.mem_of_getElem? (i := 1068) (by decide +kernel)⟩
theorem lw_p40 : lw_okq (⟨"CakePapers", "isGoodAlone", "(LCakePapers$Changes;I)Z"⟩, 16) := ⟨⟨by decide +kernel, by decide +kernel⟩, List.mem_of_getElem? (i := 23) (by decide +kernel), List.mem_of_getElem? (i := 1091) (by decide +kernel), List.mem_of_getElem? (i := 1092) (by decide +kernel)⟩
theorem lw_p41 : lw_okq (⟨"CakePapers", "ruinTogether", "(II)Z"⟩, 16) := ⟨⟨by decide +kernel, by decide +kernel⟩, List.mem_of_getElem? (i := 23) (by decide +kernel), List.mem_of_getElem? (i := 1095) (by decide +kernel), List.mem_of_getElem? (i := 1096) (by decide +kernel)⟩
theorem lw_p42 : lw_okq (⟨"CakePapers$Joiner", "joinCleanly", "(LCakePapers$Paper;LCakePapers$Paper;LCakePapers$Paper;LCakePapers$Paper;)Z"⟩, 11) := ⟨⟨by decide +kernel, by decide +kernel⟩, List.mem_of_getElem? (i := 406) (by decide +kernel), List.mem_of_getElem? (i := 1107) (by decide +kernel), List.mem_of_getElem? (i := 1108) (by decide +kernel)⟩
theorem lw_p43 : lw_okq (⟨"CakePapers$Joiner", "holds", "(ZZ)Z"⟩, 11) := ⟨⟨by decide +kernel, by decide +kernel⟩, List.mem_of_getElem? (i := 406) (by decide +kernel), List.mem_of_getElem? (i := 1116) (by decide +kernel), List.mem_of_getElem? (i := 1117) (by decide +kernel)⟩
theorem lw_p44 : lw_okq (⟨"CakePapers", "changeToBlame", "()I"⟩, 16) := ⟨⟨by decide +kernel, by decide +kernel⟩, List.mem_of_getElem? (i := 23) (by decide +kernel), List.mem_of_getElem? (i := 1137) (by decide +kernel), List.mem_of_getElem? (i := 1138) (by decide +kernel)⟩
theorem lw_p45 : lw_okq (⟨"CakePapersModel", "takeTape", "()V"⟩, 80) := ⟨⟨by decide +kernel, by decide +kernel⟩, List.mem_of_getElem? (i := 1196) (by decide +kernel), List.mem_of_getElem? (i := 1447) (by decide +kernel), List.mem_of_getElem? (i := 1448) (by decide +kernel)⟩
theorem lw_p46 : lw_okq (⟨"CakePapersModel", "goOn", "()V"⟩, 80) := ⟨⟨by decide +kernel, by decide +kernel⟩, List.mem_of_getElem? (i := 1196) (by decide +kernel), List.mem_of_getElem? (i := 1451) (by decide +kernel), List.mem_of_getElem? (i := 1452) (by decide +kernel)⟩
theorem lw_p47 : lw_okq (⟨"CakePapersModel", "sign", "(I)I"⟩, 80) := ⟨⟨by decide +kernel, by decide +kernel⟩, List.mem_of_getElem? (i := 1196) (by decide +kernel), List.mem_of_getElem? (i := 1455) (by decide +kernel), List.mem_of_getElem? (i := 1456) (by decide +kernel)⟩
def lw_privs_3 : List (MethodName × Nat) := [(⟨"CakePapers$Joining", "addQuarrel", "(I)V"⟩, 13), (⟨"CakePapers$Joiner", "clearRow", "()V"⟩, 11), (⟨"CakePapers$Joining", "drawShared", "(LCakePapers$Draft;I[I)V"⟩, 13), (⟨"CakePapers$Joining", "sideOf", "(II[I)I"⟩, 13), (⟨"CakePapers$Joining", "changingSide", "(II)I"⟩, 13), (⟨"CakePapers$Joining", "drawContested", "(LCakePapers$Draft;II)V"⟩, 13), (⟨"CakePapers$Joiner", "setRow", "(II)V"⟩, 11), (⟨"CakePapers$Joiner", "considerRow", "(II)V"⟩, 11), (⟨"CakePapers", "isGoodAlone", "(LCakePapers$Changes;I)Z"⟩, 16), (⟨"CakePapers", "ruinTogether", "(II)Z"⟩, 16), (⟨"CakePapers$Joiner", "joinCleanly", "(LCakePapers$Paper;LCakePapers$Paper;LCakePapers$Paper;LCakePapers$Paper;)Z"⟩, 11), (⟨"CakePapers$Joiner", "holds", "(ZZ)Z"⟩, 11), (⟨"CakePapers", "changeToBlame", "()I"⟩, 16), (⟨"CakePapersModel", "takeTape", "()V"⟩, 80), (⟨"CakePapersModel", "goOn", "()V"⟩, 80), (⟨"CakePapersModel", "sign", "(I)I"⟩, 80)]
theorem lw_r3 : ∀ q ∈ lw_privs_3, lw_okq q := List.forall_mem_cons.mpr ⟨lw_p32, List.forall_mem_cons.mpr ⟨lw_p33, List.forall_mem_cons.mpr ⟨lw_p34, List.forall_mem_cons.mpr ⟨lw_p35, List.forall_mem_cons.mpr ⟨lw_p36, List.forall_mem_cons.mpr ⟨lw_p37, List.forall_mem_cons.mpr ⟨lw_p38, List.forall_mem_cons.mpr ⟨lw_p39, List.forall_mem_cons.mpr ⟨lw_p40, List.forall_mem_cons.mpr ⟨lw_p41, List.forall_mem_cons.mpr ⟨lw_p42, List.forall_mem_cons.mpr ⟨lw_p43, List.forall_mem_cons.mpr ⟨lw_p44, List.forall_mem_cons.mpr ⟨lw_p45, List.forall_mem_cons.mpr ⟨lw_p46, List.forall_mem_cons.mpr ⟨lw_p47, fun _ h => absurd h List.not_mem_nil⟩⟩⟩⟩⟩⟩⟩⟩⟩⟩⟩⟩⟩⟩⟩⟩
theorem lw_p48 : lw_okq (⟨"CakePapersModel", "isGood", "()Z"⟩, 80) := ⟨⟨by decide +kernel, by decide +kernel⟩, List.mem_of_getElem? (i := 1196) (by decide +kernel), List.mem_of_getElem? (i := 1485) (by decide +kernel), List.mem_of_getElem? (i := 1486) (by decide +kernel)⟩
theorem lw_p49 : lw_okq (⟨"CakePapersModel", "readLine", "()V"⟩, 80) := ⟨⟨by decide +kernel, by decide +kernel⟩, List.mem_of_getElem? (i := 1196) (by decide +kernel), List.mem_of_getElem? (i := 1489) (by decide +kernel), List.mem_of_getElem? (i := 1490) (by decide +kernel)⟩
theorem lw_p50 : lw_okq (⟨"CakePapersModel", "isWord", "(J)Z"⟩, 80) := ⟨⟨by decide +kernel, by decide +kernel⟩, List.mem_of_getElem? (i := 1196) (by decide +kernel), List.mem_of_getElem? (i := 1493) (by decide +kernel), List.mem_of_getElem? (i := 1494) (by decide +kernel)⟩
theorem lw_p51 : lw_okq (⟨"CakePapersModel", "misplaced", "()V"⟩, 80) := ⟨⟨by decide +kernel, by decide +kernel⟩, List.mem_of_getElem? (i := 1196) (by decide +kernel), List.mem_of_getElem? (i := 1497) (by decide +kernel), List.mem_of_getElem? (i := 1498) (by decide +kernel)⟩
theorem lw_p52 : lw_okq (⟨"CakePapersModel", "fails", "(II)V"⟩, 80) := ⟨⟨by decide +kernel, by decide +kernel⟩, List.mem_of_getElem? (i := 1196) (by decide +kernel), List.mem_of_getElem? (i := 1501) (by decide +kernel), List.mem_of_getElem? (i := 1502) (by decide +kernel)⟩
theorem lw_p53 : lw_okq (⟨"CakePapersModel", "readCall", "()V"⟩, 80) := ⟨⟨by decide +kernel, by decide +kernel⟩, List.mem_of_getElem? (i := 1196) (by decide +kernel), List.mem_of_getElem? (i := 1505) (by decide +kernel), List.mem_of_getElem? (i := 1506) (by decide +kernel)⟩
theorem lw_p54 : lw_okq (⟨"CakePapersModel", "must", "(Z)V"⟩, 80) := ⟨⟨by decide +kernel, by decide +kernel⟩, List.mem_of_getElem? (i := 1196) (by decide +kernel), List.mem_of_getElem? (i := 1509) (by decide +kernel), List.mem_of_getElem? (i := 1510) (by decide +kernel)⟩
theorem lw_p55 : lw_okq (⟨"CakePapersModel", "readMake", "()V"⟩, 80) := ⟨⟨by decide +kernel, by decide +kernel⟩, List.mem_of_getElem? (i := 1196) (by decide +kernel), List.mem_of_getElem? (i := 1513) (by decide +kernel), List.mem_of_getElem? (i := 1514) (by decide +kernel)⟩
theorem lw_p56 : lw_okq (⟨"CakePapersModel", "asCalled", "()J"⟩, 80) := ⟨⟨by decide +kernel, by decide +kernel⟩, List.mem_of_getElem? (i := 1196) (by decide +kernel), List.mem_of_getElem? (i := 1520) (by decide +kernel), List.mem_of_getElem? (i := 1521) (by decide +kernel)⟩
theorem lw_p57 : lw_okq (⟨"CakePapersModel", "whoMakes", "(IJI)I"⟩, 80) := ⟨⟨by decide +kernel, by decide +kernel⟩, List.mem_of_getElem? (i := 1196) (by decide +kernel), List.mem_of_getElem? (i := 1524) (by decide +kernel), List.mem_of_getElem? (i := 1525) (by decide +kernel)⟩
theorem lw_p58 : lw_okq (⟨"CakePapersModel", "readNeed", "(I)V"⟩, 80) := ⟨⟨by decide +kernel, by decide +kernel⟩, List.mem_of_getElem? (i := 1196) (by decide +kernel), List.mem_of_getElem? (i := 1528) (by decide +kernel), List.mem_of_getElem? (i := 1529) (by decide +kernel)⟩
theorem lw_p59 : lw_okq (⟨"CakePapersModel", "after", "(J)I"⟩, 80) := ⟨⟨by decide +kernel, by decide +kernel⟩, List.mem_of_getElem? (i := 1196) (by decide +kernel), List.mem_of_getElem? (i := 1532) (by decide +kernel), List.mem_of_getElem? (i := 1533) (by decide +kernel)⟩
theorem lw_p60 : lw_okq (⟨"CakePapersModel", "is", "(I)Z"⟩, 80) := ⟨⟨by decide +kernel, by decide +kernel⟩, List.mem_of_getElem? (i := 1196) (by decide +kernel), List.mem_of_getElem? (i := 1536) (by decide +kernel), List.mem_of_getElem? (i := 1537) (by decide +kernel)⟩
theorem lw_p61 : lw_okq (⟨"CakePapersModel", "copyPaper", "(II)V"⟩, 80) := ⟨⟨by decide +kernel, by decide +kernel⟩, List.mem_of_getElem? (i := 1196) (by decide +kernel), List.mem_of_getElem? (i := 1540) (by decide +kernel), List.mem_of_getElem? (i := 1541) (by decide +kernel)⟩
theorem lw_p62 : lw_okq (⟨"CakePapersModel", "copyStep", "(II)V"⟩, 80) := ⟨⟨by decide +kernel, by decide +kernel⟩, List.mem_of_getElem? (i := 1196) (by decide +kernel), List.mem_of_getElem? (i := 1544) (by decide +kernel), List.mem_of_getElem? (i := 1545) (by decide +kernel)⟩
theorem lw_p63 : lw_okq (⟨"CakePapersModel", "isPaper", "(I)Z"⟩, 80) := ⟨⟨by decide +kernel, by decide +kernel⟩, List.mem_of_getElem? (i := 1196) (by decide +kernel), List.mem_of_getElem? (i := 1556) (by decide +kernel), List.mem_of_getElem? (i := 1557) (by decide +kernel)⟩
def lw_privs_4 : List (MethodName × Nat) := [(⟨"CakePapersModel", "isGood", "()Z"⟩, 80), (⟨"CakePapersModel", "readLine", "()V"⟩, 80), (⟨"CakePapersModel", "isWord", "(J)Z"⟩, 80), (⟨"CakePapersModel", "misplaced", "()V"⟩, 80), (⟨"CakePapersModel", "fails", "(II)V"⟩, 80), (⟨"CakePapersModel", "readCall", "()V"⟩, 80), (⟨"CakePapersModel", "must", "(Z)V"⟩, 80), (⟨"CakePapersModel", "readMake", "()V"⟩, 80), (⟨"CakePapersModel", "asCalled", "()J"⟩, 80), (⟨"CakePapersModel", "whoMakes", "(IJI)I"⟩, 80), (⟨"CakePapersModel", "readNeed", "(I)V"⟩, 80), (⟨"CakePapersModel", "after", "(J)I"⟩, 80), (⟨"CakePapersModel", "is", "(I)Z"⟩, 80), (⟨"CakePapersModel", "copyPaper", "(II)V"⟩, 80), (⟨"CakePapersModel", "copyStep", "(II)V"⟩, 80), (⟨"CakePapersModel", "isPaper", "(I)Z"⟩, 80)]
theorem lw_r4 : ∀ q ∈ lw_privs_4, lw_okq q := List.forall_mem_cons.mpr ⟨lw_p48, List.forall_mem_cons.mpr ⟨lw_p49, List.forall_mem_cons.mpr ⟨lw_p50, List.forall_mem_cons.mpr ⟨lw_p51, List.forall_mem_cons.mpr ⟨lw_p52, List.forall_mem_cons.mpr ⟨lw_p53, List.forall_mem_cons.mpr ⟨lw_p54, List.forall_mem_cons.mpr ⟨lw_p55, List.forall_mem_cons.mpr ⟨lw_p56, List.forall_mem_cons.mpr ⟨lw_p57, List.forall_mem_cons.mpr ⟨lw_p58, List.forall_mem_cons.mpr ⟨lw_p59, List.forall_mem_cons.mpr ⟨lw_p60, List.forall_mem_cons.mpr ⟨lw_p61, List.forall_mem_cons.mpr ⟨lw_p62, List.forall_mem_cons.mpr ⟨lw_p63, fun _ h => absurd h List.not_mem_nil⟩⟩⟩⟩⟩⟩⟩⟩⟩⟩⟩⟩⟩⟩⟩⟩
theorem lw_p64 : lw_okq (⟨"CakePapersModel", "ends", "(I)I"⟩, 80) := ⟨⟨by decide +kernel, by decide +kernel⟩, List.mem_of_getElem? (i := 1196) (by decide +kernel), List.mem_of_getElem? (i := 1563) (by decide +kernel), List.mem_of_getElem? (i := 1564) (by decide +kernel)⟩
theorem lw_p65 : lw_okq (⟨"CakePapersModel", "isEnd", "(II)Z"⟩, 80) := ⟨⟨by decide +kernel, by decide +kernel⟩, List.mem_of_getElem? (i := 1196) (by decide +kernel), List.mem_of_getElem? (i := 1567) (by decide +kernel), List.mem_of_getElem? (i := 1568) (by decide +kernel)⟩
theorem lw_p66 : lw_okq (⟨"CakePapersModel", "maker", "(III)I"⟩, 80) := ⟨⟨by decide +kernel, by decide +kernel⟩, List.mem_of_getElem? (i := 1196) (by decide +kernel), List.mem_of_getElem? (i := 1571) (by decide +kernel), List.mem_of_getElem? (i := 1572) (by decide +kernel)⟩
theorem lw_p67 : lw_okq (⟨"CakePapersModel", "path", "(I)I"⟩, 80) := ⟨⟨by decide +kernel, by decide +kernel⟩, List.mem_of_getElem? (i := 1196) (by decide +kernel), List.mem_of_getElem? (i := 1575) (by decide +kernel), List.mem_of_getElem? (i := 1576) (by decide +kernel)⟩
theorem lw_p68 : lw_okq (⟨"CakePapersModel", "all", "(IZ)I"⟩, 80) := ⟨⟨by decide +kernel, by decide +kernel⟩, List.mem_of_getElem? (i := 1196) (by decide +kernel), List.mem_of_getElem? (i := 1579) (by decide +kernel), List.mem_of_getElem? (i := 1580) (by decide +kernel)⟩
theorem lw_p69 : lw_okq (⟨"CakePapersModel", "wanted", "(I)I"⟩, 80) := ⟨⟨by decide +kernel, by decide +kernel⟩, List.mem_of_getElem? (i := 1196) (by decide +kernel), List.mem_of_getElem? (i := 1583) (by decide +kernel), List.mem_of_getElem? (i := 1584) (by decide +kernel)⟩
theorem lw_p70 : lw_okq (⟨"CakePapersModel", "worth", "(III)I"⟩, 80) := ⟨⟨by decide +kernel, by decide +kernel⟩, List.mem_of_getElem? (i := 1196) (by decide +kernel), List.mem_of_getElem? (i := 1587) (by decide +kernel), List.mem_of_getElem? (i := 1588) (by decide +kernel)⟩
theorem lw_p71 : lw_okq (⟨"CakePapersModel", "madeMany", "(II)I"⟩, 80) := ⟨⟨by decide +kernel, by decide +kernel⟩, List.mem_of_getElem? (i := 1196) (by decide +kernel), List.mem_of_getElem? (i := 1598) (by decide +kernel), List.mem_of_getElem? (i := 1599) (by decide +kernel)⟩
theorem lw_p72 : lw_okq (⟨"CakePapersModel", "areTwo", "(II)Z"⟩, 80) := ⟨⟨by decide +kernel, by decide +kernel⟩, List.mem_of_getElem? (i := 1196) (by decide +kernel), List.mem_of_getElem? (i := 1606) (by decide +kernel), List.mem_of_getElem? (i := 1607) (by decide +kernel)⟩
theorem lw_p73 : lw_okq (⟨"CakePapersModel", "isSame", "(II)Z"⟩, 80) := ⟨⟨by decide +kernel, by decide +kernel⟩, List.mem_of_getElem? (i := 1196) (by decide +kernel), List.mem_of_getElem? (i := 1610) (by decide +kernel), List.mem_of_getElem? (i := 1611) (by decide +kernel)⟩
theorem lw_p74 : lw_okq (⟨"CakePapersModel", "layAlike", "(II)V"⟩, 80) := ⟨⟨by decide +kernel, by decide +kernel⟩, List.mem_of_getElem? (i := 1196) (by decide +kernel), List.mem_of_getElem? (i := 1614) (by decide +kernel), List.mem_of_getElem? (i := 1615) (by decide +kernel)⟩
theorem lw_p75 : lw_okq (⟨"CakePapersModel", "sortOf", "(III)V"⟩, 80) := ⟨⟨by decide +kernel, by decide +kernel⟩, List.mem_of_getElem? (i := 1196) (by decide +kernel), List.mem_of_getElem? (i := 1618) (by decide +kernel), List.mem_of_getElem? (i := 1619) (by decide +kernel)⟩
theorem lw_p76 : lw_okq (⟨"CakePapersModel", "isAlike", "(IIII)Z"⟩, 80) := ⟨⟨by decide +kernel, by decide +kernel⟩, List.mem_of_getElem? (i := 1196) (by decide +kernel), List.mem_of_getElem? (i := 1622) (by decide +kernel), List.mem_of_getElem? (i := 1623) (by decide +kernel)⟩
theorem lw_p77 : lw_okq (⟨"CakePapersModel", "countNeed", "(IIIII)I"⟩, 80) := ⟨⟨by decide +kernel, by decide +kernel⟩, List.mem_of_getElem? (i := 1196) (by decide +kernel), List.mem_of_getElem? (i := 1626) (by decide +kernel), List.mem_of_getElem? (i := 1627) (by decide +kernel)⟩
theorem lw_p78 : lw_okq (⟨"CakePapersModel", "endsOfSort", "(II)I"⟩, 80) := ⟨⟨by decide +kernel, by decide +kernel⟩, List.mem_of_getElem? (i := 1196) (by decide +kernel), List.mem_of_getElem? (i := 1630) (by decide +kernel), List.mem_of_getElem? (i := 1631) (by decide +kernel)⟩
theorem lw_p79 : lw_okq (⟨"CakePapersModel", "layChanges", "(III)V"⟩, 80) := ⟨⟨by decide +kernel, by decide +kernel⟩, List.mem_of_getElem? (i := 1196) (by decide +kernel), List.mem_of_getElem? (i := 1642) (by decide +kernel), List.mem_of_getElem? (i := 1643) (by decide +kernel)⟩
def lw_privs_5 : List (MethodName × Nat) := [(⟨"CakePapersModel", "ends", "(I)I"⟩, 80), (⟨"CakePapersModel", "isEnd", "(II)Z"⟩, 80), (⟨"CakePapersModel", "maker", "(III)I"⟩, 80), (⟨"CakePapersModel", "path", "(I)I"⟩, 80), (⟨"CakePapersModel", "all", "(IZ)I"⟩, 80), (⟨"CakePapersModel", "wanted", "(I)I"⟩, 80), (⟨"CakePapersModel", "worth", "(III)I"⟩, 80), (⟨"CakePapersModel", "madeMany", "(II)I"⟩, 80), (⟨"CakePapersModel", "areTwo", "(II)Z"⟩, 80), (⟨"CakePapersModel", "isSame", "(II)Z"⟩, 80), (⟨"CakePapersModel", "layAlike", "(II)V"⟩, 80), (⟨"CakePapersModel", "sortOf", "(III)V"⟩, 80), (⟨"CakePapersModel", "isAlike", "(IIII)Z"⟩, 80), (⟨"CakePapersModel", "countNeed", "(IIIII)I"⟩, 80), (⟨"CakePapersModel", "endsOfSort", "(II)I"⟩, 80), (⟨"CakePapersModel", "layChanges", "(III)V"⟩, 80)]
theorem lw_r5 : ∀ q ∈ lw_privs_5, lw_okq q := List.forall_mem_cons.mpr ⟨lw_p64, List.forall_mem_cons.mpr ⟨lw_p65, List.forall_mem_cons.mpr ⟨lw_p66, List.forall_mem_cons.mpr ⟨lw_p67, List.forall_mem_cons.mpr ⟨lw_p68, List.forall_mem_cons.mpr ⟨lw_p69, List.forall_mem_cons.mpr ⟨lw_p70, List.forall_mem_cons.mpr ⟨lw_p71, List.forall_mem_cons.mpr ⟨lw_p72, List.forall_mem_cons.mpr ⟨lw_p73, List.forall_mem_cons.mpr ⟨lw_p74, List.forall_mem_cons.mpr ⟨lw_p75, List.forall_mem_cons.mpr ⟨lw_p76, List.forall_mem_cons.mpr ⟨lw_p77, List.forall_mem_cons.mpr ⟨lw_p78, List.forall_mem_cons.mpr ⟨lw_p79, fun _ h => absurd h List.not_mem_nil⟩⟩⟩⟩⟩⟩⟩⟩⟩⟩⟩⟩⟩⟩⟩⟩
theorem lw_p80 : lw_okq (⟨"CakePapersModel", "addChange", "(III)V"⟩, 80) := ⟨⟨by decide +kernel, by decide +kernel⟩, List.mem_of_getElem? (i := 1196) (by decide +kernel), List.mem_of_getElem? (i := 1646) (by decide +kernel), List.mem_of_getElem? (i := 1647) (by decide +kernel)⟩
theorem lw_p81 : lw_okq (⟨"CakePapersModel", "isField", "(III)Z"⟩, 80) := ⟨⟨by decide +kernel, by decide +kernel⟩, List.mem_of_getElem? (i := 1196) (by decide +kernel), List.mem_of_getElem? (i := 1650) (by decide +kernel), List.mem_of_getElem? (i := 1651) (by decide +kernel)⟩
theorem lw_p82 : lw_okq (⟨"CakePapersModel", "lacks", "(II)I"⟩, 80) := ⟨⟨by decide +kernel, by decide +kernel⟩, List.mem_of_getElem? (i := 1196) (by decide +kernel), List.mem_of_getElem? (i := 1654) (by decide +kernel), List.mem_of_getElem? (i := 1655) (by decide +kernel)⟩
theorem lw_p83 : lw_okq (⟨"CakePapersModel", "isSlipAt", "(I)Z"⟩, 80) := ⟨⟨by decide +kernel, by decide +kernel⟩, List.mem_of_getElem? (i := 1196) (by decide +kernel), List.mem_of_getElem? (i := 1662) (by decide +kernel), List.mem_of_getElem? (i := 1663) (by decide +kernel)⟩
theorem lw_p84 : lw_okq (⟨"CakePapersModel", "isSlip", "(JJI)Z"⟩, 80) := ⟨⟨by decide +kernel, by decide +kernel⟩, List.mem_of_getElem? (i := 1196) (by decide +kernel), List.mem_of_getElem? (i := 1666) (by decide +kernel), List.mem_of_getElem? (i := 1667) (by decide +kernel)⟩
theorem lw_p85 : lw_okq (⟨"CakePapersModel", "layDigits", "(ZJI)V"⟩, 80) := ⟨⟨by decide +kernel, by decide +kernel⟩, List.mem_of_getElem? (i := 1196) (by decide +kernel), List.mem_of_getElem? (i := 1670) (by decide +kernel), List.mem_of_getElem? (i := 1671) (by decide +kernel)⟩
theorem lw_p86 : lw_okq (⟨"CakePapersModel", "weight", "(II)I"⟩, 80) := ⟨⟨by decide +kernel, by decide +kernel⟩, List.mem_of_getElem? (i := 1196) (by decide +kernel), List.mem_of_getElem? (i := 1679) (by decide +kernel), List.mem_of_getElem? (i := 1680) (by decide +kernel)⟩
theorem lw_p87 : lw_okq (⟨"CakePapersModel", "doAll", "(II)Z"⟩, 80) := ⟨⟨by decide +kernel, by decide +kernel⟩, List.mem_of_getElem? (i := 1196) (by decide +kernel), List.mem_of_getElem? (i := 1687) (by decide +kernel), List.mem_of_getElem? (i := 1688) (by decide +kernel)⟩
theorem lw_p88 : lw_okq (⟨"CakePapersModel", "rowStep", "(II)V"⟩, 80) := ⟨⟨by decide +kernel, by decide +kernel⟩, List.mem_of_getElem? (i := 1196) (by decide +kernel), List.mem_of_getElem? (i := 1691) (by decide +kernel), List.mem_of_getElem? (i := 1692) (by decide +kernel)⟩
theorem lw_p89 : lw_okq (⟨"CakePapersModel", "giveNeeds", "(III)V"⟩, 80) := ⟨⟨by decide +kernel, by decide +kernel⟩, List.mem_of_getElem? (i := 1196) (by decide +kernel), List.mem_of_getElem? (i := 1695) (by decide +kernel), List.mem_of_getElem? (i := 1696) (by decide +kernel)⟩
theorem lw_p90 : lw_okq (⟨"CakePapersModel", "doAltered", "(I)V"⟩, 80) := ⟨⟨by decide +kernel, by decide +kernel⟩, List.mem_of_getElem? (i := 1196) (by decide +kernel), List.mem_of_getElem? (i := 1699) (by decide +kernel), List.mem_of_getElem? (i := 1700) (by decide +kernel)⟩
theorem lw_p91 : lw_okq (⟨"CakePapersModel", "giveField", "(IIII)V"⟩, 80) := ⟨⟨by decide +kernel, by decide +kernel⟩, List.mem_of_getElem? (i := 1196) (by decide +kernel), List.mem_of_getElem? (i := 1703) (by decide +kernel), List.mem_of_getElem? (i := 1704) (by decide +kernel)⟩
theorem lw_p92 : lw_okq (⟨"CakePapersModel", "doOut", "(I)V"⟩, 80) := ⟨⟨by decide +kernel, by decide +kernel⟩, List.mem_of_getElem? (i := 1196) (by decide +kernel), List.mem_of_getElem? (i := 1707) (by decide +kernel), List.mem_of_getElem? (i := 1708) (by decide +kernel)⟩
theorem lw_p93 : lw_okq (⟨"CakePapersModel", "doPut", "(I)V"⟩, 80) := ⟨⟨by decide +kernel, by decide +kernel⟩, List.mem_of_getElem? (i := 1196) (by decide +kernel), List.mem_of_getElem? (i := 1711) (by decide +kernel), List.mem_of_getElem? (i := 1712) (by decide +kernel)⟩
theorem lw_p94 : lw_okq (⟨"CakePapersModel", "settles", "()Z"⟩, 80) := ⟨⟨by decide +kernel, by decide +kernel⟩, List.mem_of_getElem? (i := 1196) (by decide +kernel), List.mem_of_getElem? (i := 1715) (by decide +kernel), List.mem_of_getElem? (i := 1716) (by decide +kernel)⟩
theorem lw_p95 : lw_okq (⟨"CakePapersModel", "nextStep", "()I"⟩, 80) := ⟨⟨by decide +kernel, by decide +kernel⟩, List.mem_of_getElem? (i := 1196) (by decide +kernel), List.mem_of_getElem? (i := 1719) (by decide +kernel), List.mem_of_getElem? (i := 1720) (by decide +kernel)⟩
def lw_privs_6 : List (MethodName × Nat) := [(⟨"CakePapersModel", "addChange", "(III)V"⟩, 80), (⟨"CakePapersModel", "isField", "(III)Z"⟩, 80), (⟨"CakePapersModel", "lacks", "(II)I"⟩, 80), (⟨"CakePapersModel", "isSlipAt", "(I)Z"⟩, 80), (⟨"CakePapersModel", "isSlip", "(JJI)Z"⟩, 80), (⟨"CakePapersModel", "layDigits", "(ZJI)V"⟩, 80), (⟨"CakePapersModel", "weight", "(II)I"⟩, 80), (⟨"CakePapersModel", "doAll", "(II)Z"⟩, 80), (⟨"CakePapersModel", "rowStep", "(II)V"⟩, 80), (⟨"CakePapersModel", "giveNeeds", "(III)V"⟩, 80), (⟨"CakePapersModel", "doAltered", "(I)V"⟩, 80), (⟨"CakePapersModel", "giveField", "(IIII)V"⟩, 80), (⟨"CakePapersModel", "doOut", "(I)V"⟩, 80), (⟨"CakePapersModel", "doPut", "(I)V"⟩, 80), (⟨"CakePapersModel", "settles", "()Z"⟩, 80), (⟨"CakePapersModel", "nextStep", "()I"⟩, 80)]
theorem lw_r6 : ∀ q ∈ lw_privs_6, lw_okq q := List.forall_mem_cons.mpr ⟨lw_p80, List.forall_mem_cons.mpr ⟨lw_p81, List.forall_mem_cons.mpr ⟨lw_p82, List.forall_mem_cons.mpr ⟨lw_p83, List.forall_mem_cons.mpr ⟨lw_p84, List.forall_mem_cons.mpr ⟨lw_p85, List.forall_mem_cons.mpr ⟨lw_p86, List.forall_mem_cons.mpr ⟨lw_p87, List.forall_mem_cons.mpr ⟨lw_p88, List.forall_mem_cons.mpr ⟨lw_p89, List.forall_mem_cons.mpr ⟨lw_p90, List.forall_mem_cons.mpr ⟨lw_p91, List.forall_mem_cons.mpr ⟨lw_p92, List.forall_mem_cons.mpr ⟨lw_p93, List.forall_mem_cons.mpr ⟨lw_p94, List.forall_mem_cons.mpr ⟨lw_p95, fun _ h => absurd h List.not_mem_nil⟩⟩⟩⟩⟩⟩⟩⟩⟩⟩⟩⟩⟩⟩⟩⟩
theorem lw_p96 : lw_okq (⟨"CakePapersModel", "canCome", "(I)Z"⟩, 80) := ⟨⟨by decide +kernel, by decide +kernel⟩, List.mem_of_getElem? (i := 1196) (by decide +kernel), List.mem_of_getElem? (i := 1723) (by decide +kernel), List.mem_of_getElem? (i := 1724) (by decide +kernel)⟩
theorem lw_p97 : lw_okq (⟨"CakePapersModel", "rowMaker", "(JZ)I"⟩, 80) := ⟨⟨by decide +kernel, by decide +kernel⟩, List.mem_of_getElem? (i := 1196) (by decide +kernel), List.mem_of_getElem? (i := 1727) (by decide +kernel), List.mem_of_getElem? (i := 1728) (by decide +kernel)⟩
theorem lw_p98 : lw_okq (⟨"CakePapersModel", "isBroken", "(I)Z"⟩, 80) := ⟨⟨by decide +kernel, by decide +kernel⟩, List.mem_of_getElem? (i := 1196) (by decide +kernel), List.mem_of_getElem? (i := 1731) (by decide +kernel), List.mem_of_getElem? (i := 1732) (by decide +kernel)⟩
theorem lw_p99 : lw_okq (⟨"CakePapersModel", "layJoin", "(III)V"⟩, 80) := ⟨⟨by decide +kernel, by decide +kernel⟩, List.mem_of_getElem? (i := 1196) (by decide +kernel), List.mem_of_getElem? (i := 1739) (by decide +kernel), List.mem_of_getElem? (i := 1740) (by decide +kernel)⟩
theorem lw_p100 : lw_okq (⟨"CakePapersModel", "joinStep", "(J)V"⟩, 80) := ⟨⟨by decide +kernel, by decide +kernel⟩, List.mem_of_getElem? (i := 1196) (by decide +kernel), List.mem_of_getElem? (i := 1743) (by decide +kernel), List.mem_of_getElem? (i := 1744) (by decide +kernel)⟩
theorem lw_p101 : lw_okq (⟨"CakePapersModel", "layQuarrels", "(I)V"⟩, 80) := ⟨⟨by decide +kernel, by decide +kernel⟩, List.mem_of_getElem? (i := 1196) (by decide +kernel), List.mem_of_getElem? (i := 1747) (by decide +kernel), List.mem_of_getElem? (i := 1748) (by decide +kernel)⟩
theorem lw_p102 : lw_okq (⟨"CakePapersModel", "giver", "(II)I"⟩, 80) := ⟨⟨by decide +kernel, by decide +kernel⟩, List.mem_of_getElem? (i := 1196) (by decide +kernel), List.mem_of_getElem? (i := 1751) (by decide +kernel), List.mem_of_getElem? (i := 1752) (by decide +kernel)⟩
theorem lw_p103 : lw_okq (⟨"CakePapersModel", "quarrelAt", "(II)V"⟩, 80) := ⟨⟨by decide +kernel, by decide +kernel⟩, List.mem_of_getElem? (i := 1196) (by decide +kernel), List.mem_of_getElem? (i := 1755) (by decide +kernel), List.mem_of_getElem? (i := 1756) (by decide +kernel)⟩
theorem lw_p104 : lw_okq (⟨"CakePapersModel", "isAltered", "(II)Z"⟩, 80) := ⟨⟨by decide +kernel, by decide +kernel⟩, List.mem_of_getElem? (i := 1196) (by decide +kernel), List.mem_of_getElem? (i := 1759) (by decide +kernel), List.mem_of_getElem? (i := 1760) (by decide +kernel)⟩
theorem lw_p105 : lw_okq (⟨"CakePapersModel", "isQuarrel", "(I)Z"⟩, 80) := ⟨⟨by decide +kernel, by decide +kernel⟩, List.mem_of_getElem? (i := 1196) (by decide +kernel), List.mem_of_getElem? (i := 1767) (by decide +kernel), List.mem_of_getElem? (i := 1768) (by decide +kernel)⟩
theorem lw_p106 : lw_okq (⟨"CakePapersModel", "layTold", "()V"⟩, 80) := ⟨⟨by decide +kernel, by decide +kernel⟩, List.mem_of_getElem? (i := 1196) (by decide +kernel), List.mem_of_getElem? (i := 1771) (by decide +kernel), List.mem_of_getElem? (i := 1772) (by decide +kernel)⟩
theorem lw_p107 : lw_okq (⟨"CakePapersModel", "allByOne", "()V"⟩, 80) := ⟨⟨by decide +kernel, by decide +kernel⟩, List.mem_of_getElem? (i := 1196) (by decide +kernel), List.mem_of_getElem? (i := 1775) (by decide +kernel), List.mem_of_getElem? (i := 1776) (by decide +kernel)⟩
theorem lw_p108 : lw_okq (⟨"CakePapersModel", "isOfWords", "(I)Z"⟩, 80) := ⟨⟨by decide +kernel, by decide +kernel⟩, List.mem_of_getElem? (i := 1196) (by decide +kernel), List.mem_of_getElem? (i := 1779) (by decide +kernel), List.mem_of_getElem? (i := 1780) (by decide +kernel)⟩
theorem lw_p109 : lw_okq (⟨"CakePapersModel", "joins", "()Z"⟩, 80) := ⟨⟨by decide +kernel, by decide +kernel⟩, List.mem_of_getElem? (i := 1196) (by decide +kernel), List.mem_of_getElem? (i := 1783) (by decide +kernel), List.mem_of_getElem? (i := 1784) (by decide +kernel)⟩
theorem lw_p110 : lw_okq (⟨"CakePapersModel", "bothStep", "(I)V"⟩, 80) := ⟨⟨by decide +kernel, by decide +kernel⟩, List.mem_of_getElem? (i := 1196) (by decide +kernel), List.mem_of_getElem? (i := 1787) (by decide +kernel), List.mem_of_getElem? (i := 1788) (by decide +kernel)⟩
theorem lw_p111 : lw_okq (⟨"CakePapersModel", "sideOf", "(II)I"⟩, 80) := ⟨⟨by decide +kernel, by decide +kernel⟩, List.mem_of_getElem? (i := 1196) (by decide +kernel), List.mem_of_getElem? (i := 1791) (by decide +kernel), List.mem_of_getElem? (i := 1792) (by decide +kernel)⟩
def lw_privs_7 : List (MethodName × Nat) := [(⟨"CakePapersModel", "canCome", "(I)Z"⟩, 80), (⟨"CakePapersModel", "rowMaker", "(JZ)I"⟩, 80), (⟨"CakePapersModel", "isBroken", "(I)Z"⟩, 80), (⟨"CakePapersModel", "layJoin", "(III)V"⟩, 80), (⟨"CakePapersModel", "joinStep", "(J)V"⟩, 80), (⟨"CakePapersModel", "layQuarrels", "(I)V"⟩, 80), (⟨"CakePapersModel", "giver", "(II)I"⟩, 80), (⟨"CakePapersModel", "quarrelAt", "(II)V"⟩, 80), (⟨"CakePapersModel", "isAltered", "(II)Z"⟩, 80), (⟨"CakePapersModel", "isQuarrel", "(I)Z"⟩, 80), (⟨"CakePapersModel", "layTold", "()V"⟩, 80), (⟨"CakePapersModel", "allByOne", "()V"⟩, 80), (⟨"CakePapersModel", "isOfWords", "(I)Z"⟩, 80), (⟨"CakePapersModel", "joins", "()Z"⟩, 80), (⟨"CakePapersModel", "bothStep", "(I)V"⟩, 80), (⟨"CakePapersModel", "sideOf", "(II)I"⟩, 80)]
theorem lw_r7 : ∀ q ∈ lw_privs_7, lw_okq q := List.forall_mem_cons.mpr ⟨lw_p96, List.forall_mem_cons.mpr ⟨lw_p97, List.forall_mem_cons.mpr ⟨lw_p98, List.forall_mem_cons.mpr ⟨lw_p99, List.forall_mem_cons.mpr ⟨lw_p100, List.forall_mem_cons.mpr ⟨lw_p101, List.forall_mem_cons.mpr ⟨lw_p102, List.forall_mem_cons.mpr ⟨lw_p103, List.forall_mem_cons.mpr ⟨lw_p104, List.forall_mem_cons.mpr ⟨lw_p105, List.forall_mem_cons.mpr ⟨lw_p106, List.forall_mem_cons.mpr ⟨lw_p107, List.forall_mem_cons.mpr ⟨lw_p108, List.forall_mem_cons.mpr ⟨lw_p109, List.forall_mem_cons.mpr ⟨lw_p110, List.forall_mem_cons.mpr ⟨lw_p111, fun _ h => absurd h List.not_mem_nil⟩⟩⟩⟩⟩⟩⟩⟩⟩⟩⟩⟩⟩⟩⟩⟩
theorem lw_p112 : lw_okq (⟨"CakePapersModel", "paperOf", "(I)I"⟩, 80) := ⟨⟨by decide +kernel, by decide +kernel⟩, List.mem_of_getElem? (i := 1196) (by decide +kernel), List.mem_of_getElem? (i := 1795) (by decide +kernel), List.mem_of_getElem? (i := 1796) (by decide +kernel)⟩
theorem lw_p113 : lw_okq (⟨"CakePapersModel", "stepOf", "(II)I"⟩, 80) := ⟨⟨by decide +kernel, by decide +kernel⟩, List.mem_of_getElem? (i := 1196) (by decide +kernel), List.mem_of_getElem? (i := 1799) (by decide +kernel), List.mem_of_getElem? (i := 1800) (by decide +kernel)⟩
theorem lw_p114 : lw_okq (⟨"CakePapersModel", "rowBecomes", "(I)V"⟩, 80) := ⟨⟨by decide +kernel, by decide +kernel⟩, List.mem_of_getElem? (i := 1196) (by decide +kernel), List.mem_of_getElem? (i := 1803) (by decide +kernel), List.mem_of_getElem? (i := 1804) (by decide +kernel)⟩
theorem lw_p115 : lw_okq (⟨"CakePapersModel", "settledMany", "()I"⟩, 80) := ⟨⟨by decide +kernel, by decide +kernel⟩, List.mem_of_getElem? (i := 1196) (by decide +kernel), List.mem_of_getElem? (i := 1815) (by decide +kernel), List.mem_of_getElem? (i := 1816) (by decide +kernel)⟩
theorem lw_p116 : lw_okq (⟨"CakePapersModel", "findBest", "()V"⟩, 80) := ⟨⟨by decide +kernel, by decide +kernel⟩, List.mem_of_getElem? (i := 1196) (by decide +kernel), List.mem_of_getElem? (i := 1823) (by decide +kernel), List.mem_of_getElem? (i := 1824) (by decide +kernel)⟩
theorem lw_p117 : lw_okq (⟨"CakePapersModel", "isUnchanged", "(I)Z"⟩, 80) := ⟨⟨by decide +kernel, by decide +kernel⟩, List.mem_of_getElem? (i := 1196) (by decide +kernel), List.mem_of_getElem? (i := 1834) (by decide +kernel), List.mem_of_getElem? (i := 1835) (by decide +kernel)⟩
theorem lw_p118 : lw_okq (⟨"CakePapersModel", "findAlone", "(I)V"⟩, 80) := ⟨⟨by decide +kernel, by decide +kernel⟩, List.mem_of_getElem? (i := 1196) (by decide +kernel), List.mem_of_getElem? (i := 1842) (by decide +kernel), List.mem_of_getElem? (i := 1843) (by decide +kernel)⟩
theorem lw_p119 : lw_okq (⟨"CakePapersModel", "noneDone", "()V"⟩, 80) := ⟨⟨by decide +kernel, by decide +kernel⟩, List.mem_of_getElem? (i := 1196) (by decide +kernel), List.mem_of_getElem? (i := 1846) (by decide +kernel), List.mem_of_getElem? (i := 1847) (by decide +kernel)⟩
theorem lw_p120 : lw_okq (⟨"CakePapersModel", "holds", "(IIIII)Z"⟩, 80) := ⟨⟨by decide +kernel, by decide +kernel⟩, List.mem_of_getElem? (i := 1196) (by decide +kernel), List.mem_of_getElem? (i := 1854) (by decide +kernel), List.mem_of_getElem? (i := 1855) (by decide +kernel)⟩
theorem lw_p121 : lw_okq (⟨"CakePapersModel", "joinsTo", "(IIII)Z"⟩, 80) := ⟨⟨by decide +kernel, by decide +kernel⟩, List.mem_of_getElem? (i := 1196) (by decide +kernel), List.mem_of_getElem? (i := 1858) (by decide +kernel), List.mem_of_getElem? (i := 1859) (by decide +kernel)⟩
theorem lw_p122 : lw_okq (⟨"CakePapersModel", "blamed", "()I"⟩, 80) := ⟨⟨by decide +kernel, by decide +kernel⟩, List.mem_of_getElem? (i := 1196) (by decide +kernel), List.mem_of_getElem? (i := 1870) (by decide +kernel), List.mem_of_getElem? (i := 1871) (by decide +kernel)⟩
theorem lw_p123 : lw_okq (⟨"CakePapersModel", "isAnyAlike", "(IIII)Z"⟩, 80) := ⟨⟨by decide +kernel, by decide +kernel⟩, List.mem_of_getElem? (i := 1196) (by decide +kernel), List.mem_of_getElem? (i := 1878) (by decide +kernel), List.mem_of_getElem? (i := 1879) (by decide +kernel)⟩
theorem lw_p124 : lw_okq (⟨"CakePapersModel", "e", "()V"⟩, 80) := ⟨⟨by decide +kernel, by decide +kernel⟩, List.mem_of_getElem? (i := 1196) (by decide +kernel), List.mem_of_getElem? (i := 1886) (by decide +kernel), List.mem_of_getElem? (i := 1887) (by decide +kernel)⟩
theorem lw_p125 : lw_okq (⟨"CakePapersModel", "pushE", "(II)V"⟩, 80) := ⟨⟨by decide +kernel, by decide +kernel⟩, List.mem_of_getElem? (i := 1196) (by decide +kernel), List.mem_of_getElem? (i := 1890) (by decide +kernel), List.mem_of_getElem? (i := 1891) (by decide +kernel)⟩
theorem lw_p126 : lw_okq (⟨"CakePapersModel", "unit", "()Z"⟩, 80) := ⟨⟨by decide +kernel, by decide +kernel⟩, List.mem_of_getElem? (i := 1196) (by decide +kernel), List.mem_of_getElem? (i := 1894) (by decide +kernel), List.mem_of_getElem? (i := 1895) (by decide +kernel)⟩
theorem lw_p127 : lw_okq (⟨"CakePapersModel", "wordHere", "()I"⟩, 80) := ⟨⟨by decide +kernel, by decide +kernel⟩, List.mem_of_getElem? (i := 1196) (by decide +kernel), List.mem_of_getElem? (i := 1898) (by decide +kernel), List.mem_of_getElem? (i := 1899) (by decide +kernel)⟩
def lw_privs_8 : List (MethodName × Nat) := [(⟨"CakePapersModel", "paperOf", "(I)I"⟩, 80), (⟨"CakePapersModel", "stepOf", "(II)I"⟩, 80), (⟨"CakePapersModel", "rowBecomes", "(I)V"⟩, 80), (⟨"CakePapersModel", "settledMany", "()I"⟩, 80), (⟨"CakePapersModel", "findBest", "()V"⟩, 80), (⟨"CakePapersModel", "isUnchanged", "(I)Z"⟩, 80), (⟨"CakePapersModel", "findAlone", "(I)V"⟩, 80), (⟨"CakePapersModel", "noneDone", "()V"⟩, 80), (⟨"CakePapersModel", "holds", "(IIIII)Z"⟩, 80), (⟨"CakePapersModel", "joinsTo", "(IIII)Z"⟩, 80), (⟨"CakePapersModel", "blamed", "()I"⟩, 80), (⟨"CakePapersModel", "isAnyAlike", "(IIII)Z"⟩, 80), (⟨"CakePapersModel", "e", "()V"⟩, 80), (⟨"CakePapersModel", "pushE", "(II)V"⟩, 80), (⟨"CakePapersModel", "unit", "()Z"⟩, 80), (⟨"CakePapersModel", "wordHere", "()I"⟩, 80)]
theorem lw_r8 : ∀ q ∈ lw_privs_8, lw_okq q := List.forall_mem_cons.mpr ⟨lw_p112, List.forall_mem_cons.mpr ⟨lw_p113, List.forall_mem_cons.mpr ⟨lw_p114, List.forall_mem_cons.mpr ⟨lw_p115, List.forall_mem_cons.mpr ⟨lw_p116, List.forall_mem_cons.mpr ⟨lw_p117, List.forall_mem_cons.mpr ⟨lw_p118, List.forall_mem_cons.mpr ⟨lw_p119, List.forall_mem_cons.mpr ⟨lw_p120, List.forall_mem_cons.mpr ⟨lw_p121, List.forall_mem_cons.mpr ⟨lw_p122, List.forall_mem_cons.mpr ⟨lw_p123, List.forall_mem_cons.mpr ⟨lw_p124, List.forall_mem_cons.mpr ⟨lw_p125, List.forall_mem_cons.mpr ⟨lw_p126, List.forall_mem_cons.mpr ⟨lw_p127, fun _ h => absurd h List.not_mem_nil⟩⟩⟩⟩⟩⟩⟩⟩⟩⟩⟩⟩⟩⟩⟩⟩
theorem lw_p128 : lw_okq (⟨"CakePapersModel", "emit", "(IIJ)V"⟩, 80) := ⟨⟨by decide +kernel, by decide +kernel⟩, List.mem_of_getElem? (i := 1196) (by decide +kernel), List.mem_of_getElem? (i := 1902) (by decide +kernel), List.mem_of_getElem? (i := 1903) (by decide +kernel)⟩
theorem lw_p129 : lw_okq (⟨"CakePapersModel", "behindUnit", "()Z"⟩, 80) := ⟨⟨by decide +kernel, by decide +kernel⟩, List.mem_of_getElem? (i := 1196) (by decide +kernel), List.mem_of_getElem? (i := 1906) (by decide +kernel), List.mem_of_getElem? (i := 1907) (by decide +kernel)⟩
theorem lw_p130 : lw_okq (⟨"CakePapersModel", "rankHere", "()I"⟩, 80) := ⟨⟨by decide +kernel, by decide +kernel⟩, List.mem_of_getElem? (i := 1196) (by decide +kernel), List.mem_of_getElem? (i := 1910) (by decide +kernel), List.mem_of_getElem? (i := 1911) (by decide +kernel)⟩
theorem lw_p131 : lw_okq (⟨"CakePapersModel", "isCompared", "()Z"⟩, 80) := ⟨⟨by decide +kernel, by decide +kernel⟩, List.mem_of_getElem? (i := 1196) (by decide +kernel), List.mem_of_getElem? (i := 1914) (by decide +kernel), List.mem_of_getElem? (i := 1915) (by decide +kernel)⟩
theorem lw_p132 : lw_okq (⟨"CakePapersModel", "keepPaper", "(IIZ)V"⟩, 80) := ⟨⟨by decide +kernel, by decide +kernel⟩, List.mem_of_getElem? (i := 1196) (by decide +kernel), List.mem_of_getElem? (i := 1926) (by decide +kernel), List.mem_of_getElem? (i := 1927) (by decide +kernel)⟩
def lw_privs_9 : List (MethodName × Nat) := [(⟨"CakePapersModel", "emit", "(IIJ)V"⟩, 80), (⟨"CakePapersModel", "behindUnit", "()Z"⟩, 80), (⟨"CakePapersModel", "rankHere", "()I"⟩, 80), (⟨"CakePapersModel", "isCompared", "()Z"⟩, 80), (⟨"CakePapersModel", "keepPaper", "(IIZ)V"⟩, 80)]
theorem lw_r9 : ∀ q ∈ lw_privs_9, lw_okq q := List.forall_mem_cons.mpr ⟨lw_p128, List.forall_mem_cons.mpr ⟨lw_p129, List.forall_mem_cons.mpr ⟨lw_p130, List.forall_mem_cons.mpr ⟨lw_p131, List.forall_mem_cons.mpr ⟨lw_p132, fun _ h => absurd h List.not_mem_nil⟩⟩⟩⟩⟩
def lw_privs : List (MethodName × Nat) := lw_privs_1 ++ (lw_privs_2 ++ (lw_privs_3 ++ (lw_privs_4 ++ (lw_privs_5 ++ (lw_privs_6 ++ (lw_privs_7 ++ (lw_privs_8 ++ (lw_privs_9))))))))
def lw_tbl : List Cond := k2_sels lw_privs ++ tables_1
theorem lw_privs_ok : ∀ q ∈ lw_privs, lw_okq q := by
  show ∀ q ∈ lw_privs_1 ++ (lw_privs_2 ++ (lw_privs_3 ++ (lw_privs_4 ++ (lw_privs_5 ++ (lw_privs_6 ++ (lw_privs_7 ++ (lw_privs_8 ++ (lw_privs_9)))))))), lw_okq q
  exact List.forall_mem_append.mpr ⟨lw_r1, List.forall_mem_append.mpr ⟨lw_r2, List.forall_mem_append.mpr ⟨lw_r3, List.forall_mem_append.mpr ⟨lw_r4, List.forall_mem_append.mpr ⟨lw_r5, List.forall_mem_append.mpr ⟨lw_r6, List.forall_mem_append.mpr ⟨lw_r7, List.forall_mem_append.mpr ⟨lw_r8, lw_r9⟩⟩⟩⟩⟩⟩⟩⟩
end
section
def RX0 : String := "CakePapers$Changes"
def TX0 : u_T := fun k => match k with
  | 0 => ("CakePapers$Changes", "kinds", "[I", true)
  | 1 => ("CakePapers$Changes", "steps", "[I", true)
  | 2 => ("CakePapers$Changes", "signs", "[I", true)
  | 3 => ("CakePapers$Changes", "otherSigns", "[I", true)
  | 4 => ("CakePapers$Changes", "count", "I", false)
  | 5 => ("CakePapers$Changes", "from", "LCakePapers$Paper;", false)
  | _ => ("CakePapers$Changes", "to", "LCakePapers$Paper;", false)
def RX1 : String := "CakePapers$Desk"
def TX1 : u_T := fun k => match k with
  | 0 => ("CakePapers$Desk", "papers", "[LCakePapers$Paper;", true)
  | 1 => ("CakePapers$Desk", "joining", "LCakePapers$Joining;", true)
  | _ => ("CakePapers$Desk", "count", "I", false)
abbrev wsX10 : List Cond := u_ws RX1 TX1 3
abbrev cX1_get : ByteArray := prog_3_method_3_code
def yX1_get : MethodName := ⟨RX1, "get", "(I)LCakePapers$Paper;"⟩
def RX2 : String := "CakePapers$Draft"
def TX2 : u_T := fun k => match k with
  | 0 => ("CakePapers$Draft", "sheet", "LCakePapers$Paper;", true)
  | 1 => ("CakePapers$Draft", "wasMade", "[Z", true)
  | 2 => ("CakePapers$Draft", "order", "[I", true)
  | _ => ("CakePapers$Draft", "placed", "[Z", true)
def RX3 : String := "CakePapers$Joiner"
def TX3 : u_T := fun k => match k with
  | 0 => ("CakePapers$Joiner", "draft", "LCakePapers$Draft;", true)
  | 1 => ("CakePapers$Joiner", "likeness", "LCakePapers$Likeness;", true)
  | 2 => ("CakePapers$Joiner", "trial", "LCakePapers$Joining;", true)
  | 3 => ("CakePapers$Joiner", "half", "LCakePapers$Paper;", true)
  | 4 => ("CakePapers$Joiner", "leftResult", "LCakePapers$Paper;", true)
  | 5 => ("CakePapers$Joiner", "rightResult", "LCakePapers$Paper;", true)
  | 6 => ("CakePapers$Joiner", "row", "[I", true)
  | 7 => ("CakePapers$Joiner", "bestRow", "[I", true)
  | 8 => ("CakePapers$Joiner", "bestKnown", "Z", false)
  | 9 => ("CakePapers$Joiner", "bestFound", "Z", false)
  | _ => ("CakePapers$Joiner", "bestWant", "I", false)
def RX4 : String := "CakePapers$Joining"
def TX4 : u_T := fun k => match k with
  | 0 => ("CakePapers$Joining", "base", "LCakePapers$Paper;", false)
  | 1 => ("CakePapers$Joining", "one", "LCakePapers$Paper;", false)
  | 2 => ("CakePapers$Joining", "other", "LCakePapers$Paper;", false)
  | 3 => ("CakePapers$Joining", "inBase", "[I", true)
  | 4 => ("CakePapers$Joining", "inOne", "[I", true)
  | 5 => ("CakePapers$Joining", "inOther", "[I", true)
  | 6 => ("CakePapers$Joining", "oneChanged", "[I", true)
  | 7 => ("CakePapers$Joining", "otherChanged", "[I", true)
  | 8 => ("CakePapers$Joining", "quarrelStep", "[I", true)
  | 9 => ("CakePapers$Joining", "quarrelField", "[I", true)
  | 10 => ("CakePapers$Joining", "sides", "[I", true)
  | 11 => ("CakePapers$Joining", "steps", "I", false)
  | _ => ("CakePapers$Joining", "quarrels", "I", false)
def RX5 : String := "CakePapers$Likeness"
def TX5 : u_T := fun k => match k with
  | 0 => ("CakePapers$Likeness", "alikes", "[Z", true)
  | 1 => ("CakePapers$Likeness", "used", "[Z", true)
  | 2 => ("CakePapers$Likeness", "weights", "[I", true)
  | 3 => ("CakePapers$Likeness", "lightest", "[I", true)
  | 4 => ("CakePapers$Likeness", "first", "LCakePapers$Paper;", false)
  | _ => ("CakePapers$Likeness", "second", "LCakePapers$Paper;", false)
def RX6 : String := "CakePapers$Paper"
def TX6 : u_T := fun k => match k with
  | 0 => ("CakePapers$Paper", "makes", "[J", true)
  | 1 => ("CakePapers$Paper", "verbs", "[J", true)
  | 2 => ("CakePapers$Paper", "much", "[I", true)
  | 3 => ("CakePapers$Paper", "lasts", "[I", true)
  | 4 => ("CakePapers$Paper", "needCount", "[I", true)
  | 5 => ("CakePapers$Paper", "needs", "[J", true)
  | 6 => ("CakePapers$Paper", "makers", "[I", true)
  | 7 => ("CakePapers$Paper", "isEnd", "[Z", true)
  | 8 => ("CakePapers$Paper", "reach", "[I", true)
  | 9 => ("CakePapers$Paper", "steps", "I", false)
  | 10 => ("CakePapers$Paper", "ends", "I", false)
  | 11 => ("CakePapers$Paper", "path", "I", false)
  | 12 => ("CakePapers$Paper", "allMuch", "I", false)
  | _ => ("CakePapers$Paper", "allLong", "I", false)
def RX7 : String := "CakePapers$PaperReader"
def TX7 : u_T := fun k => match k with
  | 0 => ("CakePapers$PaperReader", "scanner", "LCakePapers$Scanner;", true)
  | 1 => ("CakePapers$PaperReader", "called", "[J", true)
  | 2 => ("CakePapers$PaperReader", "meant", "[J", true)
  | _ => ("CakePapers$PaperReader", "calls", "I", false)
def RX8 : String := "CakePapers$Scanner"
def TX8 : u_T := fun k => match k with
  | 0 => ("CakePapers$Scanner", "words", "[J", true)
  | 1 => ("CakePapers$Scanner", "bytes", "[I", false)
  | 2 => ("CakePapers$Scanner", "length", "I", false)
  | 3 => ("CakePapers$Scanner", "at", "I", false)
  | 4 => ("CakePapers$Scanner", "kind", "I", false)
  | 5 => ("CakePapers$Scanner", "place", "I", false)
  | 6 => ("CakePapers$Scanner", "number", "I", false)
  | 7 => ("CakePapers$Scanner", "name", "J", false)
  | 8 => ("CakePapers$Scanner", "fault", "I", false)
  | _ => ("CakePapers$Scanner", "faultPlace", "I", false)
def RX9 : String := "CakePapers$Want"
def TX9 : u_T := fun k => match k with
  | 0 => ("CakePapers$Want", "codes", "[I", true)
  | 1 => ("CakePapers$Want", "values", "[J", true)
  | 2 => ("CakePapers$Want", "stack", "[I", true)
  | 3 => ("CakePapers$Want", "length", "I", false)
  | _ => ("CakePapers$Want", "units", "I", false)
def RX10 : String := "CakePapers$WantReader"
def TX10 : u_T := fun k => match k with
  | 0 => ("CakePapers$WantReader", "scanner", "LCakePapers$Scanner;", true)
  | _ => ("CakePapers$WantReader", "into", "LCakePapers$Want;", false)
def RX11 : String := "CakePapers"
def TX11 : u_T := fun k => match k with
  | 0 => ("CakePapers", "tape", "[I", true)
  | 1 => ("CakePapers", "taped", "I", false)
  | 2 => ("CakePapers", "scanner", "LCakePapers$Scanner;", true)
  | 3 => ("CakePapers", "paperReader", "LCakePapers$PaperReader;", true)
  | 4 => ("CakePapers", "wantReader", "LCakePapers$WantReader;", true)
  | 5 => ("CakePapers", "desk", "LCakePapers$Desk;", true)
  | 6 => ("CakePapers", "boxes", "[LCakePapers$Desk;", true)
  | 7 => ("CakePapers", "sparePaper", "LCakePapers$Paper;", false)
  | 8 => ("CakePapers", "wanted", "LCakePapers$Want;", false)
  | 9 => ("CakePapers", "spareWant", "LCakePapers$Want;", false)
  | 10 => ("CakePapers", "likeness", "LCakePapers$Likeness;", true)
  | 11 => ("CakePapers", "joiner", "LCakePapers$Joiner;", true)
  | 12 => ("CakePapers", "changesOfOne", "LCakePapers$Changes;", true)
  | 13 => ("CakePapers", "changesOfOther", "LCakePapers$Changes;", true)
  | 14 => ("CakePapers", "chosen", "[Z", true)
  | _ => ("CakePapers", "draft", "LCakePapers$Draft;", true)
def RX12 : String := "CakePapersModel"
def TX12 : u_T := fun k => match k with
  | 0 => ("CakePapersModel", "tape", "[B", true)
  | 1 => ("CakePapersModel", "text", "[B", true)
  | 2 => ("CakePapersModel", "taped", "I", false)
  | 3 => ("CakePapersModel", "size", "I", false)
  | 4 => ("CakePapersModel", "faultKind", "I", false)
  | 5 => ("CakePapersModel", "faultPlace", "I", false)
  | 6 => ("CakePapersModel", "at", "I", false)
  | 7 => ("CakePapersModel", "end", "I", false)
  | 8 => ("CakePapersModel", "token", "I", false)
  | 9 => ("CakePapersModel", "number", "I", false)
  | 10 => ("CakePapersModel", "name", "J", false)
  | 11 => ("CakePapersModel", "many", "[I", true)
  | 12 => ("CakePapersModel", "much", "[I", true)
  | 13 => ("CakePapersModel", "length", "[I", true)
  | 14 => ("CakePapersModel", "needMany", "[I", true)
  | 15 => ("CakePapersModel", "makes", "[J", true)
  | 16 => ("CakePapersModel", "verb", "[J", true)
  | 17 => ("CakePapersModel", "need", "[J", true)
  | 18 => ("CakePapersModel", "called", "[J", true)
  | 19 => ("CakePapersModel", "calledTo", "[J", true)
  | 20 => ("CakePapersModel", "papers", "I", false)
  | 21 => ("CakePapersModel", "calls", "I", false)
  | 22 => ("CakePapersModel", "way", "[I", true)
  | 23 => ("CakePapersModel", "sort", "[I", true)
  | 24 => ("CakePapersModel", "cMany", "[I", true)
  | 25 => ("CakePapersModel", "cKind", "[I", true)
  | 26 => ("CakePapersModel", "cStep", "[I", true)
  | 27 => ("CakePapersModel", "cFrom", "[I", true)
  | 28 => ("CakePapersModel", "cTo", "[I", true)
  | 29 => ("CakePapersModel", "oneRow", "[I", true)
  | 30 => ("CakePapersModel", "twoRow", "[I", true)
  | 31 => ("CakePapersModel", "oneMany", "I", false)
  | 32 => ("CakePapersModel", "twoMany", "I", false)
  | 33 => ("CakePapersModel", "least", "[I", true)
  | 34 => ("CakePapersModel", "then", "[I", true)
  | 35 => ("CakePapersModel", "isThere", "[Z", true)
  | 36 => ("CakePapersModel", "isPlaced", "[Z", true)
  | 37 => ("CakePapersModel", "wasMade", "[Z", true)
  | 38 => ("CakePapersModel", "order", "[I", true)
  | 39 => ("CakePapersModel", "rowMany", "I", false)
  | 40 => ("CakePapersModel", "placed", "I", false)
  | 41 => ("CakePapersModel", "breach", "I", false)
  | 42 => ("CakePapersModel", "breachStep", "I", false)
  | 43 => ("CakePapersModel", "isDone", "[Z", true)
  | 44 => ("CakePapersModel", "jBase", "[I", true)
  | 45 => ("CakePapersModel", "jOne", "[I", true)
  | 46 => ("CakePapersModel", "jOther", "[I", true)
  | 47 => ("CakePapersModel", "qStep", "[I", true)
  | 48 => ("CakePapersModel", "qField", "[I", true)
  | 49 => ("CakePapersModel", "qSide", "[I", true)
  | 50 => ("CakePapersModel", "jMany", "I", false)
  | 51 => ("CakePapersModel", "quarrels", "I", false)
  | 52 => ("CakePapersModel", "joinBase", "I", false)
  | 53 => ("CakePapersModel", "joinOne", "I", false)
  | 54 => ("CakePapersModel", "joinOther", "I", false)
  | 55 => ("CakePapersModel", "tSide", "[I", true)
  | 56 => ("CakePapersModel", "tBase", "I", false)
  | 57 => ("CakePapersModel", "tOne", "I", false)
  | 58 => ("CakePapersModel", "tOther", "I", false)
  | 59 => ("CakePapersModel", "tMany", "I", false)
  | 60 => ("CakePapersModel", "isJoining", "Z", false)
  | 61 => ("CakePapersModel", "bestWant", "I", false)
  | 62 => ("CakePapersModel", "bestRow", "I", false)
  | 63 => ("CakePapersModel", "isGoodAlone", "[Z", true)
  | 64 => ("CakePapersModel", "code", "[I", true)
  | 65 => ("CakePapersModel", "codeNumber", "[I", true)
  | 66 => ("CakePapersModel", "codes", "[I", true)
  | 67 => ("CakePapersModel", "unitsOf", "[I", true)
  | 68 => ("CakePapersModel", "eWhat", "[I", true)
  | 69 => ("CakePapersModel", "eSign", "[I", true)
  | 70 => ("CakePapersModel", "pile", "[I", true)
  | 71 => ("CakePapersModel", "codeName", "[J", true)
  | 72 => ("CakePapersModel", "wantBank", "I", false)
  | 73 => ("CakePapersModel", "wb", "I", false)
  | 74 => ("CakePapersModel", "within", "I", false)
  | 75 => ("CakePapersModel", "piled", "I", false)
  | 76 => ("CakePapersModel", "boxMany", "[I", true)
  | 77 => ("CakePapersModel", "boxJoin", "[I", true)
  | 78 => ("CakePapersModel", "boxSide", "[I", true)
  | _ => ("CakePapersModel", "boxJoining", "[Z", true)
theorem dX1_get_0 : decode cX1_get 0 = .ok (.iload_n 1, 1) := by decide +kernel
theorem dX1_get_1 : decode cX1_get 1 = .ok (.ifCond .lt 20, 3) := by decide +kernel
theorem dX1_get_4 : decode cX1_get 4 = .ok (.iload_n 1, 1) := by decide +kernel
theorem dX1_get_5 : decode cX1_get 5 = .ok (.aload_n 0, 1) := by decide +kernel
theorem dX1_get_6 : decode cX1_get 6 = .ok (.getfield 24, 3) := by decide +kernel
theorem dX1_get_9 : decode cX1_get 9 = .ok (.if_icmp .ge 12, 3) := by decide +kernel
theorem dX1_get_21 : decode cX1_get 21 = .ok (.aconst_null, 1) := by decide +kernel
theorem dX1_get_22 : decode cX1_get 22 = .ok (.areturn, 1) := by decide +kernel
abbrev vwCl : List vw_C := [(RX0, TX0, 7), (RX1, TX1, 3), (RX2, TX2, 4), (RX3, TX3, 11), (RX4, TX4, 13), (RX5, TX5, 6), (RX6, TX6, 14), (RX7, TX7, 4), (RX8, TX8, 10), (RX9, TX9, 5), (RX10, TX10, 2), (RX11, TX11, 16), (RX12, TX12, 80)]
end
section
theorem zz_ci {p : Program} {l : Launch} {e : Env} {R : Room} {s : State} {m : MethodId} {args : Array Value} {below : List Frame} {meth : Method} {c : Code} {H : Heap} {locs : List Loc} {cells slots : Nat} {Q : State → Prop} {pc : Nat} {ls : Array Slot} {rest : List Value} {x y : Int32} (h : x = y) (k : W p l e R s m args below meth c H locs cells slots Q (F0 m pc ls (.int y :: rest))) : W p l e R s m args below meth c H locs cells slots Q (F0 m pc ls (.int x :: rest)) := h ▸ k
theorem zz_P0 {D : va_G} {cl : List vw_C} {H : Heap} : va_P D cl [] H := fun k q h => by simp at h
theorem zz_D0 {A : Nat → Prop} : va_D A [] := ⟨fun i j p q h => by simp at h, fun k q h => by simp at h⟩
end
section
def u_c_X1_get : List Cond := .code yX1_get cX1_get 2 (some (.object "CakePapers$Paper")) :: ([.fieldLink RX1 24 "CakePapers$Desk" "count" "I"] ++ wsX10)
set_option maxHeartbeats 4000000 in
set_option maxRecDepth 100000 in
theorem c_X1_get (l : Launch) (dC : Nat → ClassId) (dI : Nat → Nat → Nat) (sz : Nat) (h0 : Nat) (fs : List Value) (hn_fs : fs.length = 3) (e_fs_2 : fs[2]? = some (.int 0)) (p0 : Int32) : Met l yX1_get u_c_X1_get ({ frames := 0, cells := 0, slots := 0, locals := 0 }) (va_Pc [.ref h0, .int p0] (fun U => U.heap.size = sz ∧ va_P (dC, dI) vwCl [(h0, .inr (1, fs))] U.heap ∧ va_K (dC, dI) vwCl [] U ∧ va_D (fun _ => True) [(h0, .inr (1, fs))])) (va_Qq (fun (r : Option Nat) (_ : Unit) => r = none) (fun _ t => va_P (dC, dI) vwCl [(h0, .inr (1, fs))] t.heap ∧ va_D (va_A [(h0, .inr (1, fs))] sz) [(h0, .inr (1, fs))]) (va_A [(h0, .inr (1, fs))] sz)) 0 0 (va_A [(h0, .inr (1, fs))] sz) := by
  refine Met.ofW (cc := cX1_get) (maxL := 2) (ret := (some (.object "CakePapers$Paper"))) (by decide) rfl ?_
  intro p e s m args below meth c s₁ B hml hv
  obtain ⟨rfl, hsz, hP, hK, hD0⟩ := hv
  have hx := B.exec
  have hb := B.bytes
  have hr := B.returns
  have hts := atoms_spec (ws := u_c_X1_get) B.pre
  have hown : s.vm.findClass RX1 = some m.cls := findClass_of_methodNamed B.named
  have hlocks := B.notSynchronized
  have hiX1 : ∀ w ∈ wsX10, w ∈ u_c_X1_get := fun w h => List.mem_cons_of_mem _ (List.mem_append_right _ h)
  subst hsz
  have hD := hD0.self (sz := s.heap.size)
  generalize hAe : va_A [(h0, .inr (1, fs))] s.heap.size = A at hD ⊢
  have hA : ∀ q : Nat, s.heap.size ≤ q → A q := fun q h => by rw [← hAe]; exact Or.inr h
  have hS : va_S A s.heap s.heap [] := va_S.rf
  obtain ⟨H, hH⟩ : ∃ H : Heap, H = s.heap := ⟨_, rfl⟩
  have hP : va_P (dC, dI) vwCl [(h0, .inr (1, fs))] H := by rw [hH]; exact hP
  have hS : va_S A s.heap H [] := by rw [hH]; exact hS
  have hl := lv_entry ([.ref h0, .int p0]) (n := 2) (Nat.le_of_ble_eq_true rfl)
  rw [lg_entry_eq]
  generalize (lg_sl ([.ref h0, .int p0]) ++ List.replicate (2 - (lg_sl ([.ref h0, .int p0])).length) Slot.unset).toArray = ls at hl ⊢
  have hl : lv_has ls 2 [(0, .ref h0), (1, .int p0)] := hl
  suffices h9 : W p l e (headSpec u_c_X1_get _).room s m _ below meth c H [] 0 0 _ (F0 m 0 ls []) by rw [hH] at h9; exact h9
  refine lv_iload_n hx hb dX1_get_0 rfl (lv_at hl 1 rfl) ?_
  refine lv_if_lt (tgt := 21) hx hb dX1_get_1 (by decide) (fun c_1 => ?_) (fun c_1 => ?_)
  · refine lv_null hx hb dX1_get_21 ?_
    refine W.widen (k := 0) (n := 0) (Nat.le_of_ble_eq_true rfl) (Nat.le_of_ble_eq_true rfl) ?_
    have hP9 := hP.sub (ws' := [(h0, .inr (1, fs))]) [0] rfl
    have hD9 := hD.sub (ws' := [(h0, .inr (1, fs))]) [0] (by decide) rfl
    exact W.aret (v := .null) hx hb hr (Or.inl ⟨_, rfl⟩) (Or.inl rfl) (fun t ht hW => ⟨⟨none, (), rfl, rfl, by rw [ht]; exact hP9, hD9⟩, hS.F ht⟩) hS.2.2 dX1_get_22
  · refine lv_iload_n hx hb dX1_get_4 rfl (lv_at hl 1 rfl) ?_
    refine lv_aload_n hx hb dX1_get_5 rfl (lv_at hl 0 rfl) ?_
    refine va_get (D := (dC, dI)) (ci := 1) (v := .int 0) (C := RX1) (T := TX1) (N := 3) hx hb hts hiX1 hown hK hP 0 rfl rfl 2 (by decide) (hts (.fieldLink RX1 24 "CakePapers$Desk" "count" "I") (by decide +kernel)) (fun _ h9 => h9) e_fs_2 dX1_get_6 ?_
    refine lv_icmp_ge (tgt := 21) hx hb dX1_get_9 (by decide) (fun c_2 => ?_) (fun c_2 => absurd (Int32.not_lt.mp c_1) c_2)
    refine lv_null hx hb dX1_get_21 ?_
    refine W.widen (k := 0) (n := 0) (Nat.le_of_ble_eq_true rfl) (Nat.le_of_ble_eq_true rfl) ?_
    have hP9 := hP.sub (ws' := [(h0, .inr (1, fs))]) [0] rfl
    have hD9 := hD.sub (ws' := [(h0, .inr (1, fs))]) [0] (by decide) rfl
    exact W.aret (v := .null) hx hb hr (Or.inl ⟨_, rfl⟩) (Or.inl rfl) (fun t ht hW => ⟨⟨none, (), rfl, rfl, by rw [ht]; exact hP9, hD9⟩, hS.F ht⟩) hS.2.2 dX1_get_22
end
